-- 04 words
section
/-! THE TABLES' WORDS that the walks name (printed by a program of this repository out of what TURN prints). -/
/-- a static call of a method with handlers -/
def mWH (own : String) (idx : Nat) (y : MethodName) (b : ByteArray) (nL : Nat) (ret : Option FieldType) (hh : List (Nat × Nat × Nat × Nat)) (cnt : Nat) : Prop :=
  Cond.methodLink own idx y ∈ mW ∧ Cond.static y ∈ mW ∧ Cond.initialized y.cls ∈ mW ∧ Cond.codeWith y b nL ret hh ∈ mW ∧ (y.cls ≠ "java/lang/invoke/MethodHandle" ∧ y.cls ≠ "java/lang/invoke/VarHandle") ∧ (parseMethodDescriptor y.desc).map (fun d => d.parameters.length) = some cnt
theorem mtb_1 {w : Cond} (h : w ∈ tables_1_1) (g : mgood w = true) : w ∈ mW := mW_of (List.mem_append_right _ (show w ∈ tables_1 from List.mem_append_left _ h)) g
theorem mtb_2 {w : Cond} (h : w ∈ tables_1_2) (g : mgood w = true) : w ∈ mW := mW_of (List.mem_append_right _ (show w ∈ tables_1 from List.mem_append_right _ (List.mem_append_left _ h))) g
theorem mtb_3 {w : Cond} (h : w ∈ tables_1_3) (g : mgood w = true) : w ∈ mW := mW_of (List.mem_append_right _ (show w ∈ tables_1 from List.mem_append_right _ (List.mem_append_right _ (List.mem_append_left _ h)))) g
theorem mtb_4 {w : Cond} (h : w ∈ tables_1_4) (g : mgood w = true) : w ∈ mW := mW_of (List.mem_append_right _ (show w ∈ tables_1 from List.mem_append_right _ (List.mem_append_right _ (List.mem_append_right _ (List.mem_append_left _ h))))) g
theorem mtb_5 {w : Cond} (h : w ∈ tables_1_5) (g : mgood w = true) : w ∈ mW := mW_of (List.mem_append_right _ (show w ∈ tables_1 from List.mem_append_right _ (List.mem_append_right _ (List.mem_append_right _ (List.mem_append_right _ (List.mem_append_left _ h)))))) g
theorem mtb_6 {w : Cond} (h : w ∈ tables_1_6) (g : mgood w = true) : w ∈ mW := mW_of (List.mem_append_right _ (show w ∈ tables_1 from List.mem_append_right _ (List.mem_append_right _ (List.mem_append_right _ (List.mem_append_right _ (List.mem_append_right _ (h))))))) g
theorem kinX1 : ∀ w ∈ u_ws RX1 TX1 3, w ∈ mW := by
  intro w hw
  obtain ⟨k, hk0, rfl⟩ := List.mem_map.mp (show w ∈ (List.range 3).map (u_lay RX1 TX1) from hw)
  have hk := List.mem_range.mp hk0
  clear hk0 hw
  match k, hk with
  | 0, _ => exact mtb_1 (List.mem_of_getElem? (i := 45) rfl) rfl
  | 1, _ => exact mtb_1 (List.mem_of_getElem? (i := 47) rfl) rfl
  | 2, _ => exact mtb_1 (List.mem_of_getElem? (i := 49) rfl) rfl
  | k + 3, h => exact absurd h (by omega)
theorem kinX2 : ∀ w ∈ u_ws RX2 TX2 8, w ∈ mW := by
  intro w hw
  obtain ⟨k, hk0, rfl⟩ := List.mem_map.mp (show w ∈ (List.range 8).map (u_lay RX2 TX2) from hw)
  have hk := List.mem_range.mp hk0
  clear hk0 hw
  match k, hk with
  | 0, _ => exact mtb_1 (List.mem_of_getElem? (i := 62) rfl) rfl
  | 1, _ => exact mtb_1 (List.mem_of_getElem? (i := 64) rfl) rfl
  | 2, _ => exact mtb_1 (List.mem_of_getElem? (i := 66) rfl) rfl
  | 3, _ => exact mtb_1 (List.mem_of_getElem? (i := 68) rfl) rfl
  | 4, _ => exact mtb_1 (List.mem_of_getElem? (i := 70) rfl) rfl
  | 5, _ => exact mtb_1 (List.mem_of_getElem? (i := 72) rfl) rfl
  | 6, _ => exact mtb_1 (List.mem_of_getElem? (i := 74) rfl) rfl
  | 7, _ => exact mtb_1 (List.mem_of_getElem? (i := 76) rfl) rfl
  | k + 8, h => exact absurd h (by omega)
theorem kinX3 : ∀ w ∈ u_ws RX3 TX3 2, w ∈ mW := by
  intro w hw
  obtain ⟨k, hk0, rfl⟩ := List.mem_map.mp (show w ∈ (List.range 2).map (u_lay RX3 TX3) from hw)
  have hk := List.mem_range.mp hk0
  clear hk0 hw
  match k, hk with
  | 0, _ => exact mtb_2 (List.mem_of_getElem? (i := 147) rfl) rfl
  | 1, _ => exact mtb_2 (List.mem_of_getElem? (i := 149) rfl) rfl
  | k + 2, h => exact absurd h (by omega)
theorem kinX4 : ∀ w ∈ u_ws RX4 TX4 9, w ∈ mW := by
  intro w hw
  obtain ⟨k, hk0, rfl⟩ := List.mem_map.mp (show w ∈ (List.range 9).map (u_lay RX4 TX4) from hw)
  have hk := List.mem_range.mp hk0
  clear hk0 hw
  match k, hk with
  | 0, _ => exact mtb_5 (List.mem_of_getElem? (i := 62) rfl) rfl
  | 1, _ => exact mtb_5 (List.mem_of_getElem? (i := 64) rfl) rfl
  | 2, _ => exact mtb_5 (List.mem_of_getElem? (i := 66) rfl) rfl
  | 3, _ => exact mtb_5 (List.mem_of_getElem? (i := 68) rfl) rfl
  | 4, _ => exact mtb_5 (List.mem_of_getElem? (i := 70) rfl) rfl
  | 5, _ => exact mtb_5 (List.mem_of_getElem? (i := 72) rfl) rfl
  | 6, _ => exact mtb_5 (List.mem_of_getElem? (i := 74) rfl) rfl
  | 7, _ => exact mtb_5 (List.mem_of_getElem? (i := 76) rfl) rfl
  | 8, _ => exact mtb_5 (List.mem_of_getElem? (i := 78) rfl) rfl
  | k + 9, h => exact absurd h (by omega)
set_option maxRecDepth 20000 in
theorem kw_39 : (Cond.initialized RL) ∈ mW := mtb_1 (List.mem_of_getElem? (i := 0) rfl) rfl
set_option maxRecDepth 20000 in
theorem kw_40 : (Cond.initialized RX2) ∈ mW := mtb_1 (List.mem_of_getElem? (i := 1) rfl) rfl
set_option maxRecDepth 20000 in
theorem kw_41 : (Cond.initialized RX1) ∈ mW := mtb_1 (List.mem_of_getElem? (i := 2) rfl) rfl
set_option maxRecDepth 20000 in
theorem kw_42 : (Cond.initialized RX4) ∈ mW := mtb_1 (List.mem_of_getElem? (i := 3) rfl) rfl
set_option maxRecDepth 20000 in
theorem kw_43 : (Cond.initialized RX3) ∈ mW := mtb_1 (List.mem_of_getElem? (i := 4) rfl) rfl
set_option maxRecDepth 20000 in
theorem kw_47 : (Cond.initialized "java/lang/IndexOutOfBoundsException") ∈ mW := mtb_1 (List.mem_of_getElem? (i := 8) rfl) rfl
set_option maxRecDepth 20000 in
theorem kw_48 : (Cond.initialized "java/lang/IllegalArgumentException") ∈ mW := mtb_1 (List.mem_of_getElem? (i := 9) rfl) rfl
set_option maxRecDepth 20000 in
theorem kw_49 : (Cond.initialized RJ9) ∈ mW := mtb_1 (List.mem_of_getElem? (i := 10) rfl) rfl
set_option maxRecDepth 20000 in
theorem kw_62 : (Cond.initialized RX0) ∈ mW := mtb_1 (List.mem_of_getElem? (i := 23) rfl) rfl
set_option maxRecDepth 20000 in
theorem kw_63 : (Cond.classLink RL 8 RX2) ∈ mW := mtb_1 (List.mem_of_getElem? (i := 24) rfl) rfl
set_option maxRecDepth 20000 in
theorem kw_64 : (Cond.instantiable RX2 8) ∈ mW := mtb_1 (List.mem_of_getElem? (i := 25) rfl) rfl
set_option maxRecDepth 20000 in
theorem kw_71 : (Cond.classLink RX2 17 RX1) ∈ mW := mtb_1 (List.mem_of_getElem? (i := 32) rfl) rfl
set_option maxRecDepth 20000 in
theorem kw_73 : (Cond.instantiable RX1 3) ∈ mW := mtb_1 (List.mem_of_getElem? (i := 34) rfl) rfl
set_option maxRecDepth 20000 in
theorem kw_78 : (Cond.fieldLink RX1 9 "Momentdesk$Local" "second" "J") ∈ mW := mtb_1 (List.mem_of_getElem? (i := 39) rfl) rfl
set_option maxRecDepth 20000 in
theorem kw_79 : (Cond.fieldLinkNest RX2 146 "Momentdesk$Local" "second" "J" RX2) ∈ mW := mtb_1 (List.mem_of_getElem? (i := 40) rfl) rfl
set_option maxRecDepth 20000 in
theorem kw_80 : (Cond.fieldLink RX1 15 "Momentdesk$Local" "nano" "I") ∈ mW := mtb_1 (List.mem_of_getElem? (i := 41) rfl) rfl
set_option maxRecDepth 20000 in
theorem kw_81 : (Cond.fieldLinkNest RX2 172 "Momentdesk$Local" "nano" "I" RX2) ∈ mW := mtb_1 (List.mem_of_getElem? (i := 42) rfl) rfl
set_option maxRecDepth 20000 in
theorem kw_82 : (Cond.fieldLink RX1 19 "Momentdesk$Local" "offset" "I") ∈ mW := mtb_1 (List.mem_of_getElem? (i := 43) rfl) rfl
set_option maxRecDepth 20000 in
theorem kw_83 : (Cond.fieldLinkNest RX2 158 "Momentdesk$Local" "offset" "I" RX2) ∈ mW := mtb_1 (List.mem_of_getElem? (i := 44) rfl) rfl
set_option maxRecDepth 20000 in
theorem kw_93 : (Cond.fieldLink RX2 9 "Momentdesk" "offsets" "[I") ∈ mW := mtb_1 (List.mem_of_getElem? (i := 54) rfl) rfl
set_option maxRecDepth 20000 in
theorem kw_94 : (Cond.fieldLink RX2 13 "Momentdesk" "numbers" "[J") ∈ mW := mtb_1 (List.mem_of_getElem? (i := 55) rfl) rfl
set_option maxRecDepth 20000 in
theorem kw_95 : (Cond.fieldLink RX2 20 "Momentdesk" "dates" "[LMomentdesk$Local;") ∈ mW := mtb_1 (List.mem_of_getElem? (i := 56) rfl) rfl
set_option maxRecDepth 20000 in
theorem kw_96 : (Cond.fieldLink RX2 24 "Momentdesk" "clocks" "[LMomentdesk$Local;") ∈ mW := mtb_1 (List.mem_of_getElem? (i := 57) rfl) rfl
set_option maxRecDepth 20000 in
theorem kw_97 : (Cond.fieldLink RX2 27 "Momentdesk" "triedDated" "LMomentdesk$Local;") ∈ mW := mtb_1 (List.mem_of_getElem? (i := 58) rfl) rfl
set_option maxRecDepth 20000 in
theorem kw_98 : (Cond.fieldLink RX2 31 "Momentdesk" "triedClock" "LMomentdesk$Local;") ∈ mW := mtb_1 (List.mem_of_getElem? (i := 59) rfl) rfl
set_option maxRecDepth 20000 in
theorem kw_99 : (Cond.fieldLink RX2 196 "Momentdesk" "knocks" "I") ∈ mW := mtb_1 (List.mem_of_getElem? (i := 60) rfl) rfl
set_option maxRecDepth 20000 in
theorem kw_100 : (Cond.fieldLink RX2 199 "Momentdesk" "refusals" "I") ∈ mW := mtb_1 (List.mem_of_getElem? (i := 61) rfl) rfl
set_option maxRecDepth 20000 in
theorem kw_121 : (Cond.code yX2_knock cX2_knock 1 (some .int)) ∈ mW := mtb_1 (List.mem_of_getElem? (i := 82) rfl) rfl
set_option maxRecDepth 20000 in
theorem kw_118 : (Cond.methodLink RL 241 yX2_knock) ∈ mW := mtb_1 (List.mem_of_getElem? (i := 79) rfl) rfl
set_option maxRecDepth 20000 in
theorem kw_119 : (Cond.instanceMethod yX2_knock) ∈ mW := mtb_1 (List.mem_of_getElem? (i := 80) rfl) rfl
set_option maxRecDepth 20000 in
theorem kw_120 : (Cond.selects RX2 yX2_knock yX2_knock) ∈ mW := mtb_1 (List.mem_of_getElem? (i := 81) rfl) rfl
set_option maxRecDepth 20000 in
theorem kw_125 : (Cond.code yX2_isSound cX2_isSound 1 (some .boolean)) ∈ mW := mtb_1 (List.mem_of_getElem? (i := 86) rfl) rfl
set_option maxRecDepth 20000 in
theorem kw_122 : (Cond.methodLink RL 248 yX2_isSound) ∈ mW := mtb_1 (List.mem_of_getElem? (i := 83) rfl) rfl
set_option maxRecDepth 20000 in
theorem kw_123 : (Cond.instanceMethod yX2_isSound) ∈ mW := mtb_1 (List.mem_of_getElem? (i := 84) rfl) rfl
set_option maxRecDepth 20000 in
theorem kw_124 : (Cond.selects RX2 yX2_isSound yX2_isSound) ∈ mW := mtb_1 (List.mem_of_getElem? (i := 85) rfl) rfl
set_option maxRecDepth 20000 in
theorem kw_129 : (Cond.code yX2_areMomentsSound cX2_areMomentsSound 5 (some .boolean)) ∈ mW := mtb_1 (List.mem_of_getElem? (i := 90) rfl) rfl
set_option maxRecDepth 20000 in
theorem kw_126 : (Cond.methodLink RX2 208 yX2_areMomentsSound) ∈ mW := mtb_1 (List.mem_of_getElem? (i := 87) rfl) rfl
set_option maxRecDepth 20000 in
theorem kw_128 : (Cond.instanceMethod yX2_areMomentsSound) ∈ mW := mtb_1 (List.mem_of_getElem? (i := 89) rfl) rfl
set_option maxRecDepth 20000 in
theorem kw_0 : (Cond.selects RX2 yX2_areMomentsSound yX2_areMomentsSound) ∈ mW := mW_at 0 rfl rfl
set_option maxRecDepth 20000 in
theorem kw_132 : (Cond.code yX2_secondOf cX2_secondOf 2 (some .long)) ∈ mW := mtb_1 (List.mem_of_getElem? (i := 93) rfl) rfl
set_option maxRecDepth 20000 in
theorem kw_130 : (Cond.methodLink RX2 96 yX2_secondOf) ∈ mW := mtb_1 (List.mem_of_getElem? (i := 91) rfl) rfl
set_option maxRecDepth 20000 in
theorem kw_131 : (Cond.static yX2_secondOf) ∈ mW := mtb_1 (List.mem_of_getElem? (i := 92) rfl) rfl
set_option maxRecDepth 20000 in
theorem kw_133 : (Cond.constantLong RX2 72 (1000000000)) ∈ mW := mtb_1 (List.mem_of_getElem? (i := 94) rfl) rfl
set_option maxRecDepth 20000 in
theorem kw_136 : (Cond.code yJ9_floorDiv_f86c9 cJ9_floorDiv_f86c9 6 (some .long)) ∈ mW := mtb_1 (List.mem_of_getElem? (i := 97) rfl) rfl
set_option maxRecDepth 20000 in
theorem kw_134 : (Cond.methodLink RX2 100 yJ9_floorDiv_f86c9) ∈ mW := mtb_1 (List.mem_of_getElem? (i := 95) rfl) rfl
set_option maxRecDepth 20000 in
theorem kw_135 : (Cond.static yJ9_floorDiv_f86c9) ∈ mW := mtb_1 (List.mem_of_getElem? (i := 96) rfl) rfl
set_option maxRecDepth 20000 in
theorem kw_139 : (Cond.code yX2_nanoOf cX2_nanoOf 2 (some .int)) ∈ mW := mtb_1 (List.mem_of_getElem? (i := 100) rfl) rfl
set_option maxRecDepth 20000 in
theorem kw_137 : (Cond.methodLink RX2 92 yX2_nanoOf) ∈ mW := mtb_1 (List.mem_of_getElem? (i := 98) rfl) rfl
set_option maxRecDepth 20000 in
theorem kw_138 : (Cond.static yX2_nanoOf) ∈ mW := mtb_1 (List.mem_of_getElem? (i := 99) rfl) rfl
set_option maxRecDepth 20000 in
theorem kw_142 : (Cond.code yJ9_floorMod_f86c9 cJ9_floorMod_f86c9 6 (some .long)) ∈ mW := mtb_1 (List.mem_of_getElem? (i := 103) rfl) rfl
set_option maxRecDepth 20000 in
theorem kw_140 : (Cond.methodLink RX2 277 yJ9_floorMod_f86c9) ∈ mW := mtb_1 (List.mem_of_getElem? (i := 101) rfl) rfl
set_option maxRecDepth 20000 in
theorem kw_141 : (Cond.static yJ9_floorMod_f86c9) ∈ mW := mtb_1 (List.mem_of_getElem? (i := 102) rfl) rfl
set_option maxRecDepth 20000 in
theorem kw_146 : (Cond.code yX1_tell cX1_tell 5 none) ∈ mW := mtb_1 (List.mem_of_getElem? (i := 107) rfl) rfl
set_option maxRecDepth 20000 in
theorem kw_143 : (Cond.methodLink RX2 270 yX1_tell) ∈ mW := mtb_1 (List.mem_of_getElem? (i := 104) rfl) rfl
set_option maxRecDepth 20000 in
theorem kw_144 : (Cond.instanceMethod yX1_tell) ∈ mW := mtb_1 (List.mem_of_getElem? (i := 105) rfl) rfl
set_option maxRecDepth 20000 in
theorem kw_145 : (Cond.selects RX1 yX1_tell yX1_tell) ∈ mW := mtb_1 (List.mem_of_getElem? (i := 106) rfl) rfl
set_option maxRecDepth 20000 in
theorem kw_149 : (Cond.code yX2_numberOf cX2_numberOf 1 (some .long)) ∈ mW := mtb_1 (List.mem_of_getElem? (i := 110) rfl) rfl
set_option maxRecDepth 20000 in
theorem kw_147 : (Cond.methodLink RX2 88 yX2_numberOf) ∈ mW := mtb_1 (List.mem_of_getElem? (i := 108) rfl) rfl
set_option maxRecDepth 20000 in
theorem kw_148 : (Cond.static yX2_numberOf) ∈ mW := mtb_1 (List.mem_of_getElem? (i := 109) rfl) rfl
set_option maxRecDepth 20000 in
theorem kw_153 : (Cond.code yX1_momentSecond cX1_momentSecond 1 (some .long)) ∈ mW := mtb_1 (List.mem_of_getElem? (i := 114) rfl) rfl
set_option maxRecDepth 20000 in
theorem kw_150 : (Cond.methodLink RX2 169 yX1_momentSecond) ∈ mW := mtb_1 (List.mem_of_getElem? (i := 111) rfl) rfl
set_option maxRecDepth 20000 in
theorem kw_151 : (Cond.instanceMethod yX1_momentSecond) ∈ mW := mtb_1 (List.mem_of_getElem? (i := 112) rfl) rfl
set_option maxRecDepth 20000 in
theorem kw_152 : (Cond.selects RX1 yX1_momentSecond yX1_momentSecond) ∈ mW := mtb_1 (List.mem_of_getElem? (i := 113) rfl) rfl
set_option maxRecDepth 20000 in
theorem kw_157 : (Cond.code yX2_areDatesToldAnewSound cX2_areDatesToldAnewSound 3 (some .boolean)) ∈ mW := mtb_1 (List.mem_of_getElem? (i := 118) rfl) rfl
set_option maxRecDepth 20000 in
theorem kw_154 : (Cond.methodLink RX2 212 yX2_areDatesToldAnewSound) ∈ mW := mtb_1 (List.mem_of_getElem? (i := 115) rfl) rfl
set_option maxRecDepth 20000 in
theorem kw_156 : (Cond.instanceMethod yX2_areDatesToldAnewSound) ∈ mW := mtb_1 (List.mem_of_getElem? (i := 117) rfl) rfl
set_option maxRecDepth 20000 in
theorem kw_1 : (Cond.selects RX2 yX2_areDatesToldAnewSound yX2_areDatesToldAnewSound) ∈ mW := mW_at 1 rfl rfl
set_option maxRecDepth 20000 in
theorem kw_160 : (Cond.code yX2_at cX2_at 2 (some (.object "Momentdesk$Local"))) ∈ mW := mtb_1 (List.mem_of_getElem? (i := 121) rfl) rfl
set_option maxRecDepth 20000 in
theorem kw_158 : (Cond.methodLink RX2 84 yX2_at) ∈ mW := mtb_1 (List.mem_of_getElem? (i := 119) rfl) rfl
set_option maxRecDepth 20000 in
theorem kw_159 : (Cond.static yX2_at) ∈ mW := mtb_1 (List.mem_of_getElem? (i := 120) rfl) rfl
set_option maxRecDepth 20000 in
theorem kw_161 : (Cond.classLink RX2 250 "java/lang/IndexOutOfBoundsException") ∈ mW := mtb_1 (List.mem_of_getElem? (i := 122) rfl) rfl
set_option maxRecDepth 20000 in
theorem kw_231 : (Cond.code yX2_isToldAnewSound cX2_isToldAnewSound 6 (some .boolean)) ∈ mW := mtb_1 (List.mem_of_getElem? (i := 192) rfl) rfl
set_option maxRecDepth 20000 in
theorem kw_228 : (Cond.methodLink RX2 366 yX2_isToldAnewSound) ∈ mW := mtb_1 (List.mem_of_getElem? (i := 189) rfl) rfl
set_option maxRecDepth 20000 in
theorem kw_230 : (Cond.instanceMethod yX2_isToldAnewSound) ∈ mW := mtb_1 (List.mem_of_getElem? (i := 191) rfl) rfl
set_option maxRecDepth 20000 in
theorem kw_3 : (Cond.selects RX2 yX2_isToldAnewSound yX2_isToldAnewSound) ∈ mW := mW_at 3 rfl rfl
set_option maxRecDepth 20000 in
theorem kw_232 : (Cond.constantLong RX2 266 (-1893456000)) ∈ mW := mtb_1 (List.mem_of_getElem? (i := 193) rfl) rfl
set_option maxRecDepth 20000 in
theorem kw_233 : (Cond.constantLong RX2 268 (1924991999)) ∈ mW := mtb_1 (List.mem_of_getElem? (i := 194) rfl) rfl
set_option maxRecDepth 20000 in
theorem kw_236 : (Cond.code yX2_isWithin cX2_isWithin 6 (some .boolean)) ∈ mW := mtb_1 (List.mem_of_getElem? (i := 197) rfl) rfl
set_option maxRecDepth 20000 in
theorem kw_234 : (Cond.methodLink RX2 48 yX2_isWithin) ∈ mW := mtb_1 (List.mem_of_getElem? (i := 195) rfl) rfl
set_option maxRecDepth 20000 in
theorem kw_235 : (Cond.static yX2_isWithin) ∈ mW := mtb_1 (List.mem_of_getElem? (i := 196) rfl) rfl
set_option maxRecDepth 20000 in
theorem kw_240 : (Cond.code yX1_isAlike cX1_isAlike 2 (some .boolean)) ∈ mW := mtb_1 (List.mem_of_getElem? (i := 201) rfl) rfl
set_option maxRecDepth 20000 in
theorem kw_237 : (Cond.methodLink RX2 360 yX1_isAlike) ∈ mW := mtb_1 (List.mem_of_getElem? (i := 198) rfl) rfl
set_option maxRecDepth 20000 in
theorem kw_238 : (Cond.instanceMethod yX1_isAlike) ∈ mW := mtb_1 (List.mem_of_getElem? (i := 199) rfl) rfl
set_option maxRecDepth 20000 in
theorem kw_239 : (Cond.selects RX1 yX1_isAlike yX1_isAlike) ∈ mW := mtb_1 (List.mem_of_getElem? (i := 200) rfl) rfl
set_option maxRecDepth 20000 in
theorem kw_241 : (Cond.methodLink RX1 55 yX1_momentSecond) ∈ mW := mtb_1 (List.mem_of_getElem? (i := 202) rfl) rfl
set_option maxRecDepth 20000 in
theorem kw_245 : (Cond.code yX1_isSame cX1_isSame 2 (some .boolean)) ∈ mW := mtb_1 (List.mem_of_getElem? (i := 206) rfl) rfl
set_option maxRecDepth 20000 in
theorem kw_242 : (Cond.methodLink RX2 363 yX1_isSame) ∈ mW := mtb_1 (List.mem_of_getElem? (i := 203) rfl) rfl
set_option maxRecDepth 20000 in
theorem kw_243 : (Cond.instanceMethod yX1_isSame) ∈ mW := mtb_1 (List.mem_of_getElem? (i := 204) rfl) rfl
set_option maxRecDepth 20000 in
theorem kw_244 : (Cond.selects RX1 yX1_isSame yX1_isSame) ∈ mW := mtb_1 (List.mem_of_getElem? (i := 205) rfl) rfl
set_option maxRecDepth 20000 in
theorem kw_249 : (Cond.code yX2_arePairsSound cX2_arePairsSound 3 (some .boolean)) ∈ mW := mtb_1 (List.mem_of_getElem? (i := 210) rfl) rfl
set_option maxRecDepth 20000 in
theorem kw_246 : (Cond.methodLink RX2 215 yX2_arePairsSound) ∈ mW := mtb_1 (List.mem_of_getElem? (i := 207) rfl) rfl
set_option maxRecDepth 20000 in
theorem kw_248 : (Cond.instanceMethod yX2_arePairsSound) ∈ mW := mtb_1 (List.mem_of_getElem? (i := 209) rfl) rfl
set_option maxRecDepth 20000 in
theorem kw_4 : (Cond.selects RX2 yX2_arePairsSound yX2_arePairsSound) ∈ mW := mW_at 4 rfl rfl
set_option maxRecDepth 20000 in
theorem kw_252 : (Cond.code yX2_isPairSound cX2_isPairSound 4 (some .boolean)) ∈ mW := mtb_1 (List.mem_of_getElem? (i := 213) rfl) rfl
set_option maxRecDepth 20000 in
theorem kw_250 : (Cond.methodLink RX2 370 yX2_isPairSound) ∈ mW := mtb_1 (List.mem_of_getElem? (i := 211) rfl) rfl
set_option maxRecDepth 20000 in
theorem kw_251 : (Cond.static yX2_isPairSound) ∈ mW := mtb_1 (List.mem_of_getElem? (i := 212) rfl) rfl
set_option maxRecDepth 20000 in
theorem kw_256 : (Cond.code yX1_isAhead cX1_isAhead 2 (some .boolean)) ∈ mW := mtb_1 (List.mem_of_getElem? (i := 217) rfl) rfl
set_option maxRecDepth 20000 in
theorem kw_253 : (Cond.methodLink RX2 356 yX1_isAhead) ∈ mW := mtb_1 (List.mem_of_getElem? (i := 214) rfl) rfl
set_option maxRecDepth 20000 in
theorem kw_254 : (Cond.instanceMethod yX1_isAhead) ∈ mW := mtb_1 (List.mem_of_getElem? (i := 215) rfl) rfl
set_option maxRecDepth 20000 in
theorem kw_255 : (Cond.selects RX1 yX1_isAhead yX1_isAhead) ∈ mW := mtb_1 (List.mem_of_getElem? (i := 216) rfl) rfl
set_option maxRecDepth 20000 in
theorem kw_260 : (Cond.code yX1_momentOrder cX1_momentOrder 3 (some .int)) ∈ mW := mtb_1 (List.mem_of_getElem? (i := 221) rfl) rfl
set_option maxRecDepth 20000 in
theorem kw_257 : (Cond.methodLink RX1 51 yX1_momentOrder) ∈ mW := mtb_1 (List.mem_of_getElem? (i := 218) rfl) rfl
set_option maxRecDepth 20000 in
theorem kw_258 : (Cond.instanceMethod yX1_momentOrder) ∈ mW := mtb_1 (List.mem_of_getElem? (i := 219) rfl) rfl
set_option maxRecDepth 20000 in
theorem kw_259 : (Cond.selects RX1 yX1_momentOrder yX1_momentOrder) ∈ mW := mtb_1 (List.mem_of_getElem? (i := 220) rfl) rfl
set_option maxRecDepth 20000 in
theorem kw_261 : (Cond.methodLinkNest RX1 59 yX2_compared RX2) ∈ mW := mtb_1 (List.mem_of_getElem? (i := 222) rfl) rfl
set_option maxRecDepth 20000 in
theorem kw_262 : (Cond.static yX2_compared) ∈ mW := mtb_1 (List.mem_of_getElem? (i := 223) rfl) rfl
set_option maxRecDepth 20000 in
theorem kw_263 : (Cond.code yX2_compared cX2_compared 4 (some .int)) ∈ mW := mtb_1 (List.mem_of_getElem? (i := 224) rfl) rfl
set_option maxRecDepth 20000 in
theorem kw_267 : (Cond.code yX1_orderTo cX1_orderTo 3 (some .int)) ∈ mW := mtb_1 (List.mem_of_getElem? (i := 228) rfl) rfl
set_option maxRecDepth 20000 in
theorem kw_264 : (Cond.methodLink RX2 179 yX1_orderTo) ∈ mW := mtb_1 (List.mem_of_getElem? (i := 225) rfl) rfl
set_option maxRecDepth 20000 in
theorem kw_265 : (Cond.instanceMethod yX1_orderTo) ∈ mW := mtb_1 (List.mem_of_getElem? (i := 226) rfl) rfl
set_option maxRecDepth 20000 in
theorem kw_266 : (Cond.selects RX1 yX1_orderTo yX1_orderTo) ∈ mW := mtb_1 (List.mem_of_getElem? (i := 227) rfl) rfl
set_option maxRecDepth 20000 in
theorem kw_271 : (Cond.code yX2_areStrikesSound cX2_areStrikesSound 3 (some .boolean)) ∈ mW := mtb_1 (List.mem_of_getElem? (i := 232) rfl) rfl
set_option maxRecDepth 20000 in
theorem kw_268 : (Cond.methodLink RX2 218 yX2_areStrikesSound) ∈ mW := mtb_1 (List.mem_of_getElem? (i := 229) rfl) rfl
set_option maxRecDepth 20000 in
theorem kw_270 : (Cond.instanceMethod yX2_areStrikesSound) ∈ mW := mtb_1 (List.mem_of_getElem? (i := 231) rfl) rfl
set_option maxRecDepth 20000 in
theorem kw_5 : (Cond.selects RX2 yX2_areStrikesSound yX2_areStrikesSound) ∈ mW := mW_at 5 rfl rfl
set_option maxRecDepth 20000 in
theorem kw_275 : (Cond.code yX1_secondOfDay cX1_secondOfDay 1 (some .int)) ∈ mW := mtb_1 (List.mem_of_getElem? (i := 236) rfl) rfl
set_option maxRecDepth 20000 in
theorem kw_272 : (Cond.methodLink RX2 320 yX1_secondOfDay) ∈ mW := mtb_1 (List.mem_of_getElem? (i := 233) rfl) rfl
set_option maxRecDepth 20000 in
theorem kw_273 : (Cond.instanceMethod yX1_secondOfDay) ∈ mW := mtb_1 (List.mem_of_getElem? (i := 234) rfl) rfl
set_option maxRecDepth 20000 in
theorem kw_274 : (Cond.selects RX1 yX1_secondOfDay yX1_secondOfDay) ∈ mW := mtb_1 (List.mem_of_getElem? (i := 235) rfl) rfl
set_option maxRecDepth 20000 in
theorem kw_276 : (Cond.constantLong RX1 22 (86400)) ∈ mW := mtb_1 (List.mem_of_getElem? (i := 237) rfl) rfl
set_option maxRecDepth 20000 in
theorem kw_277 : (Cond.methodLink RX1 45 yJ9_floorMod_f86c9) ∈ mW := mtb_1 (List.mem_of_getElem? (i := 238) rfl) rfl
set_option maxRecDepth 20000 in
theorem kw_281 : (Cond.code yX1_beginOfDay cX1_beginOfDay 1 (some .long)) ∈ mW := mtb_2 (List.mem_of_getElem? (i := 2) rfl) rfl
set_option maxRecDepth 20000 in
theorem kw_278 : (Cond.methodLink RX2 190 yX1_beginOfDay) ∈ mW := mtb_1 (List.mem_of_getElem? (i := 239) rfl) rfl
set_option maxRecDepth 20000 in
theorem kw_279 : (Cond.instanceMethod yX1_beginOfDay) ∈ mW := mtb_2 (List.mem_of_getElem? (i := 0) rfl) rfl
set_option maxRecDepth 20000 in
theorem kw_280 : (Cond.selects RX1 yX1_beginOfDay yX1_beginOfDay) ∈ mW := mtb_2 (List.mem_of_getElem? (i := 1) rfl) rfl
set_option maxRecDepth 20000 in
theorem kw_285 : (Cond.code yX1_day cX1_day 1 (some .int)) ∈ mW := mtb_2 (List.mem_of_getElem? (i := 6) rfl) rfl
set_option maxRecDepth 20000 in
theorem kw_282 : (Cond.methodLink RX1 30 yX1_day) ∈ mW := mtb_2 (List.mem_of_getElem? (i := 3) rfl) rfl
set_option maxRecDepth 20000 in
theorem kw_283 : (Cond.instanceMethod yX1_day) ∈ mW := mtb_2 (List.mem_of_getElem? (i := 4) rfl) rfl
set_option maxRecDepth 20000 in
theorem kw_284 : (Cond.selects RX1 yX1_day yX1_day) ∈ mW := mtb_2 (List.mem_of_getElem? (i := 5) rfl) rfl
set_option maxRecDepth 20000 in
theorem kw_286 : (Cond.methodLink RX1 24 yJ9_floorDiv_f86c9) ∈ mW := mtb_2 (List.mem_of_getElem? (i := 7) rfl) rfl
set_option maxRecDepth 20000 in
theorem kw_290 : (Cond.code yX2_digest cX2_digest 3 (some .long)) ∈ mW := mtb_2 (List.mem_of_getElem? (i := 11) rfl) rfl
set_option maxRecDepth 20000 in
theorem kw_287 : (Cond.methodLink RL 253 yX2_digest) ∈ mW := mtb_2 (List.mem_of_getElem? (i := 8) rfl) rfl
set_option maxRecDepth 20000 in
theorem kw_288 : (Cond.instanceMethod yX2_digest) ∈ mW := mtb_2 (List.mem_of_getElem? (i := 9) rfl) rfl
set_option maxRecDepth 20000 in
theorem kw_289 : (Cond.selects RX2 yX2_digest yX2_digest) ∈ mW := mtb_2 (List.mem_of_getElem? (i := 10) rfl) rfl
set_option maxRecDepth 20000 in
theorem kw_291 : (Cond.constantLong RX2 221 (6199)) ∈ mW := mtb_2 (List.mem_of_getElem? (i := 12) rfl) rfl
set_option maxRecDepth 20000 in
theorem kw_295 : (Cond.code yX2_withOffsets cX2_withOffsets 6 (some .long)) ∈ mW := mtb_2 (List.mem_of_getElem? (i := 16) rfl) rfl
set_option maxRecDepth 20000 in
theorem kw_292 : (Cond.methodLink RX2 223 yX2_withOffsets) ∈ mW := mtb_2 (List.mem_of_getElem? (i := 13) rfl) rfl
set_option maxRecDepth 20000 in
theorem kw_294 : (Cond.instanceMethod yX2_withOffsets) ∈ mW := mtb_2 (List.mem_of_getElem? (i := 15) rfl) rfl
set_option maxRecDepth 20000 in
theorem kw_6 : (Cond.selects RX2 yX2_withOffsets yX2_withOffsets) ∈ mW := mW_at 6 rfl rfl
set_option maxRecDepth 20000 in
theorem kw_299 : (Cond.code yX2_seconds cX2_seconds 2 (some .int)) ∈ mW := mtb_2 (List.mem_of_getElem? (i := 20) rfl) rfl
set_option maxRecDepth 20000 in
theorem kw_296 : (Cond.methodLink RX2 64 yX2_seconds) ∈ mW := mtb_2 (List.mem_of_getElem? (i := 17) rfl) rfl
set_option maxRecDepth 20000 in
theorem kw_297 : (Cond.instanceMethod yX2_seconds) ∈ mW := mtb_2 (List.mem_of_getElem? (i := 18) rfl) rfl
set_option maxRecDepth 20000 in
theorem kw_298 : (Cond.selects RX2 yX2_seconds yX2_seconds) ∈ mW := mtb_2 (List.mem_of_getElem? (i := 19) rfl) rfl
set_option maxRecDepth 20000 in
theorem kw_302 : (Cond.code yX2_requireOne cX2_requireOne 2 none) ∈ mW := mtb_2 (List.mem_of_getElem? (i := 23) rfl) rfl
set_option maxRecDepth 20000 in
theorem kw_300 : (Cond.methodLink RX2 34 yX2_requireOne) ∈ mW := mtb_2 (List.mem_of_getElem? (i := 21) rfl) rfl
set_option maxRecDepth 20000 in
theorem kw_301 : (Cond.static yX2_requireOne) ∈ mW := mtb_2 (List.mem_of_getElem? (i := 22) rfl) rfl
set_option maxRecDepth 20000 in
theorem kw_305 : (Cond.code yX2_added cX2_added 4 (some .long)) ∈ mW := mtb_2 (List.mem_of_getElem? (i := 26) rfl) rfl
set_option maxRecDepth 20000 in
theorem kw_303 : (Cond.methodLink RX2 247 yX2_added) ∈ mW := mtb_2 (List.mem_of_getElem? (i := 24) rfl) rfl
set_option maxRecDepth 20000 in
theorem kw_304 : (Cond.static yX2_added) ∈ mW := mtb_2 (List.mem_of_getElem? (i := 25) rfl) rfl
set_option maxRecDepth 20000 in
theorem kw_306 : (Cond.constantLong RX2 374 (31)) ∈ mW := mtb_2 (List.mem_of_getElem? (i := 27) rfl) rfl
set_option maxRecDepth 20000 in
theorem kw_310 : (Cond.code yX2_withMoments cX2_withMoments 6 (some .long)) ∈ mW := mtb_2 (List.mem_of_getElem? (i := 31) rfl) rfl
set_option maxRecDepth 20000 in
theorem kw_307 : (Cond.methodLink RX2 226 yX2_withMoments) ∈ mW := mtb_2 (List.mem_of_getElem? (i := 28) rfl) rfl
set_option maxRecDepth 20000 in
theorem kw_309 : (Cond.instanceMethod yX2_withMoments) ∈ mW := mtb_2 (List.mem_of_getElem? (i := 30) rfl) rfl
set_option maxRecDepth 20000 in
theorem kw_7 : (Cond.selects RX2 yX2_withMoments yX2_withMoments) ∈ mW := mW_at 7 rfl rfl
set_option maxRecDepth 20000 in
theorem kw_314 : (Cond.code yX2_ofMoment cX2_ofMoment 3 (some .int)) ∈ mW := mtb_2 (List.mem_of_getElem? (i := 35) rfl) rfl
set_option maxRecDepth 20000 in
theorem kw_311 : (Cond.methodLink RX2 376 yX2_ofMoment) ∈ mW := mtb_2 (List.mem_of_getElem? (i := 32) rfl) rfl
set_option maxRecDepth 20000 in
theorem kw_312 : (Cond.instanceMethod yX2_ofMoment) ∈ mW := mtb_2 (List.mem_of_getElem? (i := 33) rfl) rfl
set_option maxRecDepth 20000 in
theorem kw_313 : (Cond.selects RX2 yX2_ofMoment yX2_ofMoment) ∈ mW := mtb_2 (List.mem_of_getElem? (i := 34) rfl) rfl
set_option maxRecDepth 20000 in
theorem kw_318 : (Cond.code yX2_withDates cX2_withDates 7 (some .long)) ∈ mW := mtb_2 (List.mem_of_getElem? (i := 39) rfl) rfl
set_option maxRecDepth 20000 in
theorem kw_315 : (Cond.methodLink RX2 229 yX2_withDates) ∈ mW := mtb_2 (List.mem_of_getElem? (i := 36) rfl) rfl
set_option maxRecDepth 20000 in
theorem kw_317 : (Cond.instanceMethod yX2_withDates) ∈ mW := mtb_2 (List.mem_of_getElem? (i := 38) rfl) rfl
set_option maxRecDepth 20000 in
theorem kw_8 : (Cond.selects RX2 yX2_withDates yX2_withDates) ∈ mW := mW_at 8 rfl rfl
set_option maxRecDepth 20000 in
theorem kw_321 : (Cond.code yX2_datePart cX2_datePart 3 (some .int)) ∈ mW := mtb_2 (List.mem_of_getElem? (i := 42) rfl) rfl
set_option maxRecDepth 20000 in
theorem kw_319 : (Cond.methodLink RX2 175 yX2_datePart) ∈ mW := mtb_2 (List.mem_of_getElem? (i := 40) rfl) rfl
set_option maxRecDepth 20000 in
theorem kw_320 : (Cond.static yX2_datePart) ∈ mW := mtb_2 (List.mem_of_getElem? (i := 41) rfl) rfl
set_option maxRecDepth 20000 in
theorem kw_322 : (Cond.methodLink RX2 274 yX1_day) ∈ mW := mtb_2 (List.mem_of_getElem? (i := 43) rfl) rfl
set_option maxRecDepth 20000 in
theorem kw_325 : (Cond.code yX0_yearOf cX0_yearOf 2 (some .int)) ∈ mW := mtb_2 (List.mem_of_getElem? (i := 46) rfl) rfl
set_option maxRecDepth 20000 in
theorem kw_323 : (Cond.methodLink RX2 323 yX0_yearOf) ∈ mW := mtb_2 (List.mem_of_getElem? (i := 44) rfl) rfl
set_option maxRecDepth 20000 in
theorem kw_324 : (Cond.static yX0_yearOf) ∈ mW := mtb_2 (List.mem_of_getElem? (i := 45) rfl) rfl
set_option maxRecDepth 20000 in
theorem kw_328 : (Cond.code yX0_firstDayOf cX0_firstDayOf 2 (some .int)) ∈ mW := mtb_2 (List.mem_of_getElem? (i := 49) rfl) rfl
set_option maxRecDepth 20000 in
theorem kw_326 : (Cond.methodLink RX0 26 yX0_firstDayOf) ∈ mW := mtb_2 (List.mem_of_getElem? (i := 47) rfl) rfl
set_option maxRecDepth 20000 in
theorem kw_327 : (Cond.static yX0_firstDayOf) ∈ mW := mtb_2 (List.mem_of_getElem? (i := 48) rfl) rfl
set_option maxRecDepth 20000 in
theorem kw_329 : (Cond.constant RX0 25 (719162)) ∈ mW := mtb_2 (List.mem_of_getElem? (i := 50) rfl) rfl
set_option maxRecDepth 20000 in
theorem kw_332 : (Cond.code yX0_monthOf cX0_monthOf 4 (some .int)) ∈ mW := mtb_2 (List.mem_of_getElem? (i := 53) rfl) rfl
set_option maxRecDepth 20000 in
theorem kw_330 : (Cond.methodLink RX2 326 yX0_monthOf) ∈ mW := mtb_2 (List.mem_of_getElem? (i := 51) rfl) rfl
set_option maxRecDepth 20000 in
theorem kw_331 : (Cond.static yX0_monthOf) ∈ mW := mtb_2 (List.mem_of_getElem? (i := 52) rfl) rfl
set_option maxRecDepth 20000 in
theorem kw_333 : (Cond.methodLink RX0 33 yX0_yearOf) ∈ mW := mtb_2 (List.mem_of_getElem? (i := 54) rfl) rfl
set_option maxRecDepth 20000 in
theorem kw_336 : (Cond.code yX0_daysBeforeMonth cX0_daysBeforeMonth 3 (some .int)) ∈ mW := mtb_2 (List.mem_of_getElem? (i := 57) rfl) rfl
set_option maxRecDepth 20000 in
theorem kw_334 : (Cond.methodLink RX0 30 yX0_daysBeforeMonth) ∈ mW := mtb_2 (List.mem_of_getElem? (i := 55) rfl) rfl
set_option maxRecDepth 20000 in
theorem kw_335 : (Cond.static yX0_daysBeforeMonth) ∈ mW := mtb_2 (List.mem_of_getElem? (i := 56) rfl) rfl
set_option maxRecDepth 20000 in
theorem kw_339 : (Cond.code yX0_isLeap cX0_isLeap 1 (some .boolean)) ∈ mW := mtb_2 (List.mem_of_getElem? (i := 60) rfl) rfl
set_option maxRecDepth 20000 in
theorem kw_337 : (Cond.methodLink RX0 9 yX0_isLeap) ∈ mW := mtb_2 (List.mem_of_getElem? (i := 58) rfl) rfl
set_option maxRecDepth 20000 in
theorem kw_338 : (Cond.static yX0_isLeap) ∈ mW := mtb_2 (List.mem_of_getElem? (i := 59) rfl) rfl
set_option maxRecDepth 20000 in
theorem kw_342 : (Cond.code yX0_dayOfMonth cX0_dayOfMonth 1 (some .int)) ∈ mW := mtb_2 (List.mem_of_getElem? (i := 63) rfl) rfl
set_option maxRecDepth 20000 in
theorem kw_340 : (Cond.methodLink RX2 311 yX0_dayOfMonth) ∈ mW := mtb_2 (List.mem_of_getElem? (i := 61) rfl) rfl
set_option maxRecDepth 20000 in
theorem kw_341 : (Cond.static yX0_dayOfMonth) ∈ mW := mtb_2 (List.mem_of_getElem? (i := 62) rfl) rfl
set_option maxRecDepth 20000 in
theorem kw_345 : (Cond.code yX0_dayOfYear cX0_dayOfYear 1 (some .int)) ∈ mW := mtb_2 (List.mem_of_getElem? (i := 66) rfl) rfl
set_option maxRecDepth 20000 in
theorem kw_343 : (Cond.methodLink RX0 36 yX0_dayOfYear) ∈ mW := mtb_2 (List.mem_of_getElem? (i := 64) rfl) rfl
set_option maxRecDepth 20000 in
theorem kw_344 : (Cond.static yX0_dayOfYear) ∈ mW := mtb_2 (List.mem_of_getElem? (i := 65) rfl) rfl
set_option maxRecDepth 20000 in
theorem kw_346 : (Cond.methodLink RX0 39 yX0_monthOf) ∈ mW := mtb_2 (List.mem_of_getElem? (i := 67) rfl) rfl
set_option maxRecDepth 20000 in
theorem kw_347 : (Cond.methodLink RX2 350 yX0_dayOfYear) ∈ mW := mtb_2 (List.mem_of_getElem? (i := 68) rfl) rfl
set_option maxRecDepth 20000 in
theorem kw_351 : (Cond.code yX1_hour cX1_hour 1 (some .int)) ∈ mW := mtb_2 (List.mem_of_getElem? (i := 72) rfl) rfl
set_option maxRecDepth 20000 in
theorem kw_348 : (Cond.methodLink RX2 335 yX1_hour) ∈ mW := mtb_2 (List.mem_of_getElem? (i := 69) rfl) rfl
set_option maxRecDepth 20000 in
theorem kw_349 : (Cond.instanceMethod yX1_hour) ∈ mW := mtb_2 (List.mem_of_getElem? (i := 70) rfl) rfl
set_option maxRecDepth 20000 in
theorem kw_350 : (Cond.selects RX1 yX1_hour yX1_hour) ∈ mW := mtb_2 (List.mem_of_getElem? (i := 71) rfl) rfl
set_option maxRecDepth 20000 in
theorem kw_352 : (Cond.methodLink RX1 48 yX1_secondOfDay) ∈ mW := mtb_2 (List.mem_of_getElem? (i := 73) rfl) rfl
set_option maxRecDepth 20000 in
theorem kw_356 : (Cond.code yX1_minute cX1_minute 1 (some .int)) ∈ mW := mtb_2 (List.mem_of_getElem? (i := 77) rfl) rfl
set_option maxRecDepth 20000 in
theorem kw_353 : (Cond.methodLink RX2 342 yX1_minute) ∈ mW := mtb_2 (List.mem_of_getElem? (i := 74) rfl) rfl
set_option maxRecDepth 20000 in
theorem kw_354 : (Cond.instanceMethod yX1_minute) ∈ mW := mtb_2 (List.mem_of_getElem? (i := 75) rfl) rfl
set_option maxRecDepth 20000 in
theorem kw_355 : (Cond.selects RX1 yX1_minute yX1_minute) ∈ mW := mtb_2 (List.mem_of_getElem? (i := 76) rfl) rfl
set_option maxRecDepth 20000 in
theorem kw_360 : (Cond.code yX1_secondOfMinute cX1_secondOfMinute 1 (some .int)) ∈ mW := mtb_2 (List.mem_of_getElem? (i := 81) rfl) rfl
set_option maxRecDepth 20000 in
theorem kw_357 : (Cond.methodLink RX2 345 yX1_secondOfMinute) ∈ mW := mtb_2 (List.mem_of_getElem? (i := 78) rfl) rfl
set_option maxRecDepth 20000 in
theorem kw_358 : (Cond.instanceMethod yX1_secondOfMinute) ∈ mW := mtb_2 (List.mem_of_getElem? (i := 79) rfl) rfl
set_option maxRecDepth 20000 in
theorem kw_359 : (Cond.selects RX1 yX1_secondOfMinute yX1_secondOfMinute) ∈ mW := mtb_2 (List.mem_of_getElem? (i := 80) rfl) rfl
set_option maxRecDepth 20000 in
theorem kw_363 : (Cond.code yX0_dayOfWeek cX0_dayOfWeek 1 (some .int)) ∈ mW := mtb_2 (List.mem_of_getElem? (i := 84) rfl) rfl
set_option maxRecDepth 20000 in
theorem kw_361 : (Cond.methodLink RX2 353 yX0_dayOfWeek) ∈ mW := mtb_2 (List.mem_of_getElem? (i := 82) rfl) rfl
set_option maxRecDepth 20000 in
theorem kw_362 : (Cond.static yX0_dayOfWeek) ∈ mW := mtb_2 (List.mem_of_getElem? (i := 83) rfl) rfl
set_option maxRecDepth 20000 in
theorem kw_366 : (Cond.code yJ9_floorMod_7cf53 cJ9_floorMod_7cf53 3 (some .int)) ∈ mW := mtb_2 (List.mem_of_getElem? (i := 87) rfl) rfl
set_option maxRecDepth 20000 in
theorem kw_364 : (Cond.methodLink RX0 42 yJ9_floorMod_7cf53) ∈ mW := mtb_2 (List.mem_of_getElem? (i := 85) rfl) rfl
set_option maxRecDepth 20000 in
theorem kw_365 : (Cond.static yJ9_floorMod_7cf53) ∈ mW := mtb_2 (List.mem_of_getElem? (i := 86) rfl) rfl
set_option maxRecDepth 20000 in
theorem kw_370 : (Cond.code yX2_withClocks cX2_withClocks 7 (some .long)) ∈ mW := mtb_2 (List.mem_of_getElem? (i := 91) rfl) rfl
set_option maxRecDepth 20000 in
theorem kw_367 : (Cond.methodLink RX2 232 yX2_withClocks) ∈ mW := mtb_2 (List.mem_of_getElem? (i := 88) rfl) rfl
set_option maxRecDepth 20000 in
theorem kw_369 : (Cond.instanceMethod yX2_withClocks) ∈ mW := mtb_2 (List.mem_of_getElem? (i := 90) rfl) rfl
set_option maxRecDepth 20000 in
theorem kw_9 : (Cond.selects RX2 yX2_withClocks yX2_withClocks) ∈ mW := mW_at 9 rfl rfl
set_option maxRecDepth 20000 in
theorem kw_373 : (Cond.code yX2_clockPart cX2_clockPart 2 (some .int)) ∈ mW := mtb_2 (List.mem_of_getElem? (i := 94) rfl) rfl
set_option maxRecDepth 20000 in
theorem kw_371 : (Cond.methodLink RX2 193 yX2_clockPart) ∈ mW := mtb_2 (List.mem_of_getElem? (i := 92) rfl) rfl
set_option maxRecDepth 20000 in
theorem kw_372 : (Cond.static yX2_clockPart) ∈ mW := mtb_2 (List.mem_of_getElem? (i := 93) rfl) rfl
set_option maxRecDepth 20000 in
theorem kw_377 : (Cond.code yX2_withDatePairs cX2_withDatePairs 7 (some .long)) ∈ mW := mtb_2 (List.mem_of_getElem? (i := 98) rfl) rfl
set_option maxRecDepth 20000 in
theorem kw_374 : (Cond.methodLink RX2 235 yX2_withDatePairs) ∈ mW := mtb_2 (List.mem_of_getElem? (i := 95) rfl) rfl
set_option maxRecDepth 20000 in
theorem kw_376 : (Cond.instanceMethod yX2_withDatePairs) ∈ mW := mtb_2 (List.mem_of_getElem? (i := 97) rfl) rfl
set_option maxRecDepth 20000 in
theorem kw_10 : (Cond.selects RX2 yX2_withDatePairs yX2_withDatePairs) ∈ mW := mW_at 10 rfl rfl
set_option maxRecDepth 20000 in
theorem kw_381 : (Cond.code yX2_withClockPairs cX2_withClockPairs 7 (some .long)) ∈ mW := mtb_2 (List.mem_of_getElem? (i := 102) rfl) rfl
set_option maxRecDepth 20000 in
theorem kw_378 : (Cond.methodLink RX2 238 yX2_withClockPairs) ∈ mW := mtb_2 (List.mem_of_getElem? (i := 99) rfl) rfl
set_option maxRecDepth 20000 in
theorem kw_380 : (Cond.instanceMethod yX2_withClockPairs) ∈ mW := mtb_2 (List.mem_of_getElem? (i := 101) rfl) rfl
set_option maxRecDepth 20000 in
theorem kw_11 : (Cond.selects RX2 yX2_withClockPairs yX2_withClockPairs) ∈ mW := mW_at 11 rfl rfl
set_option maxRecDepth 20000 in
theorem kw_385 : (Cond.code yX2_withHouse cX2_withHouse 6 (some .long)) ∈ mW := mtb_2 (List.mem_of_getElem? (i := 106) rfl) rfl
set_option maxRecDepth 20000 in
theorem kw_382 : (Cond.methodLink RX2 241 yX2_withHouse) ∈ mW := mtb_2 (List.mem_of_getElem? (i := 103) rfl) rfl
set_option maxRecDepth 20000 in
theorem kw_384 : (Cond.instanceMethod yX2_withHouse) ∈ mW := mtb_2 (List.mem_of_getElem? (i := 105) rfl) rfl
set_option maxRecDepth 20000 in
theorem kw_12 : (Cond.selects RX2 yX2_withHouse yX2_withHouse) ∈ mW := mW_at 12 rfl rfl
set_option maxRecDepth 20000 in
theorem kw_389 : (Cond.code yX2_house cX2_house 2 (some .int)) ∈ mW := mtb_2 (List.mem_of_getElem? (i := 110) rfl) rfl
set_option maxRecDepth 20000 in
theorem kw_386 : (Cond.methodLink RX2 380 yX2_house) ∈ mW := mtb_2 (List.mem_of_getElem? (i := 107) rfl) rfl
set_option maxRecDepth 20000 in
theorem kw_387 : (Cond.instanceMethod yX2_house) ∈ mW := mtb_2 (List.mem_of_getElem? (i := 108) rfl) rfl
set_option maxRecDepth 20000 in
theorem kw_388 : (Cond.selects RX2 yX2_house yX2_house) ∈ mW := mtb_2 (List.mem_of_getElem? (i := 109) rfl) rfl
set_option maxRecDepth 20000 in
theorem kw_392 : (Cond.code yX2_requireWithin cX2_requireWithin 3 none) ∈ mW := mtb_2 (List.mem_of_getElem? (i := 113) rfl) rfl
set_option maxRecDepth 20000 in
theorem kw_390 : (Cond.methodLink RX2 40 yX2_requireWithin) ∈ mW := mtb_2 (List.mem_of_getElem? (i := 111) rfl) rfl
set_option maxRecDepth 20000 in
theorem kw_391 : (Cond.static yX2_requireWithin) ∈ mW := mtb_2 (List.mem_of_getElem? (i := 112) rfl) rfl
set_option maxRecDepth 20000 in
theorem kw_393 : (Cond.classLink RX2 257 "java/lang/IllegalArgumentException") ∈ mW := mtb_2 (List.mem_of_getElem? (i := 114) rfl) rfl
set_option maxRecDepth 20000 in
theorem kw_412 : (Cond.code yX2_firstDated cX2_firstDated 3 (some .int)) ∈ mW := mtb_2 (List.mem_of_getElem? (i := 133) rfl) rfl
set_option maxRecDepth 20000 in
theorem kw_409 : (Cond.methodLink RX2 202 yX2_firstDated) ∈ mW := mtb_2 (List.mem_of_getElem? (i := 130) rfl) rfl
set_option maxRecDepth 20000 in
theorem kw_411 : (Cond.instanceMethod yX2_firstDated) ∈ mW := mtb_2 (List.mem_of_getElem? (i := 132) rfl) rfl
set_option maxRecDepth 20000 in
theorem kw_13 : (Cond.selects RX2 yX2_firstDated yX2_firstDated) ∈ mW := mW_at 13 rfl rfl
set_option maxRecDepth 20000 in
theorem kw_416 : (Cond.code yX2_firstMoment cX2_firstMoment 3 (some .int)) ∈ mW := mtb_2 (List.mem_of_getElem? (i := 137) rfl) rfl
set_option maxRecDepth 20000 in
theorem kw_413 : (Cond.methodLink RX2 205 yX2_firstMoment) ∈ mW := mtb_2 (List.mem_of_getElem? (i := 134) rfl) rfl
set_option maxRecDepth 20000 in
theorem kw_415 : (Cond.instanceMethod yX2_firstMoment) ∈ mW := mtb_2 (List.mem_of_getElem? (i := 136) rfl) rfl
set_option maxRecDepth 20000 in
theorem kw_14 : (Cond.selects RX2 yX2_firstMoment yX2_firstMoment) ∈ mW := mW_at 14 rfl rfl
set_option maxRecDepth 20000 in
theorem kw_417 : (Cond.methodLink RX2 244 yX2_isSound) ∈ mW := mtb_2 (List.mem_of_getElem? (i := 138) rfl) rfl
set_option maxRecDepth 20000 in
theorem kw_418 : (Cond.classLink RL 14 RX3) ∈ mW := mtb_2 (List.mem_of_getElem? (i := 139) rfl) rfl
set_option maxRecDepth 20000 in
theorem kw_419 : (Cond.instantiable RX3 2) ∈ mW := mtb_2 (List.mem_of_getElem? (i := 140) rfl) rfl
set_option maxRecDepth 20000 in
theorem kw_424 : (Cond.fieldLinkNest RL 13 "MomentdeskLaw$Out" "n" "J" RL) ∈ mW := mtb_2 (List.mem_of_getElem? (i := 145) rfl) rfl
set_option maxRecDepth 20000 in
theorem kw_425 : (Cond.fieldLinkNest RL 56 "MomentdeskLaw$Out" "s" "Ljava/lang/String;" RL) ∈ mW := mtb_2 (List.mem_of_getElem? (i := 146) rfl) rfl
set_option maxRecDepth 20000 in
theorem kw_433 : (Cond.codeWith yL_offset cL_offset 5 (some .int) [(0, 11, 14, 19), (0, 11, 18, 21)]) ∈ mW := mtb_2 (List.mem_of_getElem? (i := 154) rfl) rfl
set_option maxRecDepth 20000 in
theorem kw_431 : (Cond.methodLink RL 134 yL_offset) ∈ mW := mtb_2 (List.mem_of_getElem? (i := 152) rfl) rfl
set_option maxRecDepth 20000 in
theorem kw_432 : (Cond.static yL_offset) ∈ mW := mtb_2 (List.mem_of_getElem? (i := 153) rfl) rfl
set_option maxRecDepth 20000 in
theorem kw_434 : (Cond.classLink RL 19 "java/lang/IndexOutOfBoundsException") ∈ mW := mtb_2 (List.mem_of_getElem? (i := 155) rfl) rfl
set_option maxRecDepth 20000 in
theorem kw_435 : (Cond.classLink RL 21 "java/lang/IllegalArgumentException") ∈ mW := mtb_2 (List.mem_of_getElem? (i := 156) rfl) rfl
set_option maxRecDepth 20000 in
theorem kw_439 : (Cond.code yX2_offset cX2_offset 4 (some .int)) ∈ mW := mtb_2 (List.mem_of_getElem? (i := 160) rfl) rfl
set_option maxRecDepth 20000 in
theorem kw_436 : (Cond.methodLink RL 7 yX2_offset) ∈ mW := mtb_2 (List.mem_of_getElem? (i := 157) rfl) rfl
set_option maxRecDepth 20000 in
theorem kw_437 : (Cond.instanceMethod yX2_offset) ∈ mW := mtb_2 (List.mem_of_getElem? (i := 158) rfl) rfl
set_option maxRecDepth 20000 in
theorem kw_438 : (Cond.selects RX2 yX2_offset yX2_offset) ∈ mW := mtb_2 (List.mem_of_getElem? (i := 159) rfl) rfl
set_option maxRecDepth 20000 in
theorem kw_440 : (Cond.constant RX2 38 (-64800)) ∈ mW := mtb_2 (List.mem_of_getElem? (i := 161) rfl) rfl
set_option maxRecDepth 20000 in
theorem kw_441 : (Cond.constant RX2 39 (64800)) ∈ mW := mtb_2 (List.mem_of_getElem? (i := 162) rfl) rfl
set_option maxRecDepth 20000 in
theorem kw_444 : (Cond.codeWith yL_offsetOf cL_offsetOf 7 (some .int) [(0, 15, 18, 19)]) ∈ mW := mtb_2 (List.mem_of_getElem? (i := 165) rfl) rfl
set_option maxRecDepth 20000 in
theorem kw_442 : (Cond.methodLink RL 140 yL_offsetOf) ∈ mW := mtb_2 (List.mem_of_getElem? (i := 163) rfl) rfl
set_option maxRecDepth 20000 in
theorem kw_443 : (Cond.static yL_offsetOf) ∈ mW := mtb_2 (List.mem_of_getElem? (i := 164) rfl) rfl
set_option maxRecDepth 20000 in
theorem kw_448 : (Cond.code yX2_offsetOf cX2_offsetOf 8 (some .int)) ∈ mW := mtb_2 (List.mem_of_getElem? (i := 169) rfl) rfl
set_option maxRecDepth 20000 in
theorem kw_445 : (Cond.methodLink RL 23 yX2_offsetOf) ∈ mW := mtb_2 (List.mem_of_getElem? (i := 166) rfl) rfl
set_option maxRecDepth 20000 in
theorem kw_446 : (Cond.instanceMethod yX2_offsetOf) ∈ mW := mtb_2 (List.mem_of_getElem? (i := 167) rfl) rfl
set_option maxRecDepth 20000 in
theorem kw_447 : (Cond.selects RX2 yX2_offsetOf yX2_offsetOf) ∈ mW := mtb_2 (List.mem_of_getElem? (i := 168) rfl) rfl
set_option maxRecDepth 20000 in
theorem kw_449 : (Cond.constantLong RX2 44 (-18)) ∈ mW := mtb_2 (List.mem_of_getElem? (i := 170) rfl) rfl
set_option maxRecDepth 20000 in
theorem kw_450 : (Cond.constantLong RX2 46 (18)) ∈ mW := mtb_2 (List.mem_of_getElem? (i := 171) rfl) rfl
set_option maxRecDepth 20000 in
theorem kw_451 : (Cond.constantLong RX2 52 (-59)) ∈ mW := mtb_2 (List.mem_of_getElem? (i := 172) rfl) rfl
set_option maxRecDepth 20000 in
theorem kw_452 : (Cond.constantLong RX2 54 (59)) ∈ mW := mtb_2 (List.mem_of_getElem? (i := 173) rfl) rfl
set_option maxRecDepth 20000 in
theorem kw_456 : (Cond.code yX2_refused cX2_refused 1 (some .int)) ∈ mW := mtb_2 (List.mem_of_getElem? (i := 177) rfl) rfl
set_option maxRecDepth 20000 in
theorem kw_453 : (Cond.methodLink RX2 56 yX2_refused) ∈ mW := mtb_2 (List.mem_of_getElem? (i := 174) rfl) rfl
set_option maxRecDepth 20000 in
theorem kw_455 : (Cond.instanceMethod yX2_refused) ∈ mW := mtb_2 (List.mem_of_getElem? (i := 176) rfl) rfl
set_option maxRecDepth 20000 in
theorem kw_15 : (Cond.selects RX2 yX2_refused yX2_refused) ∈ mW := mW_at 15 rfl rfl
set_option maxRecDepth 20000 in
theorem kw_457 : (Cond.constantLong RX2 60 (-64800)) ∈ mW := mtb_2 (List.mem_of_getElem? (i := 178) rfl) rfl
set_option maxRecDepth 20000 in
theorem kw_458 : (Cond.constantLong RX2 62 (64800)) ∈ mW := mtb_2 (List.mem_of_getElem? (i := 179) rfl) rfl
set_option maxRecDepth 20000 in
theorem kw_461 : (Cond.codeWith yL_seconds cL_seconds 4 (some .int) [(0, 10, 13, 19)]) ∈ mW := mtb_2 (List.mem_of_getElem? (i := 182) rfl) rfl
set_option maxRecDepth 20000 in
theorem kw_459 : (Cond.methodLink RL 144 yL_seconds) ∈ mW := mtb_2 (List.mem_of_getElem? (i := 180) rfl) rfl
set_option maxRecDepth 20000 in
theorem kw_460 : (Cond.static yL_seconds) ∈ mW := mtb_2 (List.mem_of_getElem? (i := 181) rfl) rfl
set_option maxRecDepth 20000 in
theorem kw_462 : (Cond.methodLink RL 27 yX2_seconds) ∈ mW := mtb_2 (List.mem_of_getElem? (i := 183) rfl) rfl
set_option maxRecDepth 20000 in
theorem kw_465 : (Cond.codeWith yL_orderOffset cL_orderOffset 5 (some .int) [(0, 11, 14, 19)]) ∈ mW := mtb_2 (List.mem_of_getElem? (i := 186) rfl) rfl
set_option maxRecDepth 20000 in
theorem kw_463 : (Cond.methodLink RL 148 yL_orderOffset) ∈ mW := mtb_2 (List.mem_of_getElem? (i := 184) rfl) rfl
set_option maxRecDepth 20000 in
theorem kw_464 : (Cond.static yL_orderOffset) ∈ mW := mtb_2 (List.mem_of_getElem? (i := 185) rfl) rfl
set_option maxRecDepth 20000 in
theorem kw_469 : (Cond.code yX2_orderOffset cX2_orderOffset 3 (some .int)) ∈ mW := mtb_2 (List.mem_of_getElem? (i := 190) rfl) rfl
set_option maxRecDepth 20000 in
theorem kw_466 : (Cond.methodLink RL 31 yX2_orderOffset) ∈ mW := mtb_2 (List.mem_of_getElem? (i := 187) rfl) rfl
set_option maxRecDepth 20000 in
theorem kw_467 : (Cond.instanceMethod yX2_orderOffset) ∈ mW := mtb_2 (List.mem_of_getElem? (i := 188) rfl) rfl
set_option maxRecDepth 20000 in
theorem kw_468 : (Cond.selects RX2 yX2_orderOffset yX2_orderOffset) ∈ mW := mtb_2 (List.mem_of_getElem? (i := 189) rfl) rfl
set_option maxRecDepth 20000 in
theorem kw_470 : (Cond.methodLink RX2 68 yX2_compared) ∈ mW := mtb_2 (List.mem_of_getElem? (i := 191) rfl) rfl
set_option maxRecDepth 20000 in
theorem kw_473 : (Cond.codeWith yL_moment cL_moment 6 (some .int) [(0, 13, 16, 19)]) ∈ mW := mtb_2 (List.mem_of_getElem? (i := 194) rfl) rfl
set_option maxRecDepth 20000 in
theorem kw_471 : (Cond.methodLink RL 151 yL_moment) ∈ mW := mtb_2 (List.mem_of_getElem? (i := 192) rfl) rfl
set_option maxRecDepth 20000 in
theorem kw_472 : (Cond.static yL_moment) ∈ mW := mtb_2 (List.mem_of_getElem? (i := 193) rfl) rfl
set_option maxRecDepth 20000 in
theorem kw_477 : (Cond.code yX2_moment cX2_moment 4 (some .int)) ∈ mW := mtb_2 (List.mem_of_getElem? (i := 198) rfl) rfl
set_option maxRecDepth 20000 in
theorem kw_474 : (Cond.methodLink RL 34 yX2_moment) ∈ mW := mtb_2 (List.mem_of_getElem? (i := 195) rfl) rfl
set_option maxRecDepth 20000 in
theorem kw_475 : (Cond.instanceMethod yX2_moment) ∈ mW := mtb_2 (List.mem_of_getElem? (i := 196) rfl) rfl
set_option maxRecDepth 20000 in
theorem kw_476 : (Cond.selects RX2 yX2_moment yX2_moment) ∈ mW := mtb_2 (List.mem_of_getElem? (i := 197) rfl) rfl
set_option maxRecDepth 20000 in
theorem kw_481 : (Cond.code yX2_putNumber cX2_putNumber 4 (some .int)) ∈ mW := mtb_2 (List.mem_of_getElem? (i := 202) rfl) rfl
set_option maxRecDepth 20000 in
theorem kw_478 : (Cond.methodLink RX2 74 yX2_putNumber) ∈ mW := mtb_2 (List.mem_of_getElem? (i := 199) rfl) rfl
set_option maxRecDepth 20000 in
theorem kw_480 : (Cond.instanceMethod yX2_putNumber) ∈ mW := mtb_2 (List.mem_of_getElem? (i := 201) rfl) rfl
set_option maxRecDepth 20000 in
theorem kw_16 : (Cond.selects RX2 yX2_putNumber yX2_putNumber) ∈ mW := mW_at 16 rfl rfl
set_option maxRecDepth 20000 in
theorem kw_482 : (Cond.constantLong RX2 262 (-1800000000000000000)) ∈ mW := mtb_2 (List.mem_of_getElem? (i := 203) rfl) rfl
set_option maxRecDepth 20000 in
theorem kw_483 : (Cond.constantLong RX2 264 (1800000000999999999)) ∈ mW := mtb_2 (List.mem_of_getElem? (i := 204) rfl) rfl
set_option maxRecDepth 20000 in
theorem kw_486 : (Cond.codeWith yL_milli cL_milli 6 (some .int) [(0, 13, 16, 19)]) ∈ mW := mtb_2 (List.mem_of_getElem? (i := 207) rfl) rfl
set_option maxRecDepth 20000 in
theorem kw_484 : (Cond.methodLink RL 155 yL_milli) ∈ mW := mtb_2 (List.mem_of_getElem? (i := 205) rfl) rfl
set_option maxRecDepth 20000 in
theorem kw_485 : (Cond.static yL_milli) ∈ mW := mtb_2 (List.mem_of_getElem? (i := 206) rfl) rfl
set_option maxRecDepth 20000 in
theorem kw_490 : (Cond.code yX2_milli cX2_milli 4 (some .int)) ∈ mW := mtb_2 (List.mem_of_getElem? (i := 211) rfl) rfl
set_option maxRecDepth 20000 in
theorem kw_487 : (Cond.methodLink RL 38 yX2_milli) ∈ mW := mtb_2 (List.mem_of_getElem? (i := 208) rfl) rfl
set_option maxRecDepth 20000 in
theorem kw_488 : (Cond.instanceMethod yX2_milli) ∈ mW := mtb_2 (List.mem_of_getElem? (i := 209) rfl) rfl
set_option maxRecDepth 20000 in
theorem kw_489 : (Cond.selects RX2 yX2_milli yX2_milli) ∈ mW := mtb_2 (List.mem_of_getElem? (i := 210) rfl) rfl
set_option maxRecDepth 20000 in
theorem kw_491 : (Cond.constantLong RX2 78 (1000000)) ∈ mW := mtb_2 (List.mem_of_getElem? (i := 212) rfl) rfl
set_option maxRecDepth 20000 in
theorem kw_494 : (Cond.codeWith yL_move cL_move 7 (some .int) [(0, 15, 18, 19), (0, 15, 22, 21)]) ∈ mW := mtb_2 (List.mem_of_getElem? (i := 215) rfl) rfl
set_option maxRecDepth 20000 in
theorem kw_492 : (Cond.methodLink RL 158 yL_move) ∈ mW := mtb_2 (List.mem_of_getElem? (i := 213) rfl) rfl
set_option maxRecDepth 20000 in
theorem kw_493 : (Cond.static yL_move) ∈ mW := mtb_2 (List.mem_of_getElem? (i := 214) rfl) rfl
set_option maxRecDepth 20000 in
theorem kw_498 : (Cond.code yX2_move cX2_move 7 (some .int)) ∈ mW := mtb_2 (List.mem_of_getElem? (i := 219) rfl) rfl
set_option maxRecDepth 20000 in
theorem kw_495 : (Cond.methodLink RL 41 yX2_move) ∈ mW := mtb_2 (List.mem_of_getElem? (i := 216) rfl) rfl
set_option maxRecDepth 20000 in
theorem kw_496 : (Cond.instanceMethod yX2_move) ∈ mW := mtb_2 (List.mem_of_getElem? (i := 217) rfl) rfl
set_option maxRecDepth 20000 in
theorem kw_497 : (Cond.selects RX2 yX2_move yX2_move) ∈ mW := mtb_2 (List.mem_of_getElem? (i := 218) rfl) rfl
set_option maxRecDepth 20000 in
theorem kw_501 : (Cond.code yX2_signed cX2_signed 2 (some .long)) ∈ mW := mtb_2 (List.mem_of_getElem? (i := 222) rfl) rfl
set_option maxRecDepth 20000 in
theorem kw_499 : (Cond.methodLink RX2 80 yX2_signed) ∈ mW := mtb_2 (List.mem_of_getElem? (i := 220) rfl) rfl
set_option maxRecDepth 20000 in
theorem kw_500 : (Cond.static yX2_signed) ∈ mW := mtb_2 (List.mem_of_getElem? (i := 221) rfl) rfl
set_option maxRecDepth 20000 in
theorem kw_504 : (Cond.codeWith yL_momentOf cL_momentOf 5 (some .int) [(0, 11, 14, 19)]) ∈ mW := mtb_2 (List.mem_of_getElem? (i := 225) rfl) rfl
set_option maxRecDepth 20000 in
theorem kw_502 : (Cond.methodLink RL 162 yL_momentOf) ∈ mW := mtb_2 (List.mem_of_getElem? (i := 223) rfl) rfl
set_option maxRecDepth 20000 in
theorem kw_503 : (Cond.static yL_momentOf) ∈ mW := mtb_2 (List.mem_of_getElem? (i := 224) rfl) rfl
set_option maxRecDepth 20000 in
theorem kw_508 : (Cond.code yX2_momentOf cX2_momentOf 3 (some .int)) ∈ mW := mtb_2 (List.mem_of_getElem? (i := 229) rfl) rfl
set_option maxRecDepth 20000 in
theorem kw_505 : (Cond.methodLink RL 45 yX2_momentOf) ∈ mW := mtb_2 (List.mem_of_getElem? (i := 226) rfl) rfl
set_option maxRecDepth 20000 in
theorem kw_506 : (Cond.instanceMethod yX2_momentOf) ∈ mW := mtb_2 (List.mem_of_getElem? (i := 227) rfl) rfl
set_option maxRecDepth 20000 in
theorem kw_507 : (Cond.selects RX2 yX2_momentOf yX2_momentOf) ∈ mW := mtb_2 (List.mem_of_getElem? (i := 228) rfl) rfl
set_option maxRecDepth 20000 in
theorem kw_511 : (Cond.codeWith yL_ofMoment cL_ofMoment 5 (some .int) [(0, 11, 14, 19)]) ∈ mW := mtb_2 (List.mem_of_getElem? (i := 232) rfl) rfl
set_option maxRecDepth 20000 in
theorem kw_509 : (Cond.methodLink RL 165 yL_ofMoment) ∈ mW := mtb_2 (List.mem_of_getElem? (i := 230) rfl) rfl
set_option maxRecDepth 20000 in
theorem kw_510 : (Cond.static yL_ofMoment) ∈ mW := mtb_2 (List.mem_of_getElem? (i := 231) rfl) rfl
set_option maxRecDepth 20000 in
theorem kw_512 : (Cond.methodLink RL 48 yX2_ofMoment) ∈ mW := mtb_2 (List.mem_of_getElem? (i := 233) rfl) rfl
set_option maxRecDepth 20000 in
theorem kw_515 : (Cond.codeWith yL_millis cL_millis 4 (some .int) [(0, 9, 12, 19)]) ∈ mW := mtb_2 (List.mem_of_getElem? (i := 236) rfl) rfl
set_option maxRecDepth 20000 in
theorem kw_513 : (Cond.methodLink RL 169 yL_millis) ∈ mW := mtb_2 (List.mem_of_getElem? (i := 234) rfl) rfl
set_option maxRecDepth 20000 in
theorem kw_514 : (Cond.static yL_millis) ∈ mW := mtb_2 (List.mem_of_getElem? (i := 235) rfl) rfl
set_option maxRecDepth 20000 in
theorem kw_519 : (Cond.code yX2_millis cX2_millis 2 (some (.object "java/lang/String"))) ∈ mW := mtb_3 (List.mem_of_getElem? (i := 0) rfl) rfl
set_option maxRecDepth 20000 in
theorem kw_516 : (Cond.methodLink RL 52 yX2_millis) ∈ mW := mtb_2 (List.mem_of_getElem? (i := 237) rfl) rfl
set_option maxRecDepth 20000 in
theorem kw_517 : (Cond.instanceMethod yX2_millis) ∈ mW := mtb_2 (List.mem_of_getElem? (i := 238) rfl) rfl
set_option maxRecDepth 20000 in
theorem kw_518 : (Cond.selects RX2 yX2_millis yX2_millis) ∈ mW := mtb_2 (List.mem_of_getElem? (i := 239) rfl) rfl
set_option maxRecDepth 20000 in
theorem kw_522 : (Cond.code yX2_textOf cX2_textOf 6 (some (.object "java/lang/String"))) ∈ mW := mtb_3 (List.mem_of_getElem? (i := 3) rfl) rfl
set_option maxRecDepth 20000 in
theorem kw_520 : (Cond.methodLink RX2 106 yX2_textOf) ∈ mW := mtb_3 (List.mem_of_getElem? (i := 1) rfl) rfl
set_option maxRecDepth 20000 in
theorem kw_521 : (Cond.static yX2_textOf) ∈ mW := mtb_3 (List.mem_of_getElem? (i := 2) rfl) rfl
set_option maxRecDepth 20000 in
theorem kw_523 : (Cond.classLink RX2 280 "java/lang/StringBuilder") ∈ mW := mtb_3 (List.mem_of_getElem? (i := 4) rfl) rfl
set_option maxRecDepth 20000 in
theorem kw_557 : (Cond.constantLong RX2 286 (48)) ∈ mW := mtb_3 (List.mem_of_getElem? (i := 38) rfl) rfl
set_option maxRecDepth 20000 in
theorem kw_558 : (Cond.constantLong RX2 288 (10)) ∈ mW := mtb_3 (List.mem_of_getElem? (i := 39) rfl) rfl
set_option maxRecDepth 20000 in
theorem kw_825 : (Cond.codeWith yL_orderMoment cL_orderMoment 5 (some .int) [(0, 11, 14, 19)]) ∈ mW := mtb_4 (List.mem_of_getElem? (i := 66) rfl) rfl
set_option maxRecDepth 20000 in
theorem kw_823 : (Cond.methodLink RL 172 yL_orderMoment) ∈ mW := mtb_4 (List.mem_of_getElem? (i := 64) rfl) rfl
set_option maxRecDepth 20000 in
theorem kw_824 : (Cond.static yL_orderMoment) ∈ mW := mtb_4 (List.mem_of_getElem? (i := 65) rfl) rfl
set_option maxRecDepth 20000 in
theorem kw_829 : (Cond.code yX2_orderMoment cX2_orderMoment 3 (some .int)) ∈ mW := mtb_4 (List.mem_of_getElem? (i := 70) rfl) rfl
set_option maxRecDepth 20000 in
theorem kw_826 : (Cond.methodLink RL 60 yX2_orderMoment) ∈ mW := mtb_4 (List.mem_of_getElem? (i := 67) rfl) rfl
set_option maxRecDepth 20000 in
theorem kw_827 : (Cond.instanceMethod yX2_orderMoment) ∈ mW := mtb_4 (List.mem_of_getElem? (i := 68) rfl) rfl
set_option maxRecDepth 20000 in
theorem kw_828 : (Cond.selects RX2 yX2_orderMoment yX2_orderMoment) ∈ mW := mtb_4 (List.mem_of_getElem? (i := 69) rfl) rfl
set_option maxRecDepth 20000 in
theorem kw_832 : (Cond.codeWith yL_isMoment cL_isMoment 6 (some .int) [(0, 20, 23, 19), (0, 20, 27, 21)]) ∈ mW := mtb_4 (List.mem_of_getElem? (i := 73) rfl) rfl
set_option maxRecDepth 20000 in
theorem kw_830 : (Cond.methodLink RL 175 yL_isMoment) ∈ mW := mtb_4 (List.mem_of_getElem? (i := 71) rfl) rfl
set_option maxRecDepth 20000 in
theorem kw_831 : (Cond.static yL_isMoment) ∈ mW := mtb_4 (List.mem_of_getElem? (i := 72) rfl) rfl
set_option maxRecDepth 20000 in
theorem kw_836 : (Cond.code yX2_isMoment cX2_isMoment 5 (some .boolean)) ∈ mW := mtb_4 (List.mem_of_getElem? (i := 77) rfl) rfl
set_option maxRecDepth 20000 in
theorem kw_833 : (Cond.methodLink RL 63 yX2_isMoment) ∈ mW := mtb_4 (List.mem_of_getElem? (i := 74) rfl) rfl
set_option maxRecDepth 20000 in
theorem kw_834 : (Cond.instanceMethod yX2_isMoment) ∈ mW := mtb_4 (List.mem_of_getElem? (i := 75) rfl) rfl
set_option maxRecDepth 20000 in
theorem kw_835 : (Cond.selects RX2 yX2_isMoment yX2_isMoment) ∈ mW := mtb_4 (List.mem_of_getElem? (i := 76) rfl) rfl
set_option maxRecDepth 20000 in
theorem kw_837 : (Cond.methodLink RX2 110 yX2_orderMoment) ∈ mW := mtb_4 (List.mem_of_getElem? (i := 78) rfl) rfl
set_option maxRecDepth 20000 in
theorem kw_840 : (Cond.codeWith yL_copyMoment cL_copyMoment 5 (some .int) [(0, 11, 14, 19)]) ∈ mW := mtb_4 (List.mem_of_getElem? (i := 81) rfl) rfl
set_option maxRecDepth 20000 in
theorem kw_838 : (Cond.methodLink RL 178 yL_copyMoment) ∈ mW := mtb_4 (List.mem_of_getElem? (i := 79) rfl) rfl
set_option maxRecDepth 20000 in
theorem kw_839 : (Cond.static yL_copyMoment) ∈ mW := mtb_4 (List.mem_of_getElem? (i := 80) rfl) rfl
set_option maxRecDepth 20000 in
theorem kw_844 : (Cond.code yX2_copyMoment cX2_copyMoment 3 (some .int)) ∈ mW := mtb_4 (List.mem_of_getElem? (i := 85) rfl) rfl
set_option maxRecDepth 20000 in
theorem kw_841 : (Cond.methodLink RL 67 yX2_copyMoment) ∈ mW := mtb_4 (List.mem_of_getElem? (i := 82) rfl) rfl
set_option maxRecDepth 20000 in
theorem kw_842 : (Cond.instanceMethod yX2_copyMoment) ∈ mW := mtb_4 (List.mem_of_getElem? (i := 83) rfl) rfl
set_option maxRecDepth 20000 in
theorem kw_843 : (Cond.selects RX2 yX2_copyMoment yX2_copyMoment) ∈ mW := mtb_4 (List.mem_of_getElem? (i := 84) rfl) rfl
set_option maxRecDepth 20000 in
theorem kw_847 : (Cond.codeWith yL_date cL_date 9 (some .int) [(0, 19, 22, 19), (0, 19, 26, 21)]) ∈ mW := mtb_4 (List.mem_of_getElem? (i := 88) rfl) rfl
set_option maxRecDepth 20000 in
theorem kw_845 : (Cond.methodLink RL 181 yL_date) ∈ mW := mtb_4 (List.mem_of_getElem? (i := 86) rfl) rfl
set_option maxRecDepth 20000 in
theorem kw_846 : (Cond.static yL_date) ∈ mW := mtb_4 (List.mem_of_getElem? (i := 87) rfl) rfl
set_option maxRecDepth 20000 in
theorem kw_851 : (Cond.code yX2_date cX2_date 11 (some .int)) ∈ mW := mtb_4 (List.mem_of_getElem? (i := 92) rfl) rfl
set_option maxRecDepth 20000 in
theorem kw_848 : (Cond.methodLink RL 70 yX2_date) ∈ mW := mtb_4 (List.mem_of_getElem? (i := 89) rfl) rfl
set_option maxRecDepth 20000 in
theorem kw_849 : (Cond.instanceMethod yX2_date) ∈ mW := mtb_4 (List.mem_of_getElem? (i := 90) rfl) rfl
set_option maxRecDepth 20000 in
theorem kw_850 : (Cond.selects RX2 yX2_date yX2_date) ∈ mW := mtb_4 (List.mem_of_getElem? (i := 91) rfl) rfl
set_option maxRecDepth 20000 in
theorem kw_852 : (Cond.constant RX2 114 (86399)) ∈ mW := mtb_4 (List.mem_of_getElem? (i := 93) rfl) rfl
set_option maxRecDepth 20000 in
theorem kw_853 : (Cond.constant RX2 115 (999999999)) ∈ mW := mtb_4 (List.mem_of_getElem? (i := 94) rfl) rfl
set_option maxRecDepth 20000 in
theorem kw_854 : (Cond.constantLong RX2 116 (1910)) ∈ mW := mtb_4 (List.mem_of_getElem? (i := 95) rfl) rfl
set_option maxRecDepth 20000 in
theorem kw_855 : (Cond.constantLong RX2 118 (2030)) ∈ mW := mtb_4 (List.mem_of_getElem? (i := 96) rfl) rfl
set_option maxRecDepth 20000 in
theorem kw_858 : (Cond.code yX0_isDay cX0_isDay 3 (some .boolean)) ∈ mW := mtb_4 (List.mem_of_getElem? (i := 99) rfl) rfl
set_option maxRecDepth 20000 in
theorem kw_856 : (Cond.methodLink RX2 120 yX0_isDay) ∈ mW := mtb_4 (List.mem_of_getElem? (i := 97) rfl) rfl
set_option maxRecDepth 20000 in
theorem kw_857 : (Cond.static yX0_isDay) ∈ mW := mtb_4 (List.mem_of_getElem? (i := 98) rfl) rfl
set_option maxRecDepth 20000 in
theorem kw_859 : (Cond.constantLong RX0 15 (12)) ∈ mW := mtb_4 (List.mem_of_getElem? (i := 100) rfl) rfl
set_option maxRecDepth 20000 in
theorem kw_860 : (Cond.methodLinkNest RX0 17 yX2_isWithin RX2) ∈ mW := mtb_4 (List.mem_of_getElem? (i := 101) rfl) rfl
set_option maxRecDepth 20000 in
theorem kw_863 : (Cond.code yX0_lengthOfMonth cX0_lengthOfMonth 2 (some .int)) ∈ mW := mtb_4 (List.mem_of_getElem? (i := 104) rfl) rfl
set_option maxRecDepth 20000 in
theorem kw_861 : (Cond.methodLink RX0 21 yX0_lengthOfMonth) ∈ mW := mtb_4 (List.mem_of_getElem? (i := 102) rfl) rfl
set_option maxRecDepth 20000 in
theorem kw_862 : (Cond.static yX0_lengthOfMonth) ∈ mW := mtb_4 (List.mem_of_getElem? (i := 103) rfl) rfl
set_option maxRecDepth 20000 in
theorem kw_866 : (Cond.code yX0_dayOf cX0_dayOf 3 (some .int)) ∈ mW := mtb_4 (List.mem_of_getElem? (i := 107) rfl) rfl
set_option maxRecDepth 20000 in
theorem kw_864 : (Cond.methodLink RX2 126 yX0_dayOf) ∈ mW := mtb_4 (List.mem_of_getElem? (i := 105) rfl) rfl
set_option maxRecDepth 20000 in
theorem kw_865 : (Cond.static yX0_dayOf) ∈ mW := mtb_4 (List.mem_of_getElem? (i := 106) rfl) rfl
set_option maxRecDepth 20000 in
theorem kw_867 : (Cond.constantLong RX2 130 (86400)) ∈ mW := mtb_4 (List.mem_of_getElem? (i := 108) rfl) rfl
set_option maxRecDepth 20000 in
theorem kw_871 : (Cond.code yX2_putLocal cX2_putLocal 6 (some .int)) ∈ mW := mtb_4 (List.mem_of_getElem? (i := 112) rfl) rfl
set_option maxRecDepth 20000 in
theorem kw_868 : (Cond.methodLink RX2 132 yX2_putLocal) ∈ mW := mtb_4 (List.mem_of_getElem? (i := 109) rfl) rfl
set_option maxRecDepth 20000 in
theorem kw_870 : (Cond.instanceMethod yX2_putLocal) ∈ mW := mtb_4 (List.mem_of_getElem? (i := 111) rfl) rfl
set_option maxRecDepth 20000 in
theorem kw_17 : (Cond.selects RX2 yX2_putLocal yX2_putLocal) ∈ mW := mW_at 17 rfl rfl
set_option maxRecDepth 20000 in
theorem kw_874 : (Cond.codeWith yL_dateOf cL_dateOf 6 (some .int) [(0, 13, 16, 19)]) ∈ mW := mtb_4 (List.mem_of_getElem? (i := 115) rfl) rfl
set_option maxRecDepth 20000 in
theorem kw_872 : (Cond.methodLink RL 185 yL_dateOf) ∈ mW := mtb_4 (List.mem_of_getElem? (i := 113) rfl) rfl
set_option maxRecDepth 20000 in
theorem kw_873 : (Cond.static yL_dateOf) ∈ mW := mtb_4 (List.mem_of_getElem? (i := 114) rfl) rfl
set_option maxRecDepth 20000 in
theorem kw_878 : (Cond.code yX2_dateOf cX2_dateOf 8 (some .int)) ∈ mW := mtb_4 (List.mem_of_getElem? (i := 119) rfl) rfl
set_option maxRecDepth 20000 in
theorem kw_875 : (Cond.methodLink RL 74 yX2_dateOf) ∈ mW := mtb_4 (List.mem_of_getElem? (i := 116) rfl) rfl
set_option maxRecDepth 20000 in
theorem kw_876 : (Cond.instanceMethod yX2_dateOf) ∈ mW := mtb_4 (List.mem_of_getElem? (i := 117) rfl) rfl
set_option maxRecDepth 20000 in
theorem kw_877 : (Cond.selects RX2 yX2_dateOf yX2_dateOf) ∈ mW := mtb_4 (List.mem_of_getElem? (i := 118) rfl) rfl
set_option maxRecDepth 20000 in
theorem kw_881 : (Cond.codeWith yL_moveDate cL_moveDate 7 (some .int) [(0, 15, 18, 19), (0, 15, 22, 21)]) ∈ mW := mtb_4 (List.mem_of_getElem? (i := 122) rfl) rfl
set_option maxRecDepth 20000 in
theorem kw_879 : (Cond.methodLink RL 188 yL_moveDate) ∈ mW := mtb_4 (List.mem_of_getElem? (i := 120) rfl) rfl
set_option maxRecDepth 20000 in
theorem kw_880 : (Cond.static yL_moveDate) ∈ mW := mtb_4 (List.mem_of_getElem? (i := 121) rfl) rfl
set_option maxRecDepth 20000 in
theorem kw_885 : (Cond.code yX2_moveDate cX2_moveDate 8 (some .int)) ∈ mW := mtb_4 (List.mem_of_getElem? (i := 126) rfl) rfl
set_option maxRecDepth 20000 in
theorem kw_882 : (Cond.methodLink RL 77 yX2_moveDate) ∈ mW := mtb_4 (List.mem_of_getElem? (i := 123) rfl) rfl
set_option maxRecDepth 20000 in
theorem kw_883 : (Cond.instanceMethod yX2_moveDate) ∈ mW := mtb_4 (List.mem_of_getElem? (i := 124) rfl) rfl
set_option maxRecDepth 20000 in
theorem kw_884 : (Cond.selects RX2 yX2_moveDate yX2_moveDate) ∈ mW := mtb_4 (List.mem_of_getElem? (i := 125) rfl) rfl
set_option maxRecDepth 20000 in
theorem kw_889 : (Cond.code yX1_months cX1_months 1 (some .long)) ∈ mW := mtb_4 (List.mem_of_getElem? (i := 130) rfl) rfl
set_option maxRecDepth 20000 in
theorem kw_886 : (Cond.methodLink RX2 136 yX1_months) ∈ mW := mtb_4 (List.mem_of_getElem? (i := 127) rfl) rfl
set_option maxRecDepth 20000 in
theorem kw_887 : (Cond.instanceMethod yX1_months) ∈ mW := mtb_4 (List.mem_of_getElem? (i := 128) rfl) rfl
set_option maxRecDepth 20000 in
theorem kw_888 : (Cond.selects RX1 yX1_months yX1_months) ∈ mW := mtb_4 (List.mem_of_getElem? (i := 129) rfl) rfl
set_option maxRecDepth 20000 in
theorem kw_890 : (Cond.methodLink RX1 34 yX0_yearOf) ∈ mW := mtb_4 (List.mem_of_getElem? (i := 131) rfl) rfl
set_option maxRecDepth 20000 in
theorem kw_891 : (Cond.constantLong RX1 40 (12)) ∈ mW := mtb_4 (List.mem_of_getElem? (i := 132) rfl) rfl
set_option maxRecDepth 20000 in
theorem kw_892 : (Cond.methodLink RX1 42 yX0_monthOf) ∈ mW := mtb_4 (List.mem_of_getElem? (i := 133) rfl) rfl
set_option maxRecDepth 20000 in
theorem kw_893 : (Cond.constantLong RX2 140 (12)) ∈ mW := mtb_4 (List.mem_of_getElem? (i := 134) rfl) rfl
set_option maxRecDepth 20000 in
theorem kw_897 : (Cond.code yX2_putMonths cX2_putMonths 9 (some .int)) ∈ mW := mtb_4 (List.mem_of_getElem? (i := 138) rfl) rfl
set_option maxRecDepth 20000 in
theorem kw_894 : (Cond.methodLink RX2 142 yX2_putMonths) ∈ mW := mtb_4 (List.mem_of_getElem? (i := 135) rfl) rfl
set_option maxRecDepth 20000 in
theorem kw_896 : (Cond.instanceMethod yX2_putMonths) ∈ mW := mtb_4 (List.mem_of_getElem? (i := 137) rfl) rfl
set_option maxRecDepth 20000 in
theorem kw_18 : (Cond.selects RX2 yX2_putMonths yX2_putMonths) ∈ mW := mW_at 18 rfl rfl
set_option maxRecDepth 20000 in
theorem kw_898 : (Cond.methodLink RX2 308 yX0_lengthOfMonth) ∈ mW := mtb_4 (List.mem_of_getElem? (i := 139) rfl) rfl
set_option maxRecDepth 20000 in
theorem kw_597 : (Cond.code yJ9_min_7cf53 cJ9_min_7cf53 2 (some .int)) ∈ mW := mtb_3 (List.mem_of_getElem? (i := 78) rfl) rfl
set_option maxRecDepth 20000 in
theorem kw_899 : (Cond.methodLink RX2 314 yJ9_min_7cf53) ∈ mW := mtb_4 (List.mem_of_getElem? (i := 140) rfl) rfl
set_option maxRecDepth 20000 in
theorem kw_596 : (Cond.static yJ9_min_7cf53) ∈ mW := mtb_3 (List.mem_of_getElem? (i := 77) rfl) rfl
set_option maxRecDepth 20000 in
theorem kw_903 : (Cond.code yX2_putDay cX2_putDay 3 (some .int)) ∈ mW := mtb_4 (List.mem_of_getElem? (i := 144) rfl) rfl
set_option maxRecDepth 20000 in
theorem kw_900 : (Cond.methodLink RX2 317 yX2_putDay) ∈ mW := mtb_4 (List.mem_of_getElem? (i := 141) rfl) rfl
set_option maxRecDepth 20000 in
theorem kw_902 : (Cond.instanceMethod yX2_putDay) ∈ mW := mtb_4 (List.mem_of_getElem? (i := 143) rfl) rfl
set_option maxRecDepth 20000 in
theorem kw_19 : (Cond.selects RX2 yX2_putDay yX2_putDay) ∈ mW := mW_at 19 rfl rfl
set_option maxRecDepth 20000 in
theorem kw_906 : (Cond.code yX2_secondsOn cX2_secondsOn 4 (some .long)) ∈ mW := mtb_4 (List.mem_of_getElem? (i := 147) rfl) rfl
set_option maxRecDepth 20000 in
theorem kw_904 : (Cond.methodLink RX2 150 yX2_secondsOn) ∈ mW := mtb_4 (List.mem_of_getElem? (i := 145) rfl) rfl
set_option maxRecDepth 20000 in
theorem kw_905 : (Cond.static yX2_secondsOn) ∈ mW := mtb_4 (List.mem_of_getElem? (i := 146) rfl) rfl
set_option maxRecDepth 20000 in
theorem kw_907 : (Cond.constantLong RX2 302 (7)) ∈ mW := mtb_4 (List.mem_of_getElem? (i := 148) rfl) rfl
set_option maxRecDepth 20000 in
theorem kw_908 : (Cond.constantLong RX2 304 (3600)) ∈ mW := mtb_4 (List.mem_of_getElem? (i := 149) rfl) rfl
set_option maxRecDepth 20000 in
theorem kw_909 : (Cond.constantLong RX2 306 (60)) ∈ mW := mtb_4 (List.mem_of_getElem? (i := 150) rfl) rfl
set_option maxRecDepth 20000 in
theorem kw_912 : (Cond.code yX2_nanoOn cX2_nanoOn 4 (some .int)) ∈ mW := mtb_4 (List.mem_of_getElem? (i := 153) rfl) rfl
set_option maxRecDepth 20000 in
theorem kw_910 : (Cond.methodLink RX2 154 yX2_nanoOn) ∈ mW := mtb_4 (List.mem_of_getElem? (i := 151) rfl) rfl
set_option maxRecDepth 20000 in
theorem kw_911 : (Cond.static yX2_nanoOn) ∈ mW := mtb_4 (List.mem_of_getElem? (i := 152) rfl) rfl
set_option maxRecDepth 20000 in
theorem kw_915 : (Cond.codeWith yL_set cL_set 6 (some .int) [(0, 13, 16, 19), (0, 13, 20, 21)]) ∈ mW := mtb_4 (List.mem_of_getElem? (i := 156) rfl) rfl
set_option maxRecDepth 20000 in
theorem kw_913 : (Cond.methodLink RL 191 yL_set) ∈ mW := mtb_4 (List.mem_of_getElem? (i := 154) rfl) rfl
set_option maxRecDepth 20000 in
theorem kw_914 : (Cond.static yL_set) ∈ mW := mtb_4 (List.mem_of_getElem? (i := 155) rfl) rfl
set_option maxRecDepth 20000 in
theorem kw_919 : (Cond.code yX2_set cX2_set 5 (some .int)) ∈ mW := mtb_4 (List.mem_of_getElem? (i := 160) rfl) rfl
set_option maxRecDepth 20000 in
theorem kw_916 : (Cond.methodLink RL 80 yX2_set) ∈ mW := mtb_4 (List.mem_of_getElem? (i := 157) rfl) rfl
set_option maxRecDepth 20000 in
theorem kw_917 : (Cond.instanceMethod yX2_set) ∈ mW := mtb_4 (List.mem_of_getElem? (i := 158) rfl) rfl
set_option maxRecDepth 20000 in
theorem kw_918 : (Cond.selects RX2 yX2_set yX2_set) ∈ mW := mtb_4 (List.mem_of_getElem? (i := 159) rfl) rfl
set_option maxRecDepth 20000 in
theorem kw_923 : (Cond.code yX2_setOfDay cX2_setOfDay 6 (some .int)) ∈ mW := mtb_4 (List.mem_of_getElem? (i := 164) rfl) rfl
set_option maxRecDepth 20000 in
theorem kw_920 : (Cond.methodLink RX2 162 yX2_setOfDay) ∈ mW := mtb_4 (List.mem_of_getElem? (i := 161) rfl) rfl
set_option maxRecDepth 20000 in
theorem kw_922 : (Cond.instanceMethod yX2_setOfDay) ∈ mW := mtb_4 (List.mem_of_getElem? (i := 163) rfl) rfl
set_option maxRecDepth 20000 in
theorem kw_20 : (Cond.selects RX2 yX2_setOfDay yX2_setOfDay) ∈ mW := mW_at 20 rfl rfl
set_option maxRecDepth 20000 in
theorem kw_926 : (Cond.code yX0_lengthOfYear cX0_lengthOfYear 1 (some .int)) ∈ mW := mtb_4 (List.mem_of_getElem? (i := 167) rfl) rfl
set_option maxRecDepth 20000 in
theorem kw_924 : (Cond.methodLink RX2 329 yX0_lengthOfYear) ∈ mW := mtb_4 (List.mem_of_getElem? (i := 165) rfl) rfl
set_option maxRecDepth 20000 in
theorem kw_925 : (Cond.static yX0_lengthOfYear) ∈ mW := mtb_4 (List.mem_of_getElem? (i := 166) rfl) rfl
set_option maxRecDepth 20000 in
theorem kw_927 : (Cond.methodLink RX2 332 yX0_firstDayOf) ∈ mW := mtb_4 (List.mem_of_getElem? (i := 168) rfl) rfl
set_option maxRecDepth 20000 in
theorem kw_931 : (Cond.code yX2_setOfTime cX2_setOfTime 4 (some .int)) ∈ mW := mtb_4 (List.mem_of_getElem? (i := 172) rfl) rfl
set_option maxRecDepth 20000 in
theorem kw_928 : (Cond.methodLink RX2 166 yX2_setOfTime) ∈ mW := mtb_4 (List.mem_of_getElem? (i := 169) rfl) rfl
set_option maxRecDepth 20000 in
theorem kw_930 : (Cond.instanceMethod yX2_setOfTime) ∈ mW := mtb_4 (List.mem_of_getElem? (i := 171) rfl) rfl
set_option maxRecDepth 20000 in
theorem kw_21 : (Cond.selects RX2 yX2_setOfTime yX2_setOfTime) ∈ mW := mW_at 21 rfl rfl
set_option maxRecDepth 20000 in
theorem kw_935 : (Cond.code yX2_setPart cX2_setPart 7 (some .int)) ∈ mW := mtb_4 (List.mem_of_getElem? (i := 176) rfl) rfl
set_option maxRecDepth 20000 in
theorem kw_932 : (Cond.methodLink RX2 338 yX2_setPart) ∈ mW := mtb_4 (List.mem_of_getElem? (i := 173) rfl) rfl
set_option maxRecDepth 20000 in
theorem kw_934 : (Cond.instanceMethod yX2_setPart) ∈ mW := mtb_4 (List.mem_of_getElem? (i := 175) rfl) rfl
set_option maxRecDepth 20000 in
theorem kw_22 : (Cond.selects RX2 yX2_setPart yX2_setPart) ∈ mW := mW_at 22 rfl rfl
set_option maxRecDepth 20000 in
theorem kw_936 : (Cond.constantLong RX2 348 (999999999)) ∈ mW := mtb_4 (List.mem_of_getElem? (i := 177) rfl) rfl
set_option maxRecDepth 20000 in
theorem kw_939 : (Cond.codeWith yL_anew cL_anew 6 (some .int) [(0, 13, 16, 19)]) ∈ mW := mtb_4 (List.mem_of_getElem? (i := 180) rfl) rfl
set_option maxRecDepth 20000 in
theorem kw_937 : (Cond.methodLink RL 194 yL_anew) ∈ mW := mtb_4 (List.mem_of_getElem? (i := 178) rfl) rfl
set_option maxRecDepth 20000 in
theorem kw_938 : (Cond.static yL_anew) ∈ mW := mtb_4 (List.mem_of_getElem? (i := 179) rfl) rfl
set_option maxRecDepth 20000 in
theorem kw_943 : (Cond.code yX2_anew cX2_anew 8 (some .int)) ∈ mW := mtb_4 (List.mem_of_getElem? (i := 184) rfl) rfl
set_option maxRecDepth 20000 in
theorem kw_940 : (Cond.methodLink RL 83 yX2_anew) ∈ mW := mtb_4 (List.mem_of_getElem? (i := 181) rfl) rfl
set_option maxRecDepth 20000 in
theorem kw_941 : (Cond.instanceMethod yX2_anew) ∈ mW := mtb_4 (List.mem_of_getElem? (i := 182) rfl) rfl
set_option maxRecDepth 20000 in
theorem kw_942 : (Cond.selects RX2 yX2_anew yX2_anew) ∈ mW := mtb_4 (List.mem_of_getElem? (i := 183) rfl) rfl
set_option maxRecDepth 20000 in
theorem kw_946 : (Cond.codeWith yL_copy cL_copy 5 (some .int) [(0, 11, 14, 19)]) ∈ mW := mtb_4 (List.mem_of_getElem? (i := 187) rfl) rfl
set_option maxRecDepth 20000 in
theorem kw_944 : (Cond.methodLink RL 198 yL_copy) ∈ mW := mtb_4 (List.mem_of_getElem? (i := 185) rfl) rfl
set_option maxRecDepth 20000 in
theorem kw_945 : (Cond.static yL_copy) ∈ mW := mtb_4 (List.mem_of_getElem? (i := 186) rfl) rfl
set_option maxRecDepth 20000 in
theorem kw_950 : (Cond.code yX2_copy cX2_copy 5 (some .int)) ∈ mW := mtb_4 (List.mem_of_getElem? (i := 191) rfl) rfl
set_option maxRecDepth 20000 in
theorem kw_947 : (Cond.methodLink RL 87 yX2_copy) ∈ mW := mtb_4 (List.mem_of_getElem? (i := 188) rfl) rfl
set_option maxRecDepth 20000 in
theorem kw_948 : (Cond.instanceMethod yX2_copy) ∈ mW := mtb_4 (List.mem_of_getElem? (i := 189) rfl) rfl
set_option maxRecDepth 20000 in
theorem kw_949 : (Cond.selects RX2 yX2_copy yX2_copy) ∈ mW := mtb_4 (List.mem_of_getElem? (i := 190) rfl) rfl
set_option maxRecDepth 20000 in
theorem kw_953 : (Cond.codeWith yL_ofDate cL_ofDate 5 (some .int) [(0, 11, 14, 19), (0, 11, 18, 21)]) ∈ mW := mtb_4 (List.mem_of_getElem? (i := 194) rfl) rfl
set_option maxRecDepth 20000 in
theorem kw_951 : (Cond.methodLink RL 201 yL_ofDate) ∈ mW := mtb_4 (List.mem_of_getElem? (i := 192) rfl) rfl
set_option maxRecDepth 20000 in
theorem kw_952 : (Cond.static yL_ofDate) ∈ mW := mtb_4 (List.mem_of_getElem? (i := 193) rfl) rfl
set_option maxRecDepth 20000 in
theorem kw_957 : (Cond.code yX2_ofDate cX2_ofDate 4 (some .int)) ∈ mW := mtb_4 (List.mem_of_getElem? (i := 198) rfl) rfl
set_option maxRecDepth 20000 in
theorem kw_954 : (Cond.methodLink RL 90 yX2_ofDate) ∈ mW := mtb_4 (List.mem_of_getElem? (i := 195) rfl) rfl
set_option maxRecDepth 20000 in
theorem kw_955 : (Cond.instanceMethod yX2_ofDate) ∈ mW := mtb_4 (List.mem_of_getElem? (i := 196) rfl) rfl
set_option maxRecDepth 20000 in
theorem kw_956 : (Cond.selects RX2 yX2_ofDate yX2_ofDate) ∈ mW := mtb_4 (List.mem_of_getElem? (i := 197) rfl) rfl
set_option maxRecDepth 20000 in
theorem kw_960 : (Cond.codeWith yL_orderDate cL_orderDate 5 (some .int) [(0, 11, 14, 19)]) ∈ mW := mtb_4 (List.mem_of_getElem? (i := 201) rfl) rfl
set_option maxRecDepth 20000 in
theorem kw_958 : (Cond.methodLink RL 204 yL_orderDate) ∈ mW := mtb_4 (List.mem_of_getElem? (i := 199) rfl) rfl
set_option maxRecDepth 20000 in
theorem kw_959 : (Cond.static yL_orderDate) ∈ mW := mtb_4 (List.mem_of_getElem? (i := 200) rfl) rfl
set_option maxRecDepth 20000 in
theorem kw_964 : (Cond.code yX2_orderDate cX2_orderDate 3 (some .int)) ∈ mW := mtb_4 (List.mem_of_getElem? (i := 205) rfl) rfl
set_option maxRecDepth 20000 in
theorem kw_961 : (Cond.methodLink RL 93 yX2_orderDate) ∈ mW := mtb_4 (List.mem_of_getElem? (i := 202) rfl) rfl
set_option maxRecDepth 20000 in
theorem kw_962 : (Cond.instanceMethod yX2_orderDate) ∈ mW := mtb_4 (List.mem_of_getElem? (i := 203) rfl) rfl
set_option maxRecDepth 20000 in
theorem kw_963 : (Cond.selects RX2 yX2_orderDate yX2_orderDate) ∈ mW := mtb_4 (List.mem_of_getElem? (i := 204) rfl) rfl
set_option maxRecDepth 20000 in
theorem kw_967 : (Cond.codeWith yL_isDate cL_isDate 6 (some .int) [(0, 20, 23, 19), (0, 20, 27, 21)]) ∈ mW := mtb_4 (List.mem_of_getElem? (i := 208) rfl) rfl
set_option maxRecDepth 20000 in
theorem kw_965 : (Cond.methodLink RL 207 yL_isDate) ∈ mW := mtb_4 (List.mem_of_getElem? (i := 206) rfl) rfl
set_option maxRecDepth 20000 in
theorem kw_966 : (Cond.static yL_isDate) ∈ mW := mtb_4 (List.mem_of_getElem? (i := 207) rfl) rfl
set_option maxRecDepth 20000 in
theorem kw_971 : (Cond.code yX2_isDate cX2_isDate 6 (some .boolean)) ∈ mW := mtb_4 (List.mem_of_getElem? (i := 212) rfl) rfl
set_option maxRecDepth 20000 in
theorem kw_968 : (Cond.methodLink RL 96 yX2_isDate) ∈ mW := mtb_4 (List.mem_of_getElem? (i := 209) rfl) rfl
set_option maxRecDepth 20000 in
theorem kw_969 : (Cond.instanceMethod yX2_isDate) ∈ mW := mtb_4 (List.mem_of_getElem? (i := 210) rfl) rfl
set_option maxRecDepth 20000 in
theorem kw_970 : (Cond.selects RX2 yX2_isDate yX2_isDate) ∈ mW := mtb_4 (List.mem_of_getElem? (i := 211) rfl) rfl
set_option maxRecDepth 20000 in
theorem kw_974 : (Cond.code yX2_isSo cX2_isSo 3 (some .boolean)) ∈ mW := mtb_4 (List.mem_of_getElem? (i := 215) rfl) rfl
set_option maxRecDepth 20000 in
theorem kw_972 : (Cond.methodLink RX2 183 yX2_isSo) ∈ mW := mtb_4 (List.mem_of_getElem? (i := 213) rfl) rfl
set_option maxRecDepth 20000 in
theorem kw_973 : (Cond.static yX2_isSo) ∈ mW := mtb_4 (List.mem_of_getElem? (i := 214) rfl) rfl
set_option maxRecDepth 20000 in
theorem kw_977 : (Cond.codeWith yL_clock cL_clock 7 (some .int) [(0, 15, 18, 19), (0, 15, 22, 21)]) ∈ mW := mtb_4 (List.mem_of_getElem? (i := 218) rfl) rfl
set_option maxRecDepth 20000 in
theorem kw_975 : (Cond.methodLink RL 210 yL_clock) ∈ mW := mtb_4 (List.mem_of_getElem? (i := 216) rfl) rfl
set_option maxRecDepth 20000 in
theorem kw_976 : (Cond.static yL_clock) ∈ mW := mtb_4 (List.mem_of_getElem? (i := 217) rfl) rfl
set_option maxRecDepth 20000 in
theorem kw_981 : (Cond.code yX2_clock cX2_clock 7 (some .int)) ∈ mW := mtb_4 (List.mem_of_getElem? (i := 222) rfl) rfl
set_option maxRecDepth 20000 in
theorem kw_978 : (Cond.methodLink RL 99 yX2_clock) ∈ mW := mtb_4 (List.mem_of_getElem? (i := 219) rfl) rfl
set_option maxRecDepth 20000 in
theorem kw_979 : (Cond.instanceMethod yX2_clock) ∈ mW := mtb_4 (List.mem_of_getElem? (i := 220) rfl) rfl
set_option maxRecDepth 20000 in
theorem kw_980 : (Cond.selects RX2 yX2_clock yX2_clock) ∈ mW := mtb_4 (List.mem_of_getElem? (i := 221) rfl) rfl
set_option maxRecDepth 20000 in
theorem kw_985 : (Cond.code yX2_putClock cX2_putClock 6 (some .int)) ∈ mW := mtb_4 (List.mem_of_getElem? (i := 226) rfl) rfl
set_option maxRecDepth 20000 in
theorem kw_982 : (Cond.methodLink RX2 187 yX2_putClock) ∈ mW := mtb_4 (List.mem_of_getElem? (i := 223) rfl) rfl
set_option maxRecDepth 20000 in
theorem kw_984 : (Cond.instanceMethod yX2_putClock) ∈ mW := mtb_4 (List.mem_of_getElem? (i := 225) rfl) rfl
set_option maxRecDepth 20000 in
theorem kw_23 : (Cond.selects RX2 yX2_putClock yX2_putClock) ∈ mW := mW_at 23 rfl rfl
set_option maxRecDepth 20000 in
theorem kw_988 : (Cond.codeWith yL_clockOf cL_clockOf 5 (some .int) [(0, 11, 14, 19)]) ∈ mW := mtb_4 (List.mem_of_getElem? (i := 229) rfl) rfl
set_option maxRecDepth 20000 in
theorem kw_986 : (Cond.methodLink RL 213 yL_clockOf) ∈ mW := mtb_4 (List.mem_of_getElem? (i := 227) rfl) rfl
set_option maxRecDepth 20000 in
theorem kw_987 : (Cond.static yL_clockOf) ∈ mW := mtb_4 (List.mem_of_getElem? (i := 228) rfl) rfl
set_option maxRecDepth 20000 in
theorem kw_992 : (Cond.code yX2_clockOf cX2_clockOf 5 (some .int)) ∈ mW := mtb_4 (List.mem_of_getElem? (i := 233) rfl) rfl
set_option maxRecDepth 20000 in
theorem kw_989 : (Cond.methodLink RL 102 yX2_clockOf) ∈ mW := mtb_4 (List.mem_of_getElem? (i := 230) rfl) rfl
set_option maxRecDepth 20000 in
theorem kw_990 : (Cond.instanceMethod yX2_clockOf) ∈ mW := mtb_4 (List.mem_of_getElem? (i := 231) rfl) rfl
set_option maxRecDepth 20000 in
theorem kw_991 : (Cond.selects RX2 yX2_clockOf yX2_clockOf) ∈ mW := mtb_4 (List.mem_of_getElem? (i := 232) rfl) rfl
set_option maxRecDepth 20000 in
theorem kw_995 : (Cond.codeWith yL_strike cL_strike 5 (some .int) [(0, 11, 14, 19)]) ∈ mW := mtb_4 (List.mem_of_getElem? (i := 236) rfl) rfl
set_option maxRecDepth 20000 in
theorem kw_993 : (Cond.methodLink RL 216 yL_strike) ∈ mW := mtb_4 (List.mem_of_getElem? (i := 234) rfl) rfl
set_option maxRecDepth 20000 in
theorem kw_994 : (Cond.static yL_strike) ∈ mW := mtb_4 (List.mem_of_getElem? (i := 235) rfl) rfl
set_option maxRecDepth 20000 in
theorem kw_999 : (Cond.code yX2_strike cX2_strike 5 (some .int)) ∈ mW := mtb_5 (List.mem_of_getElem? (i := 0) rfl) rfl
set_option maxRecDepth 20000 in
theorem kw_996 : (Cond.methodLink RL 105 yX2_strike) ∈ mW := mtb_4 (List.mem_of_getElem? (i := 237) rfl) rfl
set_option maxRecDepth 20000 in
theorem kw_997 : (Cond.instanceMethod yX2_strike) ∈ mW := mtb_4 (List.mem_of_getElem? (i := 238) rfl) rfl
set_option maxRecDepth 20000 in
theorem kw_998 : (Cond.selects RX2 yX2_strike yX2_strike) ∈ mW := mtb_4 (List.mem_of_getElem? (i := 239) rfl) rfl
set_option maxRecDepth 20000 in
theorem kw_1002 : (Cond.codeWith yL_moveClock cL_moveClock 7 (some .int) [(0, 15, 18, 19), (0, 15, 22, 21)]) ∈ mW := mtb_5 (List.mem_of_getElem? (i := 3) rfl) rfl
set_option maxRecDepth 20000 in
theorem kw_1000 : (Cond.methodLink RL 219 yL_moveClock) ∈ mW := mtb_5 (List.mem_of_getElem? (i := 1) rfl) rfl
set_option maxRecDepth 20000 in
theorem kw_1001 : (Cond.static yL_moveClock) ∈ mW := mtb_5 (List.mem_of_getElem? (i := 2) rfl) rfl
set_option maxRecDepth 20000 in
theorem kw_1006 : (Cond.code yX2_moveClock cX2_moveClock 8 (some .int)) ∈ mW := mtb_5 (List.mem_of_getElem? (i := 7) rfl) rfl
set_option maxRecDepth 20000 in
theorem kw_1003 : (Cond.methodLink RL 108 yX2_moveClock) ∈ mW := mtb_5 (List.mem_of_getElem? (i := 4) rfl) rfl
set_option maxRecDepth 20000 in
theorem kw_1004 : (Cond.instanceMethod yX2_moveClock) ∈ mW := mtb_5 (List.mem_of_getElem? (i := 5) rfl) rfl
set_option maxRecDepth 20000 in
theorem kw_1005 : (Cond.selects RX2 yX2_moveClock yX2_moveClock) ∈ mW := mtb_5 (List.mem_of_getElem? (i := 6) rfl) rfl
set_option maxRecDepth 20000 in
theorem kw_1009 : (Cond.codeWith yL_anewClock cL_anewClock 6 (some .int) [(0, 13, 16, 19)]) ∈ mW := mtb_5 (List.mem_of_getElem? (i := 10) rfl) rfl
set_option maxRecDepth 20000 in
theorem kw_1007 : (Cond.methodLink RL 222 yL_anewClock) ∈ mW := mtb_5 (List.mem_of_getElem? (i := 8) rfl) rfl
set_option maxRecDepth 20000 in
theorem kw_1008 : (Cond.static yL_anewClock) ∈ mW := mtb_5 (List.mem_of_getElem? (i := 9) rfl) rfl
set_option maxRecDepth 20000 in
theorem kw_1013 : (Cond.code yX2_anewClock cX2_anewClock 8 (some .int)) ∈ mW := mtb_5 (List.mem_of_getElem? (i := 14) rfl) rfl
set_option maxRecDepth 20000 in
theorem kw_1010 : (Cond.methodLink RL 111 yX2_anewClock) ∈ mW := mtb_5 (List.mem_of_getElem? (i := 11) rfl) rfl
set_option maxRecDepth 20000 in
theorem kw_1011 : (Cond.instanceMethod yX2_anewClock) ∈ mW := mtb_5 (List.mem_of_getElem? (i := 12) rfl) rfl
set_option maxRecDepth 20000 in
theorem kw_1012 : (Cond.selects RX2 yX2_anewClock yX2_anewClock) ∈ mW := mtb_5 (List.mem_of_getElem? (i := 13) rfl) rfl
set_option maxRecDepth 20000 in
theorem kw_1016 : (Cond.codeWith yL_copyClock cL_copyClock 5 (some .int) [(0, 11, 14, 19)]) ∈ mW := mtb_5 (List.mem_of_getElem? (i := 17) rfl) rfl
set_option maxRecDepth 20000 in
theorem kw_1014 : (Cond.methodLink RL 225 yL_copyClock) ∈ mW := mtb_5 (List.mem_of_getElem? (i := 15) rfl) rfl
set_option maxRecDepth 20000 in
theorem kw_1015 : (Cond.static yL_copyClock) ∈ mW := mtb_5 (List.mem_of_getElem? (i := 16) rfl) rfl
set_option maxRecDepth 20000 in
theorem kw_1020 : (Cond.code yX2_copyClock cX2_copyClock 5 (some .int)) ∈ mW := mtb_5 (List.mem_of_getElem? (i := 21) rfl) rfl
set_option maxRecDepth 20000 in
theorem kw_1017 : (Cond.methodLink RL 114 yX2_copyClock) ∈ mW := mtb_5 (List.mem_of_getElem? (i := 18) rfl) rfl
set_option maxRecDepth 20000 in
theorem kw_1018 : (Cond.instanceMethod yX2_copyClock) ∈ mW := mtb_5 (List.mem_of_getElem? (i := 19) rfl) rfl
set_option maxRecDepth 20000 in
theorem kw_1019 : (Cond.selects RX2 yX2_copyClock yX2_copyClock) ∈ mW := mtb_5 (List.mem_of_getElem? (i := 20) rfl) rfl
set_option maxRecDepth 20000 in
theorem kw_1023 : (Cond.codeWith yL_ofClock cL_ofClock 5 (some .int) [(0, 11, 14, 19), (0, 11, 18, 21)]) ∈ mW := mtb_5 (List.mem_of_getElem? (i := 24) rfl) rfl
set_option maxRecDepth 20000 in
theorem kw_1021 : (Cond.methodLink RL 228 yL_ofClock) ∈ mW := mtb_5 (List.mem_of_getElem? (i := 22) rfl) rfl
set_option maxRecDepth 20000 in
theorem kw_1022 : (Cond.static yL_ofClock) ∈ mW := mtb_5 (List.mem_of_getElem? (i := 23) rfl) rfl
set_option maxRecDepth 20000 in
theorem kw_1027 : (Cond.code yX2_ofClock cX2_ofClock 4 (some .int)) ∈ mW := mtb_5 (List.mem_of_getElem? (i := 28) rfl) rfl
set_option maxRecDepth 20000 in
theorem kw_1024 : (Cond.methodLink RL 117 yX2_ofClock) ∈ mW := mtb_5 (List.mem_of_getElem? (i := 25) rfl) rfl
set_option maxRecDepth 20000 in
theorem kw_1025 : (Cond.instanceMethod yX2_ofClock) ∈ mW := mtb_5 (List.mem_of_getElem? (i := 26) rfl) rfl
set_option maxRecDepth 20000 in
theorem kw_1026 : (Cond.selects RX2 yX2_ofClock yX2_ofClock) ∈ mW := mtb_5 (List.mem_of_getElem? (i := 27) rfl) rfl
set_option maxRecDepth 20000 in
theorem kw_1030 : (Cond.codeWith yL_orderClock cL_orderClock 5 (some .int) [(0, 11, 14, 19)]) ∈ mW := mtb_5 (List.mem_of_getElem? (i := 31) rfl) rfl
set_option maxRecDepth 20000 in
theorem kw_1028 : (Cond.methodLink RL 231 yL_orderClock) ∈ mW := mtb_5 (List.mem_of_getElem? (i := 29) rfl) rfl
set_option maxRecDepth 20000 in
theorem kw_1029 : (Cond.static yL_orderClock) ∈ mW := mtb_5 (List.mem_of_getElem? (i := 30) rfl) rfl
set_option maxRecDepth 20000 in
theorem kw_1034 : (Cond.code yX2_orderClock cX2_orderClock 3 (some .int)) ∈ mW := mtb_5 (List.mem_of_getElem? (i := 35) rfl) rfl
set_option maxRecDepth 20000 in
theorem kw_1031 : (Cond.methodLink RL 120 yX2_orderClock) ∈ mW := mtb_5 (List.mem_of_getElem? (i := 32) rfl) rfl
set_option maxRecDepth 20000 in
theorem kw_1032 : (Cond.instanceMethod yX2_orderClock) ∈ mW := mtb_5 (List.mem_of_getElem? (i := 33) rfl) rfl
set_option maxRecDepth 20000 in
theorem kw_1033 : (Cond.selects RX2 yX2_orderClock yX2_orderClock) ∈ mW := mtb_5 (List.mem_of_getElem? (i := 34) rfl) rfl
set_option maxRecDepth 20000 in
theorem kw_1037 : (Cond.codeWith yL_isClock cL_isClock 6 (some .int) [(0, 20, 23, 19), (0, 20, 27, 21)]) ∈ mW := mtb_5 (List.mem_of_getElem? (i := 38) rfl) rfl
set_option maxRecDepth 20000 in
theorem kw_1035 : (Cond.methodLink RL 234 yL_isClock) ∈ mW := mtb_5 (List.mem_of_getElem? (i := 36) rfl) rfl
set_option maxRecDepth 20000 in
theorem kw_1036 : (Cond.static yL_isClock) ∈ mW := mtb_5 (List.mem_of_getElem? (i := 37) rfl) rfl
set_option maxRecDepth 20000 in
theorem kw_1041 : (Cond.code yX2_isClock cX2_isClock 6 (some .boolean)) ∈ mW := mtb_5 (List.mem_of_getElem? (i := 42) rfl) rfl
set_option maxRecDepth 20000 in
theorem kw_1038 : (Cond.methodLink RL 123 yX2_isClock) ∈ mW := mtb_5 (List.mem_of_getElem? (i := 39) rfl) rfl
set_option maxRecDepth 20000 in
theorem kw_1039 : (Cond.instanceMethod yX2_isClock) ∈ mW := mtb_5 (List.mem_of_getElem? (i := 40) rfl) rfl
set_option maxRecDepth 20000 in
theorem kw_1040 : (Cond.selects RX2 yX2_isClock yX2_isClock) ∈ mW := mtb_5 (List.mem_of_getElem? (i := 41) rfl) rfl
set_option maxRecDepth 20000 in
theorem kw_1044 : (Cond.codeWith yL_house cL_house 4 (some .int) [(0, 10, 13, 21)]) ∈ mW := mtb_5 (List.mem_of_getElem? (i := 45) rfl) rfl
set_option maxRecDepth 20000 in
theorem kw_1042 : (Cond.methodLink RL 245 yL_house) ∈ mW := mtb_5 (List.mem_of_getElem? (i := 43) rfl) rfl
set_option maxRecDepth 20000 in
theorem kw_1043 : (Cond.static yL_house) ∈ mW := mtb_5 (List.mem_of_getElem? (i := 44) rfl) rfl
set_option maxRecDepth 20000 in
theorem kw_1045 : (Cond.methodLink RL 126 yX2_house) ∈ mW := mtb_5 (List.mem_of_getElem? (i := 46) rfl) rfl
set_option maxRecDepth 20000 in
theorem kw_1046 : (Cond.classLink RL 130 RX4) ∈ mW := mtb_5 (List.mem_of_getElem? (i := 47) rfl) rfl
set_option maxRecDepth 20000 in
theorem kw_1047 : (Cond.instantiable RX4 9) ∈ mW := mtb_5 (List.mem_of_getElem? (i := 48) rfl) rfl
set_option maxRecDepth 20000 in
theorem kw_1052 : (Cond.fieldLink RX4 29 "MomentdeskModel" "thrown" "I") ∈ mW := mtb_5 (List.mem_of_getElem? (i := 53) rfl) rfl
set_option maxRecDepth 20000 in
theorem kw_1053 : (Cond.fieldLink RX4 219 "MomentdeskModel" "knocks" "I") ∈ mW := mtb_5 (List.mem_of_getElem? (i := 54) rfl) rfl
set_option maxRecDepth 20000 in
theorem kw_1054 : (Cond.fieldLink RX4 33 "MomentdeskModel" "refusals" "I") ∈ mW := mtb_5 (List.mem_of_getElem? (i := 55) rfl) rfl
set_option maxRecDepth 20000 in
theorem kw_1055 : (Cond.fieldLink RX4 7 "MomentdeskModel" "offsets" "[I") ∈ mW := mtb_5 (List.mem_of_getElem? (i := 56) rfl) rfl
set_option maxRecDepth 20000 in
theorem kw_1056 : (Cond.fieldLink RX4 13 "MomentdeskModel" "moments" "[J") ∈ mW := mtb_5 (List.mem_of_getElem? (i := 57) rfl) rfl
set_option maxRecDepth 20000 in
theorem kw_1057 : (Cond.fieldLink RX4 17 "MomentdeskModel" "days" "[I") ∈ mW := mtb_5 (List.mem_of_getElem? (i := 58) rfl) rfl
set_option maxRecDepth 20000 in
theorem kw_1058 : (Cond.fieldLink RX4 20 "MomentdeskModel" "seconds" "[I") ∈ mW := mtb_5 (List.mem_of_getElem? (i := 59) rfl) rfl
set_option maxRecDepth 20000 in
theorem kw_1059 : (Cond.fieldLink RX4 23 "MomentdeskModel" "nanos" "[I") ∈ mW := mtb_5 (List.mem_of_getElem? (i := 60) rfl) rfl
set_option maxRecDepth 20000 in
theorem kw_1060 : (Cond.fieldLink RX4 26 "MomentdeskModel" "owns" "[I") ∈ mW := mtb_5 (List.mem_of_getElem? (i := 61) rfl) rfl
set_option maxRecDepth 20000 in
theorem kw_1083 : (Cond.code yX4_thrown cX4_thrown 1 (some .int)) ∈ mW := mtb_5 (List.mem_of_getElem? (i := 84) rfl) rfl
set_option maxRecDepth 20000 in
theorem kw_1080 : (Cond.methodLink RL 237 yX4_thrown) ∈ mW := mtb_5 (List.mem_of_getElem? (i := 81) rfl) rfl
set_option maxRecDepth 20000 in
theorem kw_1081 : (Cond.instanceMethod yX4_thrown) ∈ mW := mtb_5 (List.mem_of_getElem? (i := 82) rfl) rfl
set_option maxRecDepth 20000 in
theorem kw_1082 : (Cond.selects RX4 yX4_thrown yX4_thrown) ∈ mW := mtb_5 (List.mem_of_getElem? (i := 83) rfl) rfl
set_option maxRecDepth 20000 in
theorem kw_1087 : (Cond.code yX4_offset cX4_offset 4 (some .int)) ∈ mW := mtb_5 (List.mem_of_getElem? (i := 88) rfl) rfl
set_option maxRecDepth 20000 in
theorem kw_1084 : (Cond.methodLink RL 139 yX4_offset) ∈ mW := mtb_5 (List.mem_of_getElem? (i := 85) rfl) rfl
set_option maxRecDepth 20000 in
theorem kw_1085 : (Cond.instanceMethod yX4_offset) ∈ mW := mtb_5 (List.mem_of_getElem? (i := 86) rfl) rfl
set_option maxRecDepth 20000 in
theorem kw_1086 : (Cond.selects RX4 yX4_offset yX4_offset) ∈ mW := mtb_5 (List.mem_of_getElem? (i := 87) rfl) rfl
set_option maxRecDepth 20000 in
theorem kw_1090 : (Cond.code yX4_isNone cX4_isNone 1 (some .boolean)) ∈ mW := mtb_5 (List.mem_of_getElem? (i := 91) rfl) rfl
set_option maxRecDepth 20000 in
theorem kw_1088 : (Cond.methodLink RX4 61 yX4_isNone) ∈ mW := mtb_5 (List.mem_of_getElem? (i := 89) rfl) rfl
set_option maxRecDepth 20000 in
theorem kw_1089 : (Cond.static yX4_isNone) ∈ mW := mtb_5 (List.mem_of_getElem? (i := 90) rfl) rfl
set_option maxRecDepth 20000 in
theorem kw_1091 : (Cond.constantLong RX4 36 (3)) ∈ mW := mtb_5 (List.mem_of_getElem? (i := 92) rfl) rfl
set_option maxRecDepth 20000 in
theorem kw_1094 : (Cond.code yX4_isIn cX4_isIn 6 (some .boolean)) ∈ mW := mtb_5 (List.mem_of_getElem? (i := 95) rfl) rfl
set_option maxRecDepth 20000 in
theorem kw_1092 : (Cond.methodLink RX4 38 yX4_isIn) ∈ mW := mtb_5 (List.mem_of_getElem? (i := 93) rfl) rfl
set_option maxRecDepth 20000 in
theorem kw_1093 : (Cond.static yX4_isIn) ∈ mW := mtb_5 (List.mem_of_getElem? (i := 94) rfl) rfl
set_option maxRecDepth 20000 in
theorem kw_1095 : (Cond.constantLong RX4 64 (-64800)) ∈ mW := mtb_5 (List.mem_of_getElem? (i := 96) rfl) rfl
set_option maxRecDepth 20000 in
theorem kw_1096 : (Cond.constantLong RX4 66 (64800)) ∈ mW := mtb_5 (List.mem_of_getElem? (i := 97) rfl) rfl
set_option maxRecDepth 20000 in
theorem kw_1100 : (Cond.code yX4_isStopped cX4_isStopped 3 (some .boolean)) ∈ mW := mtb_5 (List.mem_of_getElem? (i := 101) rfl) rfl
set_option maxRecDepth 20000 in
theorem kw_1097 : (Cond.methodLink RX4 68 yX4_isStopped) ∈ mW := mtb_5 (List.mem_of_getElem? (i := 98) rfl) rfl
set_option maxRecDepth 20000 in
theorem kw_1099 : (Cond.instanceMethod yX4_isStopped) ∈ mW := mtb_5 (List.mem_of_getElem? (i := 100) rfl) rfl
set_option maxRecDepth 20000 in
theorem kw_24 : (Cond.selects RX4 yX4_isStopped yX4_isStopped) ∈ mW := mW_at 24 rfl rfl
set_option maxRecDepth 20000 in
theorem kw_1104 : (Cond.code yX4_offsetOf cX4_offsetOf 7 (some .int)) ∈ mW := mtb_5 (List.mem_of_getElem? (i := 105) rfl) rfl
set_option maxRecDepth 20000 in
theorem kw_1101 : (Cond.methodLink RL 143 yX4_offsetOf) ∈ mW := mtb_5 (List.mem_of_getElem? (i := 102) rfl) rfl
set_option maxRecDepth 20000 in
theorem kw_1102 : (Cond.instanceMethod yX4_offsetOf) ∈ mW := mtb_5 (List.mem_of_getElem? (i := 103) rfl) rfl
set_option maxRecDepth 20000 in
theorem kw_1103 : (Cond.selects RX4 yX4_offsetOf yX4_offsetOf) ∈ mW := mtb_5 (List.mem_of_getElem? (i := 104) rfl) rfl
set_option maxRecDepth 20000 in
theorem kw_1105 : (Cond.constantLong RX4 72 (-18)) ∈ mW := mtb_5 (List.mem_of_getElem? (i := 106) rfl) rfl
set_option maxRecDepth 20000 in
theorem kw_1106 : (Cond.constantLong RX4 74 (18)) ∈ mW := mtb_5 (List.mem_of_getElem? (i := 107) rfl) rfl
set_option maxRecDepth 20000 in
theorem kw_1107 : (Cond.constantLong RX4 76 (-59)) ∈ mW := mtb_5 (List.mem_of_getElem? (i := 108) rfl) rfl
set_option maxRecDepth 20000 in
theorem kw_1108 : (Cond.constantLong RX4 78 (59)) ∈ mW := mtb_5 (List.mem_of_getElem? (i := 109) rfl) rfl
set_option maxRecDepth 20000 in
theorem kw_1112 : (Cond.code yX4_no cX4_no 1 (some .int)) ∈ mW := mtb_5 (List.mem_of_getElem? (i := 113) rfl) rfl
set_option maxRecDepth 20000 in
theorem kw_1109 : (Cond.methodLink RX4 80 yX4_no) ∈ mW := mtb_5 (List.mem_of_getElem? (i := 110) rfl) rfl
set_option maxRecDepth 20000 in
theorem kw_1111 : (Cond.instanceMethod yX4_no) ∈ mW := mtb_5 (List.mem_of_getElem? (i := 112) rfl) rfl
set_option maxRecDepth 20000 in
theorem kw_25 : (Cond.selects RX4 yX4_no yX4_no) ∈ mW := mW_at 25 rfl rfl
set_option maxRecDepth 20000 in
theorem kw_1116 : (Cond.code yX4_seconds cX4_seconds 2 (some .int)) ∈ mW := mtb_5 (List.mem_of_getElem? (i := 117) rfl) rfl
set_option maxRecDepth 20000 in
theorem kw_1113 : (Cond.methodLink RL 147 yX4_seconds) ∈ mW := mtb_5 (List.mem_of_getElem? (i := 114) rfl) rfl
set_option maxRecDepth 20000 in
theorem kw_1114 : (Cond.instanceMethod yX4_seconds) ∈ mW := mtb_5 (List.mem_of_getElem? (i := 115) rfl) rfl
set_option maxRecDepth 20000 in
theorem kw_1115 : (Cond.selects RX4 yX4_seconds yX4_seconds) ∈ mW := mtb_5 (List.mem_of_getElem? (i := 116) rfl) rfl
set_option maxRecDepth 20000 in
theorem kw_1120 : (Cond.code yX4_orderOffset cX4_orderOffset 3 (some .int)) ∈ mW := mtb_5 (List.mem_of_getElem? (i := 121) rfl) rfl
set_option maxRecDepth 20000 in
theorem kw_1117 : (Cond.methodLink RL 150 yX4_orderOffset) ∈ mW := mtb_5 (List.mem_of_getElem? (i := 118) rfl) rfl
set_option maxRecDepth 20000 in
theorem kw_1118 : (Cond.instanceMethod yX4_orderOffset) ∈ mW := mtb_5 (List.mem_of_getElem? (i := 119) rfl) rfl
set_option maxRecDepth 20000 in
theorem kw_1119 : (Cond.selects RX4 yX4_orderOffset yX4_orderOffset) ∈ mW := mtb_5 (List.mem_of_getElem? (i := 120) rfl) rfl
set_option maxRecDepth 20000 in
theorem kw_1123 : (Cond.code yX4_order cX4_order 4 (some .int)) ∈ mW := mtb_5 (List.mem_of_getElem? (i := 124) rfl) rfl
set_option maxRecDepth 20000 in
theorem kw_1121 : (Cond.methodLink RX4 88 yX4_order) ∈ mW := mtb_5 (List.mem_of_getElem? (i := 122) rfl) rfl
set_option maxRecDepth 20000 in
theorem kw_1122 : (Cond.static yX4_order) ∈ mW := mtb_5 (List.mem_of_getElem? (i := 123) rfl) rfl
set_option maxRecDepth 20000 in
theorem kw_1126 : (Cond.code yX4_one cX4_one 1 (some .int)) ∈ mW := mtb_5 (List.mem_of_getElem? (i := 127) rfl) rfl
set_option maxRecDepth 20000 in
theorem kw_1124 : (Cond.methodLink RX4 84 yX4_one) ∈ mW := mtb_5 (List.mem_of_getElem? (i := 125) rfl) rfl
set_option maxRecDepth 20000 in
theorem kw_1125 : (Cond.static yX4_one) ∈ mW := mtb_5 (List.mem_of_getElem? (i := 126) rfl) rfl
set_option maxRecDepth 20000 in
theorem kw_1130 : (Cond.code yX4_moment cX4_moment 4 (some .int)) ∈ mW := mtb_5 (List.mem_of_getElem? (i := 131) rfl) rfl
set_option maxRecDepth 20000 in
theorem kw_1127 : (Cond.methodLink RL 154 yX4_moment) ∈ mW := mtb_5 (List.mem_of_getElem? (i := 128) rfl) rfl
set_option maxRecDepth 20000 in
theorem kw_1128 : (Cond.instanceMethod yX4_moment) ∈ mW := mtb_5 (List.mem_of_getElem? (i := 129) rfl) rfl
set_option maxRecDepth 20000 in
theorem kw_1129 : (Cond.selects RX4 yX4_moment yX4_moment) ∈ mW := mtb_5 (List.mem_of_getElem? (i := 130) rfl) rfl
set_option maxRecDepth 20000 in
theorem kw_1131 : (Cond.constantLong RX4 96 (1000000000)) ∈ mW := mtb_5 (List.mem_of_getElem? (i := 132) rfl) rfl
set_option maxRecDepth 20000 in
theorem kw_1135 : (Cond.code yX4_become cX4_become 4 (some .int)) ∈ mW := mtb_5 (List.mem_of_getElem? (i := 136) rfl) rfl
set_option maxRecDepth 20000 in
theorem kw_1132 : (Cond.methodLink RX4 105 yX4_become) ∈ mW := mtb_5 (List.mem_of_getElem? (i := 133) rfl) rfl
set_option maxRecDepth 20000 in
theorem kw_1134 : (Cond.instanceMethod yX4_become) ∈ mW := mtb_5 (List.mem_of_getElem? (i := 135) rfl) rfl
set_option maxRecDepth 20000 in
theorem kw_26 : (Cond.selects RX4 yX4_become yX4_become) ∈ mW := mW_at 26 rfl rfl
set_option maxRecDepth 20000 in
theorem kw_1138 : (Cond.code yX4_whole cX4_whole 4 (some .long)) ∈ mW := mtb_5 (List.mem_of_getElem? (i := 139) rfl) rfl
set_option maxRecDepth 20000 in
theorem kw_1136 : (Cond.methodLink RX4 92 yX4_whole) ∈ mW := mtb_5 (List.mem_of_getElem? (i := 137) rfl) rfl
set_option maxRecDepth 20000 in
theorem kw_1137 : (Cond.static yX4_whole) ∈ mW := mtb_5 (List.mem_of_getElem? (i := 138) rfl) rfl
set_option maxRecDepth 20000 in
theorem kw_1139 : (Cond.constantLong RX4 98 (-1800000000)) ∈ mW := mtb_5 (List.mem_of_getElem? (i := 140) rfl) rfl
set_option maxRecDepth 20000 in
theorem kw_1140 : (Cond.constantLong RX4 100 (1800000000)) ∈ mW := mtb_5 (List.mem_of_getElem? (i := 141) rfl) rfl
set_option maxRecDepth 20000 in
theorem kw_1143 : (Cond.code yX4_rest cX4_rest 4 (some .int)) ∈ mW := mtb_5 (List.mem_of_getElem? (i := 144) rfl) rfl
set_option maxRecDepth 20000 in
theorem kw_1141 : (Cond.methodLink RX4 102 yX4_rest) ∈ mW := mtb_5 (List.mem_of_getElem? (i := 142) rfl) rfl
set_option maxRecDepth 20000 in
theorem kw_1142 : (Cond.static yX4_rest) ∈ mW := mtb_5 (List.mem_of_getElem? (i := 143) rfl) rfl
set_option maxRecDepth 20000 in
theorem kw_1147 : (Cond.code yX4_milli cX4_milli 4 (some .int)) ∈ mW := mtb_5 (List.mem_of_getElem? (i := 148) rfl) rfl
set_option maxRecDepth 20000 in
theorem kw_1144 : (Cond.methodLink RL 157 yX4_milli) ∈ mW := mtb_5 (List.mem_of_getElem? (i := 145) rfl) rfl
set_option maxRecDepth 20000 in
theorem kw_1145 : (Cond.instanceMethod yX4_milli) ∈ mW := mtb_5 (List.mem_of_getElem? (i := 146) rfl) rfl
set_option maxRecDepth 20000 in
theorem kw_1146 : (Cond.selects RX4 yX4_milli yX4_milli) ∈ mW := mtb_5 (List.mem_of_getElem? (i := 147) rfl) rfl
set_option maxRecDepth 20000 in
theorem kw_1148 : (Cond.constantLong RX4 109 (1000)) ∈ mW := mtb_5 (List.mem_of_getElem? (i := 149) rfl) rfl
set_option maxRecDepth 20000 in
theorem kw_1149 : (Cond.constantLong RX4 111 (1000000)) ∈ mW := mtb_5 (List.mem_of_getElem? (i := 150) rfl) rfl
set_option maxRecDepth 20000 in
theorem kw_1153 : (Cond.code yX4_move cX4_move 7 (some .int)) ∈ mW := mtb_5 (List.mem_of_getElem? (i := 154) rfl) rfl
set_option maxRecDepth 20000 in
theorem kw_1150 : (Cond.methodLink RL 161 yX4_move) ∈ mW := mtb_5 (List.mem_of_getElem? (i := 151) rfl) rfl
set_option maxRecDepth 20000 in
theorem kw_1151 : (Cond.instanceMethod yX4_move) ∈ mW := mtb_5 (List.mem_of_getElem? (i := 152) rfl) rfl
set_option maxRecDepth 20000 in
theorem kw_1152 : (Cond.selects RX4 yX4_move yX4_move) ∈ mW := mtb_5 (List.mem_of_getElem? (i := 153) rfl) rfl
set_option maxRecDepth 20000 in
theorem kw_1154 : (Cond.constantLong RX4 42 (2)) ∈ mW := mtb_5 (List.mem_of_getElem? (i := 155) rfl) rfl
set_option maxRecDepth 20000 in
theorem kw_1158 : (Cond.code yX4_momentOf cX4_momentOf 3 (some .int)) ∈ mW := mtb_5 (List.mem_of_getElem? (i := 159) rfl) rfl
set_option maxRecDepth 20000 in
theorem kw_1155 : (Cond.methodLink RL 164 yX4_momentOf) ∈ mW := mtb_5 (List.mem_of_getElem? (i := 156) rfl) rfl
set_option maxRecDepth 20000 in
theorem kw_1156 : (Cond.instanceMethod yX4_momentOf) ∈ mW := mtb_5 (List.mem_of_getElem? (i := 157) rfl) rfl
set_option maxRecDepth 20000 in
theorem kw_1157 : (Cond.selects RX4 yX4_momentOf yX4_momentOf) ∈ mW := mtb_5 (List.mem_of_getElem? (i := 158) rfl) rfl
set_option maxRecDepth 20000 in
theorem kw_1162 : (Cond.code yX4_number cX4_number 2 (some .long)) ∈ mW := mtb_5 (List.mem_of_getElem? (i := 163) rfl) rfl
set_option maxRecDepth 20000 in
theorem kw_1159 : (Cond.methodLink RX4 115 yX4_number) ∈ mW := mtb_5 (List.mem_of_getElem? (i := 160) rfl) rfl
set_option maxRecDepth 20000 in
theorem kw_1161 : (Cond.instanceMethod yX4_number) ∈ mW := mtb_5 (List.mem_of_getElem? (i := 162) rfl) rfl
set_option maxRecDepth 20000 in
theorem kw_27 : (Cond.selects RX4 yX4_number yX4_number) ∈ mW := mW_at 27 rfl rfl
set_option maxRecDepth 20000 in
theorem kw_1163 : (Cond.constantLong RX4 113 (86400)) ∈ mW := mtb_5 (List.mem_of_getElem? (i := 164) rfl) rfl
set_option maxRecDepth 20000 in
theorem kw_1167 : (Cond.code yX4_copyMoment cX4_copyMoment 3 (some .int)) ∈ mW := mtb_5 (List.mem_of_getElem? (i := 168) rfl) rfl
set_option maxRecDepth 20000 in
theorem kw_1164 : (Cond.methodLink RL 180 yX4_copyMoment) ∈ mW := mtb_5 (List.mem_of_getElem? (i := 165) rfl) rfl
set_option maxRecDepth 20000 in
theorem kw_1165 : (Cond.instanceMethod yX4_copyMoment) ∈ mW := mtb_5 (List.mem_of_getElem? (i := 166) rfl) rfl
set_option maxRecDepth 20000 in
theorem kw_1166 : (Cond.selects RX4 yX4_copyMoment yX4_copyMoment) ∈ mW := mtb_5 (List.mem_of_getElem? (i := 167) rfl) rfl
set_option maxRecDepth 20000 in
theorem kw_1171 : (Cond.code yX4_ofMoment cX4_ofMoment 3 (some .int)) ∈ mW := mtb_5 (List.mem_of_getElem? (i := 172) rfl) rfl
set_option maxRecDepth 20000 in
theorem kw_1168 : (Cond.methodLink RL 168 yX4_ofMoment) ∈ mW := mtb_5 (List.mem_of_getElem? (i := 169) rfl) rfl
set_option maxRecDepth 20000 in
theorem kw_1169 : (Cond.instanceMethod yX4_ofMoment) ∈ mW := mtb_5 (List.mem_of_getElem? (i := 170) rfl) rfl
set_option maxRecDepth 20000 in
theorem kw_1170 : (Cond.selects RX4 yX4_ofMoment yX4_ofMoment) ∈ mW := mtb_5 (List.mem_of_getElem? (i := 171) rfl) rfl
set_option maxRecDepth 20000 in
theorem kw_1175 : (Cond.code yX4_millis cX4_millis 2 (some (.object "java/lang/String"))) ∈ mW := mtb_5 (List.mem_of_getElem? (i := 176) rfl) rfl
set_option maxRecDepth 20000 in
theorem kw_1172 : (Cond.methodLink RL 171 yX4_millis) ∈ mW := mtb_5 (List.mem_of_getElem? (i := 173) rfl) rfl
set_option maxRecDepth 20000 in
theorem kw_1173 : (Cond.instanceMethod yX4_millis) ∈ mW := mtb_5 (List.mem_of_getElem? (i := 174) rfl) rfl
set_option maxRecDepth 20000 in
theorem kw_1174 : (Cond.selects RX4 yX4_millis yX4_millis) ∈ mW := mtb_5 (List.mem_of_getElem? (i := 175) rfl) rfl
set_option maxRecDepth 20000 in
theorem kw_1177 : (Cond.classLink RX4 121 "java/lang/StringBuilder") ∈ mW := mtb_5 (List.mem_of_getElem? (i := 178) rfl) rfl
set_option maxRecDepth 20000 in
theorem kw_1211 : (Cond.code yX4_orderMoment cX4_orderMoment 3 (some .int)) ∈ mW := mtb_5 (List.mem_of_getElem? (i := 212) rfl) rfl
set_option maxRecDepth 20000 in
theorem kw_1208 : (Cond.methodLink RL 174 yX4_orderMoment) ∈ mW := mtb_5 (List.mem_of_getElem? (i := 209) rfl) rfl
set_option maxRecDepth 20000 in
theorem kw_1209 : (Cond.instanceMethod yX4_orderMoment) ∈ mW := mtb_5 (List.mem_of_getElem? (i := 210) rfl) rfl
set_option maxRecDepth 20000 in
theorem kw_1210 : (Cond.selects RX4 yX4_orderMoment yX4_orderMoment) ∈ mW := mtb_5 (List.mem_of_getElem? (i := 211) rfl) rfl
set_option maxRecDepth 20000 in
theorem kw_1215 : (Cond.code yX4_isMoment cX4_isMoment 4 (some .boolean)) ∈ mW := mtb_5 (List.mem_of_getElem? (i := 216) rfl) rfl
set_option maxRecDepth 20000 in
theorem kw_1212 : (Cond.methodLink RL 177 yX4_isMoment) ∈ mW := mtb_5 (List.mem_of_getElem? (i := 213) rfl) rfl
set_option maxRecDepth 20000 in
theorem kw_1213 : (Cond.instanceMethod yX4_isMoment) ∈ mW := mtb_5 (List.mem_of_getElem? (i := 214) rfl) rfl
set_option maxRecDepth 20000 in
theorem kw_1214 : (Cond.selects RX4 yX4_isMoment yX4_isMoment) ∈ mW := mtb_5 (List.mem_of_getElem? (i := 215) rfl) rfl
set_option maxRecDepth 20000 in
theorem kw_1219 : (Cond.code yX4_date cX4_date 7 (some .int)) ∈ mW := mtb_5 (List.mem_of_getElem? (i := 220) rfl) rfl
set_option maxRecDepth 20000 in
theorem kw_1216 : (Cond.methodLink RL 184 yX4_date) ∈ mW := mtb_5 (List.mem_of_getElem? (i := 217) rfl) rfl
set_option maxRecDepth 20000 in
theorem kw_1217 : (Cond.instanceMethod yX4_date) ∈ mW := mtb_5 (List.mem_of_getElem? (i := 218) rfl) rfl
set_option maxRecDepth 20000 in
theorem kw_1218 : (Cond.selects RX4 yX4_date yX4_date) ∈ mW := mtb_5 (List.mem_of_getElem? (i := 219) rfl) rfl
set_option maxRecDepth 20000 in
theorem kw_1220 : (Cond.constantLong RX4 153 (9999)) ∈ mW := mtb_5 (List.mem_of_getElem? (i := 221) rfl) rfl
set_option maxRecDepth 20000 in
theorem kw_1223 : (Cond.code yX4_isTime cX4_isTime 2 (some .boolean)) ∈ mW := mtb_5 (List.mem_of_getElem? (i := 224) rfl) rfl
set_option maxRecDepth 20000 in
theorem kw_1221 : (Cond.methodLink RX4 155 yX4_isTime) ∈ mW := mtb_5 (List.mem_of_getElem? (i := 222) rfl) rfl
set_option maxRecDepth 20000 in
theorem kw_1222 : (Cond.static yX4_isTime) ∈ mW := mtb_5 (List.mem_of_getElem? (i := 223) rfl) rfl
set_option maxRecDepth 20000 in
theorem kw_1224 : (Cond.constantLong RX4 143 (86399)) ∈ mW := mtb_5 (List.mem_of_getElem? (i := 225) rfl) rfl
set_option maxRecDepth 20000 in
theorem kw_1225 : (Cond.constantLong RX4 145 (999999999)) ∈ mW := mtb_5 (List.mem_of_getElem? (i := 226) rfl) rfl
set_option maxRecDepth 20000 in
theorem kw_1228 : (Cond.code yX4_isThere cX4_isThere 3 (some .boolean)) ∈ mW := mtb_5 (List.mem_of_getElem? (i := 229) rfl) rfl
set_option maxRecDepth 20000 in
theorem kw_1226 : (Cond.methodLink RX4 159 yX4_isThere) ∈ mW := mtb_5 (List.mem_of_getElem? (i := 227) rfl) rfl
set_option maxRecDepth 20000 in
theorem kw_1227 : (Cond.static yX4_isThere) ∈ mW := mtb_5 (List.mem_of_getElem? (i := 228) rfl) rfl
set_option maxRecDepth 20000 in
theorem kw_1229 : (Cond.constantLong RX4 147 (1910)) ∈ mW := mtb_5 (List.mem_of_getElem? (i := 230) rfl) rfl
set_option maxRecDepth 20000 in
theorem kw_1230 : (Cond.constantLong RX4 149 (2030)) ∈ mW := mtb_5 (List.mem_of_getElem? (i := 231) rfl) rfl
set_option maxRecDepth 20000 in
theorem kw_1231 : (Cond.constantLong RX4 151 (12)) ∈ mW := mtb_5 (List.mem_of_getElem? (i := 232) rfl) rfl
set_option maxRecDepth 20000 in
theorem kw_1234 : (Cond.code yX4_daysOf cX4_daysOf 2 (some .int)) ∈ mW := mtb_5 (List.mem_of_getElem? (i := 235) rfl) rfl
set_option maxRecDepth 20000 in
theorem kw_1232 : (Cond.methodLink RX4 55 yX4_daysOf) ∈ mW := mtb_5 (List.mem_of_getElem? (i := 233) rfl) rfl
set_option maxRecDepth 20000 in
theorem kw_1233 : (Cond.static yX4_daysOf) ∈ mW := mtb_5 (List.mem_of_getElem? (i := 234) rfl) rfl
set_option maxRecDepth 20000 in
theorem kw_1237 : (Cond.code yX4_isLeap cX4_isLeap 1 (some .boolean)) ∈ mW := mtb_5 (List.mem_of_getElem? (i := 238) rfl) rfl
set_option maxRecDepth 20000 in
theorem kw_1235 : (Cond.methodLink RX4 44 yX4_isLeap) ∈ mW := mtb_5 (List.mem_of_getElem? (i := 236) rfl) rfl
set_option maxRecDepth 20000 in
theorem kw_1236 : (Cond.static yX4_isLeap) ∈ mW := mtb_5 (List.mem_of_getElem? (i := 237) rfl) rfl
set_option maxRecDepth 20000 in
theorem kw_1240 : (Cond.code yX4_dayOf cX4_dayOf 5 (some .int)) ∈ mW := mtb_6 (List.mem_of_getElem? (i := 1) rfl) rfl
set_option maxRecDepth 20000 in
theorem kw_1238 : (Cond.methodLink RX4 163 yX4_dayOf) ∈ mW := mtb_5 (List.mem_of_getElem? (i := 239) rfl) rfl
set_option maxRecDepth 20000 in
theorem kw_1239 : (Cond.static yX4_dayOf) ∈ mW := mtb_6 (List.mem_of_getElem? (i := 0) rfl) rfl
set_option maxRecDepth 20000 in
theorem kw_1243 : (Cond.code yX4_firstOf cX4_firstOf 3 (some .int)) ∈ mW := mtb_6 (List.mem_of_getElem? (i := 4) rfl) rfl
set_option maxRecDepth 20000 in
theorem kw_1241 : (Cond.methodLink RX4 52 yX4_firstOf) ∈ mW := mtb_6 (List.mem_of_getElem? (i := 2) rfl) rfl
set_option maxRecDepth 20000 in
theorem kw_1242 : (Cond.static yX4_firstOf) ∈ mW := mtb_6 (List.mem_of_getElem? (i := 3) rfl) rfl
set_option maxRecDepth 20000 in
theorem kw_1246 : (Cond.code yX4_daysOf_ cX4_daysOf_ 1 (some .int)) ∈ mW := mtb_6 (List.mem_of_getElem? (i := 7) rfl) rfl
set_option maxRecDepth 20000 in
theorem kw_1244 : (Cond.methodLink RX4 48 yX4_daysOf_) ∈ mW := mtb_6 (List.mem_of_getElem? (i := 5) rfl) rfl
set_option maxRecDepth 20000 in
theorem kw_1245 : (Cond.static yX4_daysOf_) ∈ mW := mtb_6 (List.mem_of_getElem? (i := 6) rfl) rfl
set_option maxRecDepth 20000 in
theorem kw_1250 : (Cond.code yX4_put cX4_put 6 (some .int)) ∈ mW := mtb_6 (List.mem_of_getElem? (i := 11) rfl) rfl
set_option maxRecDepth 20000 in
theorem kw_1247 : (Cond.methodLink RX4 139 yX4_put) ∈ mW := mtb_6 (List.mem_of_getElem? (i := 8) rfl) rfl
set_option maxRecDepth 20000 in
theorem kw_1249 : (Cond.instanceMethod yX4_put) ∈ mW := mtb_6 (List.mem_of_getElem? (i := 10) rfl) rfl
set_option maxRecDepth 20000 in
theorem kw_28 : (Cond.selects RX4 yX4_put yX4_put) ∈ mW := mW_at 28 rfl rfl
set_option maxRecDepth 20000 in
theorem kw_1254 : (Cond.code yX4_dateOf cX4_dateOf 4 (some .int)) ∈ mW := mtb_6 (List.mem_of_getElem? (i := 15) rfl) rfl
set_option maxRecDepth 20000 in
theorem kw_1251 : (Cond.methodLink RL 187 yX4_dateOf) ∈ mW := mtb_6 (List.mem_of_getElem? (i := 12) rfl) rfl
set_option maxRecDepth 20000 in
theorem kw_1252 : (Cond.instanceMethod yX4_dateOf) ∈ mW := mtb_6 (List.mem_of_getElem? (i := 13) rfl) rfl
set_option maxRecDepth 20000 in
theorem kw_1253 : (Cond.selects RX4 yX4_dateOf yX4_dateOf) ∈ mW := mtb_6 (List.mem_of_getElem? (i := 14) rfl) rfl
set_option maxRecDepth 20000 in
theorem kw_1258 : (Cond.code yX4_put_ cX4_put_ 10 (some .int)) ∈ mW := mtb_6 (List.mem_of_getElem? (i := 19) rfl) rfl
set_option maxRecDepth 20000 in
theorem kw_1255 : (Cond.methodLink RX4 167 yX4_put_) ∈ mW := mtb_6 (List.mem_of_getElem? (i := 16) rfl) rfl
set_option maxRecDepth 20000 in
theorem kw_1257 : (Cond.instanceMethod yX4_put_) ∈ mW := mtb_6 (List.mem_of_getElem? (i := 18) rfl) rfl
set_option maxRecDepth 20000 in
theorem kw_29 : (Cond.selects RX4 yX4_put_ yX4_put_) ∈ mW := mW_at 29 rfl rfl
set_option maxRecDepth 20000 in
theorem kw_1261 : (Cond.code yX4_isDay cX4_isDay 2 (some .boolean)) ∈ mW := mtb_6 (List.mem_of_getElem? (i := 22) rfl) rfl
set_option maxRecDepth 20000 in
theorem kw_1259 : (Cond.methodLink RX4 135 yX4_isDay) ∈ mW := mtb_6 (List.mem_of_getElem? (i := 20) rfl) rfl
set_option maxRecDepth 20000 in
theorem kw_1260 : (Cond.static yX4_isDay) ∈ mW := mtb_6 (List.mem_of_getElem? (i := 21) rfl) rfl
set_option maxRecDepth 20000 in
theorem kw_1265 : (Cond.code yX4_moveDate cX4_moveDate 9 (some .int)) ∈ mW := mtb_6 (List.mem_of_getElem? (i := 26) rfl) rfl
set_option maxRecDepth 20000 in
theorem kw_1262 : (Cond.methodLink RL 190 yX4_moveDate) ∈ mW := mtb_6 (List.mem_of_getElem? (i := 23) rfl) rfl
set_option maxRecDepth 20000 in
theorem kw_1263 : (Cond.instanceMethod yX4_moveDate) ∈ mW := mtb_6 (List.mem_of_getElem? (i := 24) rfl) rfl
set_option maxRecDepth 20000 in
theorem kw_1264 : (Cond.selects RX4 yX4_moveDate yX4_moveDate) ∈ mW := mtb_6 (List.mem_of_getElem? (i := 25) rfl) rfl
set_option maxRecDepth 20000 in
theorem kw_1266 : (Cond.constantLong RX4 183 (7)) ∈ mW := mtb_6 (List.mem_of_getElem? (i := 27) rfl) rfl
set_option maxRecDepth 20000 in
theorem kw_1270 : (Cond.code yX4_moveMonths cX4_moveMonths 9 (some .int)) ∈ mW := mtb_6 (List.mem_of_getElem? (i := 31) rfl) rfl
set_option maxRecDepth 20000 in
theorem kw_1267 : (Cond.methodLink RX4 185 yX4_moveMonths) ∈ mW := mtb_6 (List.mem_of_getElem? (i := 28) rfl) rfl
set_option maxRecDepth 20000 in
theorem kw_1269 : (Cond.instanceMethod yX4_moveMonths) ∈ mW := mtb_6 (List.mem_of_getElem? (i := 30) rfl) rfl
set_option maxRecDepth 20000 in
theorem kw_30 : (Cond.selects RX4 yX4_moveMonths yX4_moveMonths) ∈ mW := mW_at 30 rfl rfl
set_option maxRecDepth 20000 in
theorem kw_1273 : (Cond.code yX4_parts cX4_parts 5 (some (.array .int))) ∈ mW := mtb_6 (List.mem_of_getElem? (i := 34) rfl) rfl
set_option maxRecDepth 20000 in
theorem kw_1271 : (Cond.methodLink RX4 170 yX4_parts) ∈ mW := mtb_6 (List.mem_of_getElem? (i := 32) rfl) rfl
set_option maxRecDepth 20000 in
theorem kw_1272 : (Cond.static yX4_parts) ∈ mW := mtb_6 (List.mem_of_getElem? (i := 33) rfl) rfl
set_option maxRecDepth 20000 in
theorem kw_1276 : (Cond.code yX4_yearOf cX4_yearOf 3 (some .int)) ∈ mW := mtb_6 (List.mem_of_getElem? (i := 37) rfl) rfl
set_option maxRecDepth 20000 in
theorem kw_1274 : (Cond.methodLink RX4 58 yX4_yearOf) ∈ mW := mtb_6 (List.mem_of_getElem? (i := 35) rfl) rfl
set_option maxRecDepth 20000 in
theorem kw_1275 : (Cond.static yX4_yearOf) ∈ mW := mtb_6 (List.mem_of_getElem? (i := 36) rfl) rfl
set_option maxRecDepth 20000 in
theorem kw_1280 : (Cond.code yX4_putDay cX4_putDay 5 (some .int)) ∈ mW := mtb_6 (List.mem_of_getElem? (i := 41) rfl) rfl
set_option maxRecDepth 20000 in
theorem kw_1277 : (Cond.methodLink RX4 174 yX4_putDay) ∈ mW := mtb_6 (List.mem_of_getElem? (i := 38) rfl) rfl
set_option maxRecDepth 20000 in
theorem kw_1279 : (Cond.instanceMethod yX4_putDay) ∈ mW := mtb_6 (List.mem_of_getElem? (i := 40) rfl) rfl
set_option maxRecDepth 20000 in
theorem kw_31 : (Cond.selects RX4 yX4_putDay yX4_putDay) ∈ mW := mW_at 31 rfl rfl
set_option maxRecDepth 20000 in
theorem kw_1281 : (Cond.methodLink RX4 178 yJ9_min_7cf53) ∈ mW := mtb_6 (List.mem_of_getElem? (i := 42) rfl) rfl
set_option maxRecDepth 20000 in
theorem kw_1284 : (Cond.code yX4_secondsOf cX4_secondsOf 1 (some .int)) ∈ mW := mtb_6 (List.mem_of_getElem? (i := 45) rfl) rfl
set_option maxRecDepth 20000 in
theorem kw_1282 : (Cond.methodLink RX4 188 yX4_secondsOf) ∈ mW := mtb_6 (List.mem_of_getElem? (i := 43) rfl) rfl
set_option maxRecDepth 20000 in
theorem kw_1283 : (Cond.static yX4_secondsOf) ∈ mW := mtb_6 (List.mem_of_getElem? (i := 44) rfl) rfl
set_option maxRecDepth 20000 in
theorem kw_1288 : (Cond.code yX4_set cX4_set 6 (some .int)) ∈ mW := mtb_6 (List.mem_of_getElem? (i := 49) rfl) rfl
set_option maxRecDepth 20000 in
theorem kw_1285 : (Cond.methodLink RL 193 yX4_set) ∈ mW := mtb_6 (List.mem_of_getElem? (i := 46) rfl) rfl
set_option maxRecDepth 20000 in
theorem kw_1286 : (Cond.instanceMethod yX4_set) ∈ mW := mtb_6 (List.mem_of_getElem? (i := 47) rfl) rfl
set_option maxRecDepth 20000 in
theorem kw_1287 : (Cond.selects RX4 yX4_set yX4_set) ∈ mW := mtb_6 (List.mem_of_getElem? (i := 48) rfl) rfl
set_option maxRecDepth 20000 in
theorem kw_1289 : (Cond.constantLong RX4 191 (23)) ∈ mW := mtb_6 (List.mem_of_getElem? (i := 50) rfl) rfl
set_option maxRecDepth 20000 in
theorem kw_1293 : (Cond.code yX4_anew cX4_anew 5 (some .int)) ∈ mW := mtb_6 (List.mem_of_getElem? (i := 54) rfl) rfl
set_option maxRecDepth 20000 in
theorem kw_1290 : (Cond.methodLink RL 197 yX4_anew) ∈ mW := mtb_6 (List.mem_of_getElem? (i := 51) rfl) rfl
set_option maxRecDepth 20000 in
theorem kw_1291 : (Cond.instanceMethod yX4_anew) ∈ mW := mtb_6 (List.mem_of_getElem? (i := 52) rfl) rfl
set_option maxRecDepth 20000 in
theorem kw_1292 : (Cond.selects RX4 yX4_anew yX4_anew) ∈ mW := mtb_6 (List.mem_of_getElem? (i := 53) rfl) rfl
set_option maxRecDepth 20000 in
theorem kw_1297 : (Cond.code yX4_copy cX4_copy 3 (some .int)) ∈ mW := mtb_6 (List.mem_of_getElem? (i := 58) rfl) rfl
set_option maxRecDepth 20000 in
theorem kw_1294 : (Cond.methodLink RL 200 yX4_copy) ∈ mW := mtb_6 (List.mem_of_getElem? (i := 55) rfl) rfl
set_option maxRecDepth 20000 in
theorem kw_1295 : (Cond.instanceMethod yX4_copy) ∈ mW := mtb_6 (List.mem_of_getElem? (i := 56) rfl) rfl
set_option maxRecDepth 20000 in
theorem kw_1296 : (Cond.selects RX4 yX4_copy yX4_copy) ∈ mW := mtb_6 (List.mem_of_getElem? (i := 57) rfl) rfl
set_option maxRecDepth 20000 in
theorem kw_1301 : (Cond.code yX4_ofDate cX4_ofDate 3 (some .int)) ∈ mW := mtb_6 (List.mem_of_getElem? (i := 62) rfl) rfl
set_option maxRecDepth 20000 in
theorem kw_1298 : (Cond.methodLink RL 203 yX4_ofDate) ∈ mW := mtb_6 (List.mem_of_getElem? (i := 59) rfl) rfl
set_option maxRecDepth 20000 in
theorem kw_1299 : (Cond.instanceMethod yX4_ofDate) ∈ mW := mtb_6 (List.mem_of_getElem? (i := 60) rfl) rfl
set_option maxRecDepth 20000 in
theorem kw_1300 : (Cond.selects RX4 yX4_ofDate yX4_ofDate) ∈ mW := mtb_6 (List.mem_of_getElem? (i := 61) rfl) rfl
set_option maxRecDepth 20000 in
theorem kw_1305 : (Cond.code yX4_told cX4_told 4 (some .int)) ∈ mW := mtb_6 (List.mem_of_getElem? (i := 66) rfl) rfl
set_option maxRecDepth 20000 in
theorem kw_1302 : (Cond.methodLink RX4 193 yX4_told) ∈ mW := mtb_6 (List.mem_of_getElem? (i := 63) rfl) rfl
set_option maxRecDepth 20000 in
theorem kw_1304 : (Cond.instanceMethod yX4_told) ∈ mW := mtb_6 (List.mem_of_getElem? (i := 65) rfl) rfl
set_option maxRecDepth 20000 in
theorem kw_32 : (Cond.selects RX4 yX4_told yX4_told) ∈ mW := mW_at 32 rfl rfl
set_option maxRecDepth 20000 in
theorem kw_1309 : (Cond.code yX4_orderDate cX4_orderDate 3 (some .int)) ∈ mW := mtb_6 (List.mem_of_getElem? (i := 70) rfl) rfl
set_option maxRecDepth 20000 in
theorem kw_1306 : (Cond.methodLink RL 206 yX4_orderDate) ∈ mW := mtb_6 (List.mem_of_getElem? (i := 67) rfl) rfl
set_option maxRecDepth 20000 in
theorem kw_1307 : (Cond.instanceMethod yX4_orderDate) ∈ mW := mtb_6 (List.mem_of_getElem? (i := 68) rfl) rfl
set_option maxRecDepth 20000 in
theorem kw_1308 : (Cond.selects RX4 yX4_orderDate yX4_orderDate) ∈ mW := mtb_6 (List.mem_of_getElem? (i := 69) rfl) rfl
set_option maxRecDepth 20000 in
theorem kw_1313 : (Cond.code yX4_ordered cX4_ordered 3 (some .int)) ∈ mW := mtb_6 (List.mem_of_getElem? (i := 74) rfl) rfl
set_option maxRecDepth 20000 in
theorem kw_1310 : (Cond.methodLink RX4 196 yX4_ordered) ∈ mW := mtb_6 (List.mem_of_getElem? (i := 71) rfl) rfl
set_option maxRecDepth 20000 in
theorem kw_1312 : (Cond.instanceMethod yX4_ordered) ∈ mW := mtb_6 (List.mem_of_getElem? (i := 73) rfl) rfl
set_option maxRecDepth 20000 in
theorem kw_33 : (Cond.selects RX4 yX4_ordered yX4_ordered) ∈ mW := mW_at 33 rfl rfl
set_option maxRecDepth 20000 in
theorem kw_1317 : (Cond.code yX4_isDate cX4_isDate 4 (some .boolean)) ∈ mW := mtb_6 (List.mem_of_getElem? (i := 78) rfl) rfl
set_option maxRecDepth 20000 in
theorem kw_1314 : (Cond.methodLink RL 209 yX4_isDate) ∈ mW := mtb_6 (List.mem_of_getElem? (i := 75) rfl) rfl
set_option maxRecDepth 20000 in
theorem kw_1315 : (Cond.instanceMethod yX4_isDate) ∈ mW := mtb_6 (List.mem_of_getElem? (i := 76) rfl) rfl
set_option maxRecDepth 20000 in
theorem kw_1316 : (Cond.selects RX4 yX4_isDate yX4_isDate) ∈ mW := mtb_6 (List.mem_of_getElem? (i := 77) rfl) rfl
set_option maxRecDepth 20000 in
theorem kw_1321 : (Cond.code yX4_is cX4_is 4 (some .boolean)) ∈ mW := mtb_6 (List.mem_of_getElem? (i := 82) rfl) rfl
set_option maxRecDepth 20000 in
theorem kw_1318 : (Cond.methodLink RX4 199 yX4_is) ∈ mW := mtb_6 (List.mem_of_getElem? (i := 79) rfl) rfl
set_option maxRecDepth 20000 in
theorem kw_1320 : (Cond.instanceMethod yX4_is) ∈ mW := mtb_6 (List.mem_of_getElem? (i := 81) rfl) rfl
set_option maxRecDepth 20000 in
theorem kw_34 : (Cond.selects RX4 yX4_is yX4_is) ∈ mW := mW_at 34 rfl rfl
set_option maxRecDepth 20000 in
theorem kw_1325 : (Cond.code yX4_clock cX4_clock 5 (some .int)) ∈ mW := mtb_6 (List.mem_of_getElem? (i := 86) rfl) rfl
set_option maxRecDepth 20000 in
theorem kw_1322 : (Cond.methodLink RL 212 yX4_clock) ∈ mW := mtb_6 (List.mem_of_getElem? (i := 83) rfl) rfl
set_option maxRecDepth 20000 in
theorem kw_1323 : (Cond.instanceMethod yX4_clock) ∈ mW := mtb_6 (List.mem_of_getElem? (i := 84) rfl) rfl
set_option maxRecDepth 20000 in
theorem kw_1324 : (Cond.selects RX4 yX4_clock yX4_clock) ∈ mW := mtb_6 (List.mem_of_getElem? (i := 85) rfl) rfl
set_option maxRecDepth 20000 in
theorem kw_1328 : (Cond.code yX4_isNoClock cX4_isNoClock 1 (some .boolean)) ∈ mW := mtb_6 (List.mem_of_getElem? (i := 89) rfl) rfl
set_option maxRecDepth 20000 in
theorem kw_1326 : (Cond.methodLink RX4 205 yX4_isNoClock) ∈ mW := mtb_6 (List.mem_of_getElem? (i := 87) rfl) rfl
set_option maxRecDepth 20000 in
theorem kw_1327 : (Cond.static yX4_isNoClock) ∈ mW := mtb_6 (List.mem_of_getElem? (i := 88) rfl) rfl
set_option maxRecDepth 20000 in
theorem kw_1332 : (Cond.code yX4_turn cX4_turn 6 (some .int)) ∈ mW := mtb_6 (List.mem_of_getElem? (i := 93) rfl) rfl
set_option maxRecDepth 20000 in
theorem kw_1329 : (Cond.methodLink RX4 208 yX4_turn) ∈ mW := mtb_6 (List.mem_of_getElem? (i := 90) rfl) rfl
set_option maxRecDepth 20000 in
theorem kw_1331 : (Cond.instanceMethod yX4_turn) ∈ mW := mtb_6 (List.mem_of_getElem? (i := 92) rfl) rfl
set_option maxRecDepth 20000 in
theorem kw_35 : (Cond.selects RX4 yX4_turn yX4_turn) ∈ mW := mW_at 35 rfl rfl
set_option maxRecDepth 20000 in
theorem kw_1336 : (Cond.code yX4_ofSecond cX4_ofSecond 2 (some .int)) ∈ mW := mtb_6 (List.mem_of_getElem? (i := 97) rfl) rfl
set_option maxRecDepth 20000 in
theorem kw_1333 : (Cond.methodLink RX4 202 yX4_ofSecond) ∈ mW := mtb_6 (List.mem_of_getElem? (i := 94) rfl) rfl
set_option maxRecDepth 20000 in
theorem kw_1335 : (Cond.instanceMethod yX4_ofSecond) ∈ mW := mtb_6 (List.mem_of_getElem? (i := 96) rfl) rfl
set_option maxRecDepth 20000 in
theorem kw_36 : (Cond.selects RX4 yX4_ofSecond yX4_ofSecond) ∈ mW := mW_at 36 rfl rfl
set_option maxRecDepth 20000 in
theorem kw_1340 : (Cond.code yX4_clockOf cX4_clockOf 3 (some .int)) ∈ mW := mtb_6 (List.mem_of_getElem? (i := 101) rfl) rfl
set_option maxRecDepth 20000 in
theorem kw_1337 : (Cond.methodLink RL 215 yX4_clockOf) ∈ mW := mtb_6 (List.mem_of_getElem? (i := 98) rfl) rfl
set_option maxRecDepth 20000 in
theorem kw_1338 : (Cond.instanceMethod yX4_clockOf) ∈ mW := mtb_6 (List.mem_of_getElem? (i := 99) rfl) rfl
set_option maxRecDepth 20000 in
theorem kw_1339 : (Cond.selects RX4 yX4_clockOf yX4_clockOf) ∈ mW := mtb_6 (List.mem_of_getElem? (i := 100) rfl) rfl
set_option maxRecDepth 20000 in
theorem kw_1344 : (Cond.code yX4_copyClock cX4_copyClock 3 (some .int)) ∈ mW := mtb_6 (List.mem_of_getElem? (i := 105) rfl) rfl
set_option maxRecDepth 20000 in
theorem kw_1341 : (Cond.methodLink RL 227 yX4_copyClock) ∈ mW := mtb_6 (List.mem_of_getElem? (i := 102) rfl) rfl
set_option maxRecDepth 20000 in
theorem kw_1342 : (Cond.instanceMethod yX4_copyClock) ∈ mW := mtb_6 (List.mem_of_getElem? (i := 103) rfl) rfl
set_option maxRecDepth 20000 in
theorem kw_1343 : (Cond.selects RX4 yX4_copyClock yX4_copyClock) ∈ mW := mtb_6 (List.mem_of_getElem? (i := 104) rfl) rfl
set_option maxRecDepth 20000 in
theorem kw_1348 : (Cond.code yX4_strike cX4_strike 3 (some .int)) ∈ mW := mtb_6 (List.mem_of_getElem? (i := 109) rfl) rfl
set_option maxRecDepth 20000 in
theorem kw_1345 : (Cond.methodLink RL 218 yX4_strike) ∈ mW := mtb_6 (List.mem_of_getElem? (i := 106) rfl) rfl
set_option maxRecDepth 20000 in
theorem kw_1346 : (Cond.instanceMethod yX4_strike) ∈ mW := mtb_6 (List.mem_of_getElem? (i := 107) rfl) rfl
set_option maxRecDepth 20000 in
theorem kw_1347 : (Cond.selects RX4 yX4_strike yX4_strike) ∈ mW := mtb_6 (List.mem_of_getElem? (i := 108) rfl) rfl
set_option maxRecDepth 20000 in
theorem kw_1352 : (Cond.code yX4_moveClock cX4_moveClock 9 (some .int)) ∈ mW := mtb_6 (List.mem_of_getElem? (i := 113) rfl) rfl
set_option maxRecDepth 20000 in
theorem kw_1349 : (Cond.methodLink RL 221 yX4_moveClock) ∈ mW := mtb_6 (List.mem_of_getElem? (i := 110) rfl) rfl
set_option maxRecDepth 20000 in
theorem kw_1350 : (Cond.instanceMethod yX4_moveClock) ∈ mW := mtb_6 (List.mem_of_getElem? (i := 111) rfl) rfl
set_option maxRecDepth 20000 in
theorem kw_1351 : (Cond.selects RX4 yX4_moveClock yX4_moveClock) ∈ mW := mtb_6 (List.mem_of_getElem? (i := 112) rfl) rfl
set_option maxRecDepth 20000 in
theorem kw_1353 : (Cond.constantLong RX4 212 (4)) ∈ mW := mtb_6 (List.mem_of_getElem? (i := 114) rfl) rfl
set_option maxRecDepth 20000 in
theorem kw_1357 : (Cond.code yX4_anewClock cX4_anewClock 5 (some .int)) ∈ mW := mtb_6 (List.mem_of_getElem? (i := 118) rfl) rfl
set_option maxRecDepth 20000 in
theorem kw_1354 : (Cond.methodLink RL 224 yX4_anewClock) ∈ mW := mtb_6 (List.mem_of_getElem? (i := 115) rfl) rfl
set_option maxRecDepth 20000 in
theorem kw_1355 : (Cond.instanceMethod yX4_anewClock) ∈ mW := mtb_6 (List.mem_of_getElem? (i := 116) rfl) rfl
set_option maxRecDepth 20000 in
theorem kw_1356 : (Cond.selects RX4 yX4_anewClock yX4_anewClock) ∈ mW := mtb_6 (List.mem_of_getElem? (i := 117) rfl) rfl
set_option maxRecDepth 20000 in
theorem kw_1361 : (Cond.code yX4_ofClock cX4_ofClock 3 (some .int)) ∈ mW := mtb_6 (List.mem_of_getElem? (i := 122) rfl) rfl
set_option maxRecDepth 20000 in
theorem kw_1358 : (Cond.methodLink RL 230 yX4_ofClock) ∈ mW := mtb_6 (List.mem_of_getElem? (i := 119) rfl) rfl
set_option maxRecDepth 20000 in
theorem kw_1359 : (Cond.instanceMethod yX4_ofClock) ∈ mW := mtb_6 (List.mem_of_getElem? (i := 120) rfl) rfl
set_option maxRecDepth 20000 in
theorem kw_1360 : (Cond.selects RX4 yX4_ofClock yX4_ofClock) ∈ mW := mtb_6 (List.mem_of_getElem? (i := 121) rfl) rfl
set_option maxRecDepth 20000 in
theorem kw_1362 : (Cond.constantLong RX4 214 (5)) ∈ mW := mtb_6 (List.mem_of_getElem? (i := 123) rfl) rfl
set_option maxRecDepth 20000 in
theorem kw_1366 : (Cond.code yX4_clockTold cX4_clockTold 3 (some .int)) ∈ mW := mtb_6 (List.mem_of_getElem? (i := 127) rfl) rfl
set_option maxRecDepth 20000 in
theorem kw_1363 : (Cond.methodLink RX4 216 yX4_clockTold) ∈ mW := mtb_6 (List.mem_of_getElem? (i := 124) rfl) rfl
set_option maxRecDepth 20000 in
theorem kw_1365 : (Cond.instanceMethod yX4_clockTold) ∈ mW := mtb_6 (List.mem_of_getElem? (i := 126) rfl) rfl
set_option maxRecDepth 20000 in
theorem kw_37 : (Cond.selects RX4 yX4_clockTold yX4_clockTold) ∈ mW := mW_at 37 rfl rfl
set_option maxRecDepth 20000 in
theorem kw_1370 : (Cond.code yX4_orderClock cX4_orderClock 3 (some .int)) ∈ mW := mtb_6 (List.mem_of_getElem? (i := 131) rfl) rfl
set_option maxRecDepth 20000 in
theorem kw_1367 : (Cond.methodLink RL 233 yX4_orderClock) ∈ mW := mtb_6 (List.mem_of_getElem? (i := 128) rfl) rfl
set_option maxRecDepth 20000 in
theorem kw_1368 : (Cond.instanceMethod yX4_orderClock) ∈ mW := mtb_6 (List.mem_of_getElem? (i := 129) rfl) rfl
set_option maxRecDepth 20000 in
theorem kw_1369 : (Cond.selects RX4 yX4_orderClock yX4_orderClock) ∈ mW := mtb_6 (List.mem_of_getElem? (i := 130) rfl) rfl
set_option maxRecDepth 20000 in
theorem kw_1374 : (Cond.code yX4_isClock cX4_isClock 4 (some .boolean)) ∈ mW := mtb_6 (List.mem_of_getElem? (i := 135) rfl) rfl
set_option maxRecDepth 20000 in
theorem kw_1371 : (Cond.methodLink RL 236 yX4_isClock) ∈ mW := mtb_6 (List.mem_of_getElem? (i := 132) rfl) rfl
set_option maxRecDepth 20000 in
theorem kw_1372 : (Cond.instanceMethod yX4_isClock) ∈ mW := mtb_6 (List.mem_of_getElem? (i := 133) rfl) rfl
set_option maxRecDepth 20000 in
theorem kw_1373 : (Cond.selects RX4 yX4_isClock yX4_isClock) ∈ mW := mtb_6 (List.mem_of_getElem? (i := 134) rfl) rfl
set_option maxRecDepth 20000 in
theorem kw_1378 : (Cond.code yX4_knock cX4_knock 1 (some .int)) ∈ mW := mtb_6 (List.mem_of_getElem? (i := 139) rfl) rfl
set_option maxRecDepth 20000 in
theorem kw_1375 : (Cond.methodLink RL 244 yX4_knock) ∈ mW := mtb_6 (List.mem_of_getElem? (i := 136) rfl) rfl
set_option maxRecDepth 20000 in
theorem kw_1376 : (Cond.instanceMethod yX4_knock) ∈ mW := mtb_6 (List.mem_of_getElem? (i := 137) rfl) rfl
set_option maxRecDepth 20000 in
theorem kw_1377 : (Cond.selects RX4 yX4_knock yX4_knock) ∈ mW := mtb_6 (List.mem_of_getElem? (i := 138) rfl) rfl
set_option maxRecDepth 20000 in
theorem kw_1382 : (Cond.code yX4_house cX4_house 2 (some .int)) ∈ mW := mtb_6 (List.mem_of_getElem? (i := 143) rfl) rfl
set_option maxRecDepth 20000 in
theorem kw_1379 : (Cond.methodLink RL 247 yX4_house) ∈ mW := mtb_6 (List.mem_of_getElem? (i := 140) rfl) rfl
set_option maxRecDepth 20000 in
theorem kw_1380 : (Cond.instanceMethod yX4_house) ∈ mW := mtb_6 (List.mem_of_getElem? (i := 141) rfl) rfl
set_option maxRecDepth 20000 in
theorem kw_1381 : (Cond.selects RX4 yX4_house yX4_house) ∈ mW := mtb_6 (List.mem_of_getElem? (i := 142) rfl) rfl
set_option maxRecDepth 20000 in
theorem kw_1386 : (Cond.code yX4_houseTold cX4_houseTold 5 (some .int)) ∈ mW := mtb_6 (List.mem_of_getElem? (i := 147) rfl) rfl
set_option maxRecDepth 20000 in
theorem kw_1383 : (Cond.methodLink RX4 222 yX4_houseTold) ∈ mW := mtb_6 (List.mem_of_getElem? (i := 144) rfl) rfl
set_option maxRecDepth 20000 in
theorem kw_1385 : (Cond.instanceMethod yX4_houseTold) ∈ mW := mtb_6 (List.mem_of_getElem? (i := 146) rfl) rfl
set_option maxRecDepth 20000 in
theorem kw_38 : (Cond.selects RX4 yX4_houseTold yX4_houseTold) ∈ mW := mW_at 38 rfl rfl
set_option maxRecDepth 20000 in
theorem kw_1390 : (Cond.code yX4_isSound cX4_isSound 1 (some .boolean)) ∈ mW := mtb_6 (List.mem_of_getElem? (i := 151) rfl) rfl
set_option maxRecDepth 20000 in
theorem kw_1387 : (Cond.methodLink RL 252 yX4_isSound) ∈ mW := mtb_6 (List.mem_of_getElem? (i := 148) rfl) rfl
set_option maxRecDepth 20000 in
theorem kw_1388 : (Cond.instanceMethod yX4_isSound) ∈ mW := mtb_6 (List.mem_of_getElem? (i := 149) rfl) rfl
set_option maxRecDepth 20000 in
theorem kw_1389 : (Cond.selects RX4 yX4_isSound yX4_isSound) ∈ mW := mtb_6 (List.mem_of_getElem? (i := 150) rfl) rfl
set_option maxRecDepth 20000 in
theorem kw_1394 : (Cond.code yX4_digest cX4_digest 8 (some .long)) ∈ mW := mtb_6 (List.mem_of_getElem? (i := 155) rfl) rfl
set_option maxRecDepth 20000 in
theorem kw_1391 : (Cond.methodLink RL 257 yX4_digest) ∈ mW := mtb_6 (List.mem_of_getElem? (i := 152) rfl) rfl
set_option maxRecDepth 20000 in
theorem kw_1392 : (Cond.instanceMethod yX4_digest) ∈ mW := mtb_6 (List.mem_of_getElem? (i := 153) rfl) rfl
set_option maxRecDepth 20000 in
theorem kw_1393 : (Cond.selects RX4 yX4_digest yX4_digest) ∈ mW := mtb_6 (List.mem_of_getElem? (i := 154) rfl) rfl
set_option maxRecDepth 20000 in
theorem kw_1395 : (Cond.constantLong RX4 225 (6199)) ∈ mW := mtb_6 (List.mem_of_getElem? (i := 156) rfl) rfl
set_option maxRecDepth 20000 in
theorem kw_1396 : (Cond.constantLong RX4 227 (31)) ∈ mW := mtb_6 (List.mem_of_getElem? (i := 157) rfl) rfl
theorem nmh_0 : ("Momentdesk" : String) ≠ "java/lang/invoke/MethodHandle" ∧ ("Momentdesk" : String) ≠ "java/lang/invoke/VarHandle" := ⟨by decide +kernel, by decide +kernel⟩
theorem nmh_1 : ("java/lang/Math" : String) ≠ "java/lang/invoke/MethodHandle" ∧ ("java/lang/Math" : String) ≠ "java/lang/invoke/VarHandle" := ⟨by decide +kernel, by decide +kernel⟩
theorem nmh_2 : ("Momentdesk$Local" : String) ≠ "java/lang/invoke/MethodHandle" ∧ ("Momentdesk$Local" : String) ≠ "java/lang/invoke/VarHandle" := ⟨by decide +kernel, by decide +kernel⟩
theorem nmh_3 : ("Momentdesk$Calendar" : String) ≠ "java/lang/invoke/MethodHandle" ∧ ("Momentdesk$Calendar" : String) ≠ "java/lang/invoke/VarHandle" := ⟨by decide +kernel, by decide +kernel⟩
theorem nmh_4 : ("MomentdeskLaw" : String) ≠ "java/lang/invoke/MethodHandle" ∧ ("MomentdeskLaw" : String) ≠ "java/lang/invoke/VarHandle" := ⟨by decide +kernel, by decide +kernel⟩
theorem nmh_5 : ("MomentdeskModel" : String) ≠ "java/lang/invoke/MethodHandle" ∧ ("MomentdeskModel" : String) ≠ "java/lang/invoke/VarHandle" := ⟨by decide +kernel, by decide +kernel⟩
theorem pmd_0 : (parseMethodDescriptor "()I").map (fun d => d.parameters.length) = some 0 := by decide +kernel
theorem pmd_1 : (parseMethodDescriptor "()Z").map (fun d => d.parameters.length) = some 0 := by decide +kernel
theorem pmd_2 : (parseMethodDescriptor "(J)J").map (fun d => d.parameters.length) = some 1 := by decide +kernel
theorem pmd_3 : (parseMethodDescriptor "(JJ)J").map (fun d => d.parameters.length) = some 2 := by decide +kernel
theorem pmd_4 : (parseMethodDescriptor "(J)I").map (fun d => d.parameters.length) = some 1 := by decide +kernel
theorem pmd_5 : (parseMethodDescriptor "(JII)V").map (fun d => d.parameters.length) = some 3 := by decide +kernel
theorem pmd_6 : (parseMethodDescriptor "(LMomentdesk$Local;)J").map (fun d => d.parameters.length) = some 1 := by decide +kernel
theorem pmd_7 : (parseMethodDescriptor "()J").map (fun d => d.parameters.length) = some 0 := by decide +kernel
theorem pmd_8 : (parseMethodDescriptor "([LMomentdesk$Local;I)LMomentdesk$Local;").map (fun d => d.parameters.length) = some 2 := by decide +kernel
theorem pmd_9 : (parseMethodDescriptor "(LMomentdesk$Local;I)Z").map (fun d => d.parameters.length) = some 2 := by decide +kernel
theorem pmd_10 : (parseMethodDescriptor "(JJJ)Z").map (fun d => d.parameters.length) = some 3 := by decide +kernel
theorem pmd_11 : (parseMethodDescriptor "(LMomentdesk$Local;)Z").map (fun d => d.parameters.length) = some 1 := by decide +kernel
theorem pmd_12 : (parseMethodDescriptor "(LMomentdesk$Local;LMomentdesk$Local;)Z").map (fun d => d.parameters.length) = some 2 := by decide +kernel
theorem pmd_13 : (parseMethodDescriptor "(LMomentdesk$Local;)I").map (fun d => d.parameters.length) = some 1 := by decide +kernel
theorem pmd_14 : (parseMethodDescriptor "(JJ)I").map (fun d => d.parameters.length) = some 2 := by decide +kernel
theorem pmd_15 : (parseMethodDescriptor "(I)I").map (fun d => d.parameters.length) = some 1 := by decide +kernel
theorem pmd_16 : (parseMethodDescriptor "(II)V").map (fun d => d.parameters.length) = some 2 := by decide +kernel
theorem pmd_17 : (parseMethodDescriptor "(IZ)I").map (fun d => d.parameters.length) = some 2 := by decide +kernel
theorem pmd_18 : (parseMethodDescriptor "(LMomentdesk$Local;I)I").map (fun d => d.parameters.length) = some 2 := by decide +kernel
theorem pmd_19 : (parseMethodDescriptor "(II)I").map (fun d => d.parameters.length) = some 2 := by decide +kernel
theorem pmd_20 : (parseMethodDescriptor "(I)Z").map (fun d => d.parameters.length) = some 1 := by decide +kernel
theorem pmd_21 : (parseMethodDescriptor "(III)V").map (fun d => d.parameters.length) = some 3 := by decide +kernel
theorem pmd_22 : (parseMethodDescriptor "(LMomentdesk;IILMomentdeskLaw$Out;)I").map (fun d => d.parameters.length) = some 4 := by decide +kernel
theorem pmd_23 : (parseMethodDescriptor "(LMomentdesk;IIIILMomentdeskLaw$Out;)I").map (fun d => d.parameters.length) = some 6 := by decide +kernel
theorem pmd_24 : (parseMethodDescriptor "(IIII)I").map (fun d => d.parameters.length) = some 4 := by decide +kernel
theorem pmd_25 : (parseMethodDescriptor "(LMomentdesk;ILMomentdeskLaw$Out;)I").map (fun d => d.parameters.length) = some 3 := by decide +kernel
theorem pmd_26 : (parseMethodDescriptor "(LMomentdesk;IIILMomentdeskLaw$Out;)I").map (fun d => d.parameters.length) = some 5 := by decide +kernel
theorem pmd_27 : (parseMethodDescriptor "(III)I").map (fun d => d.parameters.length) = some 3 := by decide +kernel
theorem pmd_28 : (parseMethodDescriptor "(IJ)I").map (fun d => d.parameters.length) = some 2 := by decide +kernel
theorem pmd_29 : (parseMethodDescriptor "(LMomentdesk;IIIZLMomentdeskLaw$Out;)I").map (fun d => d.parameters.length) = some 6 := by decide +kernel
theorem pmd_30 : (parseMethodDescriptor "(IIIZ)I").map (fun d => d.parameters.length) = some 4 := by decide +kernel
theorem pmd_31 : (parseMethodDescriptor "(IZ)J").map (fun d => d.parameters.length) = some 2 := by decide +kernel
theorem pmd_32 : (parseMethodDescriptor "(LMomentdesk;IZLMomentdeskLaw$Out;)I").map (fun d => d.parameters.length) = some 4 := by decide +kernel
theorem pmd_33 : (parseMethodDescriptor "(I)Ljava/lang/String;").map (fun d => d.parameters.length) = some 1 := by decide +kernel
theorem pmd_34 : (parseMethodDescriptor "(J)Ljava/lang/String;").map (fun d => d.parameters.length) = some 1 := by decide +kernel
theorem pmd_35 : (parseMethodDescriptor "(III)Z").map (fun d => d.parameters.length) = some 3 := by decide +kernel
theorem pmd_36 : (parseMethodDescriptor "(LMomentdesk;IIIIIILMomentdeskLaw$Out;)I").map (fun d => d.parameters.length) = some 8 := by decide +kernel
theorem pmd_37 : (parseMethodDescriptor "(IIIIII)I").map (fun d => d.parameters.length) = some 6 := by decide +kernel
theorem pmd_38 : (parseMethodDescriptor "(LMomentdesk$Local;JII)I").map (fun d => d.parameters.length) = some 4 := by decide +kernel
theorem pmd_39 : (parseMethodDescriptor "(LMomentdesk$Local;J)I").map (fun d => d.parameters.length) = some 2 := by decide +kernel
theorem pmd_40 : (parseMethodDescriptor "(LMomentdesk$Local;IJ)J").map (fun d => d.parameters.length) = some 3 := by decide +kernel
theorem pmd_41 : (parseMethodDescriptor "(LMomentdesk$Local;IJ)I").map (fun d => d.parameters.length) = some 3 := by decide +kernel
theorem pmd_42 : (parseMethodDescriptor "(LMomentdesk$Local;II)I").map (fun d => d.parameters.length) = some 3 := by decide +kernel
theorem pmd_43 : (parseMethodDescriptor "(LMomentdesk$Local;IIIJ)I").map (fun d => d.parameters.length) = some 5 := by decide +kernel
theorem pmd_44 : (parseMethodDescriptor "(LMomentdesk;IIZLMomentdeskLaw$Out;)I").map (fun d => d.parameters.length) = some 5 := by decide +kernel
theorem pmd_45 : (parseMethodDescriptor "(IIZ)I").map (fun d => d.parameters.length) = some 3 := by decide +kernel
theorem pmd_46 : (parseMethodDescriptor "(LMomentdesk$Local;LMomentdesk$Local;I)Z").map (fun d => d.parameters.length) = some 3 := by decide +kernel
theorem pmd_47 : (parseMethodDescriptor "(ZZ)Z").map (fun d => d.parameters.length) = some 2 := by decide +kernel
theorem pmd_48 : (parseMethodDescriptor "(Z)I").map (fun d => d.parameters.length) = some 1 := by decide +kernel
theorem pmd_49 : (parseMethodDescriptor "(I)J").map (fun d => d.parameters.length) = some 1 := by decide +kernel
theorem pmd_50 : (parseMethodDescriptor "(II)Z").map (fun d => d.parameters.length) = some 2 := by decide +kernel
theorem pmd_51 : (parseMethodDescriptor "(IIIII)I").map (fun d => d.parameters.length) = some 5 := by decide +kernel
theorem pmd_52 : (parseMethodDescriptor "(IJJII)I").map (fun d => d.parameters.length) = some 5 := by decide +kernel
theorem pmd_53 : (parseMethodDescriptor "(J)Z").map (fun d => d.parameters.length) = some 1 := by decide +kernel
theorem pmd_54 : (parseMethodDescriptor "(I)[I").map (fun d => d.parameters.length) = some 1 := by decide +kernel
theorem pmd_55 : (parseMethodDescriptor "(IJII)I").map (fun d => d.parameters.length) = some 4 := by decide +kernel
theorem kt_X2 : (Cond.initialized RX2) ∈ mW := kw_40
theorem kt_X1 : (Cond.initialized RX1) ∈ mW := kw_41
theorem kt_X4 : (Cond.initialized RX4) ∈ mW := kw_42
theorem kt_X3 : (Cond.initialized RX3) ∈ mW := kw_43
theorem kt_java_lang_IndexOutOfBoundsException : (Cond.initialized "java/lang/IndexOutOfBoundsException") ∈ mW := kw_47
theorem kt_java_lang_IllegalArgumentException : (Cond.initialized "java/lang/IllegalArgumentException") ∈ mW := kw_48
theorem kl_L_8 : (Cond.classLink RL 8 RX2) ∈ mW := kw_63
theorem ki_X2 : (Cond.instantiable RX2 8) ∈ mW := kw_64
theorem kl_X2_17 : (Cond.classLink RX2 17 RX1) ∈ mW := kw_71
theorem ki_X1 : (Cond.instantiable RX1 3) ∈ mW := kw_73
theorem kf_X1_9 : mFd RX1 9 2 0 RX1 TX1 3 .long := ⟨kinX1, ⟨_, tyX1_ok⟩, nmX1, rfl, by decide, kw_78, by decide +kernel⟩
theorem kg_X2_146 : mFn RX2 RX2 146 2 0 RX1 TX1 3 .long := ⟨kinX1, ⟨_, tyX1_ok⟩, nmX1, rfl, by decide, kw_79, by decide +kernel⟩
theorem kf_X1_15 : mFd RX1 15 2 1 RX1 TX1 3 .int := ⟨kinX1, ⟨_, tyX1_ok⟩, nmX1, rfl, by decide, kw_80, by decide +kernel⟩
theorem kg_X2_172 : mFn RX2 RX2 172 2 1 RX1 TX1 3 .int := ⟨kinX1, ⟨_, tyX1_ok⟩, nmX1, rfl, by decide, kw_81, by decide +kernel⟩
theorem kf_X1_19 : mFd RX1 19 2 2 RX1 TX1 3 .int := ⟨kinX1, ⟨_, tyX1_ok⟩, nmX1, rfl, by decide, kw_82, by decide +kernel⟩
theorem kg_X2_158 : mFn RX2 RX2 158 2 2 RX1 TX1 3 .int := ⟨kinX1, ⟨_, tyX1_ok⟩, nmX1, rfl, by decide, kw_83, by decide +kernel⟩
theorem kf_X2_9 : mFd RX2 9 3 0 RX2 TX2 8 (.array .int) := ⟨kinX2, ⟨_, tyX2_ok⟩, nmX2, rfl, by decide, kw_93, by decide +kernel⟩
theorem kf_X2_13 : mFd RX2 13 3 1 RX2 TX2 8 (.array .long) := ⟨kinX2, ⟨_, tyX2_ok⟩, nmX2, rfl, by decide, kw_94, by decide +kernel⟩
theorem kf_X2_20 : mFd RX2 20 3 2 RX2 TX2 8 (.array (.object "Momentdesk$Local")) := ⟨kinX2, ⟨_, tyX2_ok⟩, nmX2, rfl, by decide, kw_95, by decide +kernel⟩
theorem kf_X2_24 : mFd RX2 24 3 3 RX2 TX2 8 (.array (.object "Momentdesk$Local")) := ⟨kinX2, ⟨_, tyX2_ok⟩, nmX2, rfl, by decide, kw_96, by decide +kernel⟩
theorem kf_X2_27 : mFd RX2 27 3 4 RX2 TX2 8 (.object "Momentdesk$Local") := ⟨kinX2, ⟨_, tyX2_ok⟩, nmX2, rfl, by decide, kw_97, by decide +kernel⟩
theorem kf_X2_31 : mFd RX2 31 3 5 RX2 TX2 8 (.object "Momentdesk$Local") := ⟨kinX2, ⟨_, tyX2_ok⟩, nmX2, rfl, by decide, kw_98, by decide +kernel⟩
theorem kf_X2_196 : mFd RX2 196 3 6 RX2 TX2 8 .int := ⟨kinX2, ⟨_, tyX2_ok⟩, nmX2, rfl, by decide, kw_99, by decide +kernel⟩
theorem kf_X2_199 : mFd RX2 199 3 7 RX2 TX2 8 .int := ⟨kinX2, ⟨_, tyX2_ok⟩, nmX2, rfl, by decide, kw_100, by decide +kernel⟩
theorem kv_L_241 : mWV RL 241 yX2_knock cX2_knock 1 (some .int) 0 := ⟨kw_118, kw_119, kw_120, kw_40, kw_121, nmh_0, pmd_0⟩
theorem kv_L_248 : mWV RL 248 yX2_isSound cX2_isSound 1 (some .boolean) 0 := ⟨kw_122, kw_123, kw_124, kw_40, kw_125, nmh_0, pmd_1⟩
theorem kv_X2_208 : mWV RX2 208 yX2_areMomentsSound cX2_areMomentsSound 5 (some .boolean) 0 := ⟨kw_126, kw_128, kw_0, kw_40, kw_129, nmh_0, pmd_1⟩
theorem ks_X2_96 : mWS RX2 96 yX2_secondOf cX2_secondOf 2 (some .long) 1 := ⟨kw_130, kw_131, kw_40, kw_132, nmh_0, pmd_2⟩
theorem kc_X2_72 : (Cond.constantLong RX2 72 (1000000000)) ∈ mW := kw_133
theorem ks_X2_100 : mWS RX2 100 yJ9_floorDiv_f86c9 cJ9_floorDiv_f86c9 6 (some .long) 2 := ⟨kw_134, kw_135, kw_49, kw_136, nmh_1, pmd_3⟩
theorem ks_X2_92 : mWS RX2 92 yX2_nanoOf cX2_nanoOf 2 (some .int) 1 := ⟨kw_137, kw_138, kw_40, kw_139, nmh_0, pmd_4⟩
theorem ks_X2_277 : mWS RX2 277 yJ9_floorMod_f86c9 cJ9_floorMod_f86c9 6 (some .long) 2 := ⟨kw_140, kw_141, kw_49, kw_142, nmh_1, pmd_3⟩
theorem kv_X2_270 : mWV RX2 270 yX1_tell cX1_tell 5 none 3 := ⟨kw_143, kw_144, kw_145, kw_41, kw_146, nmh_2, pmd_5⟩
theorem ks_X2_88 : mWS RX2 88 yX2_numberOf cX2_numberOf 1 (some .long) 1 := ⟨kw_147, kw_148, kw_40, kw_149, nmh_0, pmd_6⟩
theorem kv_X2_169 : mWV RX2 169 yX1_momentSecond cX1_momentSecond 1 (some .long) 0 := ⟨kw_150, kw_151, kw_152, kw_41, kw_153, nmh_2, pmd_7⟩
theorem kv_X2_212 : mWV RX2 212 yX2_areDatesToldAnewSound cX2_areDatesToldAnewSound 3 (some .boolean) 0 := ⟨kw_154, kw_156, kw_1, kw_40, kw_157, nmh_0, pmd_1⟩
theorem ks_X2_84 : mWS RX2 84 yX2_at cX2_at 2 (some (.object "Momentdesk$Local")) 2 := ⟨kw_158, kw_159, kw_40, kw_160, nmh_0, pmd_8⟩
theorem kl_X2_250 : (Cond.classLink RX2 250 "java/lang/IndexOutOfBoundsException") ∈ mW := kw_161
theorem kv_X2_366 : mWV RX2 366 yX2_isToldAnewSound cX2_isToldAnewSound 6 (some .boolean) 2 := ⟨kw_228, kw_230, kw_3, kw_40, kw_231, nmh_0, pmd_9⟩
theorem kc_X2_266 : (Cond.constantLong RX2 266 (-1893456000)) ∈ mW := kw_232
theorem kc_X2_268 : (Cond.constantLong RX2 268 (1924991999)) ∈ mW := kw_233
theorem ks_X2_48 : mWS RX2 48 yX2_isWithin cX2_isWithin 6 (some .boolean) 3 := ⟨kw_234, kw_235, kw_40, kw_236, nmh_0, pmd_10⟩
theorem kv_X2_360 : mWV RX2 360 yX1_isAlike cX1_isAlike 2 (some .boolean) 1 := ⟨kw_237, kw_238, kw_239, kw_41, kw_240, nmh_2, pmd_11⟩
theorem kv_X1_55 : mWV RX1 55 yX1_momentSecond cX1_momentSecond 1 (some .long) 0 := ⟨kw_241, kw_151, kw_152, kw_41, kw_153, nmh_2, pmd_7⟩
theorem kv_X2_363 : mWV RX2 363 yX1_isSame cX1_isSame 2 (some .boolean) 1 := ⟨kw_242, kw_243, kw_244, kw_41, kw_245, nmh_2, pmd_11⟩
theorem kv_X2_215 : mWV RX2 215 yX2_arePairsSound cX2_arePairsSound 3 (some .boolean) 0 := ⟨kw_246, kw_248, kw_4, kw_40, kw_249, nmh_0, pmd_1⟩
theorem ks_X2_370 : mWS RX2 370 yX2_isPairSound cX2_isPairSound 4 (some .boolean) 2 := ⟨kw_250, kw_251, kw_40, kw_252, nmh_0, pmd_12⟩
theorem kv_X2_356 : mWV RX2 356 yX1_isAhead cX1_isAhead 2 (some .boolean) 1 := ⟨kw_253, kw_254, kw_255, kw_41, kw_256, nmh_2, pmd_11⟩
theorem kv_X1_51 : mWV RX1 51 yX1_momentOrder cX1_momentOrder 3 (some .int) 1 := ⟨kw_257, kw_258, kw_259, kw_41, kw_260, nmh_2, pmd_13⟩
theorem kn_X1_59 : mWN RX1 RX2 59 yX2_compared cX2_compared 4 (some .int) 2 := ⟨kw_261, kw_262, kw_40, kw_263, nmh_0, pmd_14⟩
theorem kv_X2_179 : mWV RX2 179 yX1_orderTo cX1_orderTo 3 (some .int) 1 := ⟨kw_264, kw_265, kw_266, kw_41, kw_267, nmh_2, pmd_13⟩
theorem kv_X2_218 : mWV RX2 218 yX2_areStrikesSound cX2_areStrikesSound 3 (some .boolean) 0 := ⟨kw_268, kw_270, kw_5, kw_40, kw_271, nmh_0, pmd_1⟩
theorem kv_X2_320 : mWV RX2 320 yX1_secondOfDay cX1_secondOfDay 1 (some .int) 0 := ⟨kw_272, kw_273, kw_274, kw_41, kw_275, nmh_2, pmd_0⟩
theorem kc_X1_22 : (Cond.constantLong RX1 22 (86400)) ∈ mW := kw_276
theorem ks_X1_45 : mWS RX1 45 yJ9_floorMod_f86c9 cJ9_floorMod_f86c9 6 (some .long) 2 := ⟨kw_277, kw_141, kw_49, kw_142, nmh_1, pmd_3⟩
theorem kv_X2_190 : mWV RX2 190 yX1_beginOfDay cX1_beginOfDay 1 (some .long) 0 := ⟨kw_278, kw_279, kw_280, kw_41, kw_281, nmh_2, pmd_7⟩
theorem kv_X1_30 : mWV RX1 30 yX1_day cX1_day 1 (some .int) 0 := ⟨kw_282, kw_283, kw_284, kw_41, kw_285, nmh_2, pmd_0⟩
theorem ks_X1_24 : mWS RX1 24 yJ9_floorDiv_f86c9 cJ9_floorDiv_f86c9 6 (some .long) 2 := ⟨kw_286, kw_135, kw_49, kw_136, nmh_1, pmd_3⟩
theorem kv_L_253 : mWV RL 253 yX2_digest cX2_digest 3 (some .long) 0 := ⟨kw_287, kw_288, kw_289, kw_40, kw_290, nmh_0, pmd_7⟩
theorem kc_X2_221 : (Cond.constantLong RX2 221 (6199)) ∈ mW := kw_291
theorem kv_X2_223 : mWV RX2 223 yX2_withOffsets cX2_withOffsets 6 (some .long) 1 := ⟨kw_292, kw_294, kw_6, kw_40, kw_295, nmh_0, pmd_2⟩
theorem kv_X2_64 : mWV RX2 64 yX2_seconds cX2_seconds 2 (some .int) 1 := ⟨kw_296, kw_297, kw_298, kw_40, kw_299, nmh_0, pmd_15⟩
theorem ks_X2_34 : mWS RX2 34 yX2_requireOne cX2_requireOne 2 none 2 := ⟨kw_300, kw_301, kw_40, kw_302, nmh_0, pmd_16⟩
theorem ks_X2_247 : mWS RX2 247 yX2_added cX2_added 4 (some .long) 2 := ⟨kw_303, kw_304, kw_40, kw_305, nmh_0, pmd_3⟩
theorem kc_X2_374 : (Cond.constantLong RX2 374 (31)) ∈ mW := kw_306
theorem kv_X2_226 : mWV RX2 226 yX2_withMoments cX2_withMoments 6 (some .long) 1 := ⟨kw_307, kw_309, kw_7, kw_40, kw_310, nmh_0, pmd_2⟩
theorem kv_X2_376 : mWV RX2 376 yX2_ofMoment cX2_ofMoment 3 (some .int) 2 := ⟨kw_311, kw_312, kw_313, kw_40, kw_314, nmh_0, pmd_17⟩
theorem kv_X2_229 : mWV RX2 229 yX2_withDates cX2_withDates 7 (some .long) 1 := ⟨kw_315, kw_317, kw_8, kw_40, kw_318, nmh_0, pmd_2⟩
theorem ks_X2_175 : mWS RX2 175 yX2_datePart cX2_datePart 3 (some .int) 2 := ⟨kw_319, kw_320, kw_40, kw_321, nmh_0, pmd_18⟩
theorem kv_X2_274 : mWV RX2 274 yX1_day cX1_day 1 (some .int) 0 := ⟨kw_322, kw_283, kw_284, kw_41, kw_285, nmh_2, pmd_0⟩
theorem ks_X2_323 : mWS RX2 323 yX0_yearOf cX0_yearOf 2 (some .int) 1 := ⟨kw_323, kw_324, kw_62, kw_325, nmh_3, pmd_15⟩
theorem ks_X0_26 : mWS RX0 26 yX0_firstDayOf cX0_firstDayOf 2 (some .int) 1 := ⟨kw_326, kw_327, kw_62, kw_328, nmh_3, pmd_15⟩
theorem kc_X0_25 : (Cond.constant RX0 25 (719162)) ∈ mW := kw_329
theorem ks_X2_326 : mWS RX2 326 yX0_monthOf cX0_monthOf 4 (some .int) 1 := ⟨kw_330, kw_331, kw_62, kw_332, nmh_3, pmd_15⟩
theorem ks_X0_33 : mWS RX0 33 yX0_yearOf cX0_yearOf 2 (some .int) 1 := ⟨kw_333, kw_324, kw_62, kw_325, nmh_3, pmd_15⟩
theorem ks_X0_30 : mWS RX0 30 yX0_daysBeforeMonth cX0_daysBeforeMonth 3 (some .int) 2 := ⟨kw_334, kw_335, kw_62, kw_336, nmh_3, pmd_19⟩
theorem ks_X0_9 : mWS RX0 9 yX0_isLeap cX0_isLeap 1 (some .boolean) 1 := ⟨kw_337, kw_338, kw_62, kw_339, nmh_3, pmd_20⟩
theorem ks_X2_311 : mWS RX2 311 yX0_dayOfMonth cX0_dayOfMonth 1 (some .int) 1 := ⟨kw_340, kw_341, kw_62, kw_342, nmh_3, pmd_15⟩
theorem ks_X0_36 : mWS RX0 36 yX0_dayOfYear cX0_dayOfYear 1 (some .int) 1 := ⟨kw_343, kw_344, kw_62, kw_345, nmh_3, pmd_15⟩
theorem ks_X0_39 : mWS RX0 39 yX0_monthOf cX0_monthOf 4 (some .int) 1 := ⟨kw_346, kw_331, kw_62, kw_332, nmh_3, pmd_15⟩
theorem ks_X2_350 : mWS RX2 350 yX0_dayOfYear cX0_dayOfYear 1 (some .int) 1 := ⟨kw_347, kw_344, kw_62, kw_345, nmh_3, pmd_15⟩
theorem kv_X2_335 : mWV RX2 335 yX1_hour cX1_hour 1 (some .int) 0 := ⟨kw_348, kw_349, kw_350, kw_41, kw_351, nmh_2, pmd_0⟩
theorem kv_X1_48 : mWV RX1 48 yX1_secondOfDay cX1_secondOfDay 1 (some .int) 0 := ⟨kw_352, kw_273, kw_274, kw_41, kw_275, nmh_2, pmd_0⟩
theorem kv_X2_342 : mWV RX2 342 yX1_minute cX1_minute 1 (some .int) 0 := ⟨kw_353, kw_354, kw_355, kw_41, kw_356, nmh_2, pmd_0⟩
theorem kv_X2_345 : mWV RX2 345 yX1_secondOfMinute cX1_secondOfMinute 1 (some .int) 0 := ⟨kw_357, kw_358, kw_359, kw_41, kw_360, nmh_2, pmd_0⟩
theorem ks_X2_353 : mWS RX2 353 yX0_dayOfWeek cX0_dayOfWeek 1 (some .int) 1 := ⟨kw_361, kw_362, kw_62, kw_363, nmh_3, pmd_15⟩
theorem ks_X0_42 : mWS RX0 42 yJ9_floorMod_7cf53 cJ9_floorMod_7cf53 3 (some .int) 2 := ⟨kw_364, kw_365, kw_49, kw_366, nmh_1, pmd_19⟩
theorem kv_X2_232 : mWV RX2 232 yX2_withClocks cX2_withClocks 7 (some .long) 1 := ⟨kw_367, kw_369, kw_9, kw_40, kw_370, nmh_0, pmd_2⟩
theorem ks_X2_193 : mWS RX2 193 yX2_clockPart cX2_clockPart 2 (some .int) 2 := ⟨kw_371, kw_372, kw_40, kw_373, nmh_0, pmd_18⟩
theorem kv_X2_235 : mWV RX2 235 yX2_withDatePairs cX2_withDatePairs 7 (some .long) 1 := ⟨kw_374, kw_376, kw_10, kw_40, kw_377, nmh_0, pmd_2⟩
theorem kv_X2_238 : mWV RX2 238 yX2_withClockPairs cX2_withClockPairs 7 (some .long) 1 := ⟨kw_378, kw_380, kw_11, kw_40, kw_381, nmh_0, pmd_2⟩
theorem kv_X2_241 : mWV RX2 241 yX2_withHouse cX2_withHouse 6 (some .long) 1 := ⟨kw_382, kw_384, kw_12, kw_40, kw_385, nmh_0, pmd_2⟩
theorem kv_X2_380 : mWV RX2 380 yX2_house cX2_house 2 (some .int) 1 := ⟨kw_386, kw_387, kw_388, kw_40, kw_389, nmh_0, pmd_15⟩
theorem ks_X2_40 : mWS RX2 40 yX2_requireWithin cX2_requireWithin 3 none 3 := ⟨kw_390, kw_391, kw_40, kw_392, nmh_0, pmd_21⟩
theorem kl_X2_257 : (Cond.classLink RX2 257 "java/lang/IllegalArgumentException") ∈ mW := kw_393
theorem kv_X2_202 : mWV RX2 202 yX2_firstDated cX2_firstDated 3 (some .int) 0 := ⟨kw_409, kw_411, kw_13, kw_40, kw_412, nmh_0, pmd_0⟩
theorem kv_X2_205 : mWV RX2 205 yX2_firstMoment cX2_firstMoment 3 (some .int) 0 := ⟨kw_413, kw_415, kw_14, kw_40, kw_416, nmh_0, pmd_0⟩
theorem kv_X2_244 : mWV RX2 244 yX2_isSound cX2_isSound 1 (some .boolean) 0 := ⟨kw_417, kw_123, kw_124, kw_40, kw_125, nmh_0, pmd_1⟩
theorem kl_L_14 : (Cond.classLink RL 14 RX3) ∈ mW := kw_418
theorem ki_X3 : (Cond.instantiable RX3 2) ∈ mW := kw_419
theorem kg_L_13 : mFn RL RL 13 4 0 RX3 TX3 2 .long := ⟨kinX3, ⟨_, tyX3_ok⟩, nmX3, rfl, by decide, kw_424, by decide +kernel⟩
theorem kg_L_56 : mFn RL RL 56 4 1 RX3 TX3 2 (.object "java/lang/String") := ⟨kinX3, ⟨_, tyX3_ok⟩, nmX3, rfl, by decide, kw_425, by decide +kernel⟩
theorem kh_L_134 : mWH RL 134 yL_offset cL_offset 5 (some .int) [(0, 11, 14, 19), (0, 11, 18, 21)] 4 := ⟨kw_431, kw_432, kw_39, kw_433, nmh_4, pmd_22⟩
theorem kl_L_19 : (Cond.classLink RL 19 "java/lang/IndexOutOfBoundsException") ∈ mW := kw_434
theorem kl_L_21 : (Cond.classLink RL 21 "java/lang/IllegalArgumentException") ∈ mW := kw_435
theorem kv_L_7 : mWV RL 7 yX2_offset cX2_offset 4 (some .int) 2 := ⟨kw_436, kw_437, kw_438, kw_40, kw_439, nmh_0, pmd_19⟩
theorem kc_X2_38 : (Cond.constant RX2 38 (-64800)) ∈ mW := kw_440
theorem kc_X2_39 : (Cond.constant RX2 39 (64800)) ∈ mW := kw_441
theorem kh_L_140 : mWH RL 140 yL_offsetOf cL_offsetOf 7 (some .int) [(0, 15, 18, 19)] 6 := ⟨kw_442, kw_443, kw_39, kw_444, nmh_4, pmd_23⟩
theorem kv_L_23 : mWV RL 23 yX2_offsetOf cX2_offsetOf 8 (some .int) 4 := ⟨kw_445, kw_446, kw_447, kw_40, kw_448, nmh_0, pmd_24⟩
theorem kc_X2_44 : (Cond.constantLong RX2 44 (-18)) ∈ mW := kw_449
theorem kc_X2_46 : (Cond.constantLong RX2 46 (18)) ∈ mW := kw_450
theorem kc_X2_52 : (Cond.constantLong RX2 52 (-59)) ∈ mW := kw_451
theorem kc_X2_54 : (Cond.constantLong RX2 54 (59)) ∈ mW := kw_452
theorem kv_X2_56 : mWV RX2 56 yX2_refused cX2_refused 1 (some .int) 0 := ⟨kw_453, kw_455, kw_15, kw_40, kw_456, nmh_0, pmd_0⟩
theorem kc_X2_60 : (Cond.constantLong RX2 60 (-64800)) ∈ mW := kw_457
theorem kc_X2_62 : (Cond.constantLong RX2 62 (64800)) ∈ mW := kw_458
theorem kh_L_144 : mWH RL 144 yL_seconds cL_seconds 4 (some .int) [(0, 10, 13, 19)] 3 := ⟨kw_459, kw_460, kw_39, kw_461, nmh_4, pmd_25⟩
theorem kv_L_27 : mWV RL 27 yX2_seconds cX2_seconds 2 (some .int) 1 := ⟨kw_462, kw_297, kw_298, kw_40, kw_299, nmh_0, pmd_15⟩
theorem kh_L_148 : mWH RL 148 yL_orderOffset cL_orderOffset 5 (some .int) [(0, 11, 14, 19)] 4 := ⟨kw_463, kw_464, kw_39, kw_465, nmh_4, pmd_22⟩
theorem kv_L_31 : mWV RL 31 yX2_orderOffset cX2_orderOffset 3 (some .int) 2 := ⟨kw_466, kw_467, kw_468, kw_40, kw_469, nmh_0, pmd_19⟩
theorem ks_X2_68 : mWS RX2 68 yX2_compared cX2_compared 4 (some .int) 2 := ⟨kw_470, kw_262, kw_40, kw_263, nmh_0, pmd_14⟩
theorem kh_L_151 : mWH RL 151 yL_moment cL_moment 6 (some .int) [(0, 13, 16, 19)] 5 := ⟨kw_471, kw_472, kw_39, kw_473, nmh_4, pmd_26⟩
theorem kv_L_34 : mWV RL 34 yX2_moment cX2_moment 4 (some .int) 3 := ⟨kw_474, kw_475, kw_476, kw_40, kw_477, nmh_0, pmd_27⟩
theorem kv_X2_74 : mWV RX2 74 yX2_putNumber cX2_putNumber 4 (some .int) 2 := ⟨kw_478, kw_480, kw_16, kw_40, kw_481, nmh_0, pmd_28⟩
theorem kc_X2_262 : (Cond.constantLong RX2 262 (-1800000000000000000)) ∈ mW := kw_482
theorem kc_X2_264 : (Cond.constantLong RX2 264 (1800000000999999999)) ∈ mW := kw_483
theorem kh_L_155 : mWH RL 155 yL_milli cL_milli 6 (some .int) [(0, 13, 16, 19)] 5 := ⟨kw_484, kw_485, kw_39, kw_486, nmh_4, pmd_26⟩
theorem kv_L_38 : mWV RL 38 yX2_milli cX2_milli 4 (some .int) 3 := ⟨kw_487, kw_488, kw_489, kw_40, kw_490, nmh_0, pmd_27⟩
theorem kc_X2_78 : (Cond.constantLong RX2 78 (1000000)) ∈ mW := kw_491
theorem kh_L_158 : mWH RL 158 yL_move cL_move 7 (some .int) [(0, 15, 18, 19), (0, 15, 22, 21)] 6 := ⟨kw_492, kw_493, kw_39, kw_494, nmh_4, pmd_29⟩
theorem kv_L_41 : mWV RL 41 yX2_move cX2_move 7 (some .int) 4 := ⟨kw_495, kw_496, kw_497, kw_40, kw_498, nmh_0, pmd_30⟩
theorem ks_X2_80 : mWS RX2 80 yX2_signed cX2_signed 2 (some .long) 2 := ⟨kw_499, kw_500, kw_40, kw_501, nmh_0, pmd_31⟩
theorem kh_L_162 : mWH RL 162 yL_momentOf cL_momentOf 5 (some .int) [(0, 11, 14, 19)] 4 := ⟨kw_502, kw_503, kw_39, kw_504, nmh_4, pmd_22⟩
theorem kv_L_45 : mWV RL 45 yX2_momentOf cX2_momentOf 3 (some .int) 2 := ⟨kw_505, kw_506, kw_507, kw_40, kw_508, nmh_0, pmd_19⟩
theorem kh_L_165 : mWH RL 165 yL_ofMoment cL_ofMoment 5 (some .int) [(0, 11, 14, 19)] 4 := ⟨kw_509, kw_510, kw_39, kw_511, nmh_4, pmd_32⟩
theorem kv_L_48 : mWV RL 48 yX2_ofMoment cX2_ofMoment 3 (some .int) 2 := ⟨kw_512, kw_312, kw_313, kw_40, kw_314, nmh_0, pmd_17⟩
theorem kh_L_169 : mWH RL 169 yL_millis cL_millis 4 (some .int) [(0, 9, 12, 19)] 3 := ⟨kw_513, kw_514, kw_39, kw_515, nmh_4, pmd_25⟩
theorem kv_L_52 : mWV RL 52 yX2_millis cX2_millis 2 (some (.object "java/lang/String")) 1 := ⟨kw_516, kw_517, kw_518, kw_40, kw_519, nmh_0, pmd_33⟩
theorem ks_X2_106 : mWS RX2 106 yX2_textOf cX2_textOf 6 (some (.object "java/lang/String")) 1 := ⟨kw_520, kw_521, kw_40, kw_522, nmh_0, pmd_34⟩
theorem kl_X2_280 : (Cond.classLink RX2 280 "java/lang/StringBuilder") ∈ mW := kw_523
theorem kc_X2_286 : (Cond.constantLong RX2 286 (48)) ∈ mW := kw_557
theorem kc_X2_288 : (Cond.constantLong RX2 288 (10)) ∈ mW := kw_558
theorem kh_L_172 : mWH RL 172 yL_orderMoment cL_orderMoment 5 (some .int) [(0, 11, 14, 19)] 4 := ⟨kw_823, kw_824, kw_39, kw_825, nmh_4, pmd_22⟩
theorem kv_L_60 : mWV RL 60 yX2_orderMoment cX2_orderMoment 3 (some .int) 2 := ⟨kw_826, kw_827, kw_828, kw_40, kw_829, nmh_0, pmd_19⟩
theorem kh_L_175 : mWH RL 175 yL_isMoment cL_isMoment 6 (some .int) [(0, 20, 23, 19), (0, 20, 27, 21)] 5 := ⟨kw_830, kw_831, kw_39, kw_832, nmh_4, pmd_26⟩
theorem kv_L_63 : mWV RL 63 yX2_isMoment cX2_isMoment 5 (some .boolean) 3 := ⟨kw_833, kw_834, kw_835, kw_40, kw_836, nmh_0, pmd_35⟩
theorem kv_X2_110 : mWV RX2 110 yX2_orderMoment cX2_orderMoment 3 (some .int) 2 := ⟨kw_837, kw_827, kw_828, kw_40, kw_829, nmh_0, pmd_19⟩
theorem kh_L_178 : mWH RL 178 yL_copyMoment cL_copyMoment 5 (some .int) [(0, 11, 14, 19)] 4 := ⟨kw_838, kw_839, kw_39, kw_840, nmh_4, pmd_22⟩
theorem kv_L_67 : mWV RL 67 yX2_copyMoment cX2_copyMoment 3 (some .int) 2 := ⟨kw_841, kw_842, kw_843, kw_40, kw_844, nmh_0, pmd_19⟩
theorem kh_L_181 : mWH RL 181 yL_date cL_date 9 (some .int) [(0, 19, 22, 19), (0, 19, 26, 21)] 8 := ⟨kw_845, kw_846, kw_39, kw_847, nmh_4, pmd_36⟩
theorem kv_L_70 : mWV RL 70 yX2_date cX2_date 11 (some .int) 6 := ⟨kw_848, kw_849, kw_850, kw_40, kw_851, nmh_0, pmd_37⟩
theorem kc_X2_114 : (Cond.constant RX2 114 (86399)) ∈ mW := kw_852
theorem kc_X2_115 : (Cond.constant RX2 115 (999999999)) ∈ mW := kw_853
theorem kc_X2_116 : (Cond.constantLong RX2 116 (1910)) ∈ mW := kw_854
theorem kc_X2_118 : (Cond.constantLong RX2 118 (2030)) ∈ mW := kw_855
theorem ks_X2_120 : mWS RX2 120 yX0_isDay cX0_isDay 3 (some .boolean) 3 := ⟨kw_856, kw_857, kw_62, kw_858, nmh_3, pmd_35⟩
theorem kc_X0_15 : (Cond.constantLong RX0 15 (12)) ∈ mW := kw_859
theorem kn_X0_17 : mWN RX0 RX2 17 yX2_isWithin cX2_isWithin 6 (some .boolean) 3 := ⟨kw_860, kw_235, kw_40, kw_236, nmh_0, pmd_10⟩
theorem ks_X0_21 : mWS RX0 21 yX0_lengthOfMonth cX0_lengthOfMonth 2 (some .int) 2 := ⟨kw_861, kw_862, kw_62, kw_863, nmh_3, pmd_19⟩
theorem ks_X2_126 : mWS RX2 126 yX0_dayOf cX0_dayOf 3 (some .int) 3 := ⟨kw_864, kw_865, kw_62, kw_866, nmh_3, pmd_27⟩
theorem kc_X2_130 : (Cond.constantLong RX2 130 (86400)) ∈ mW := kw_867
theorem kv_X2_132 : mWV RX2 132 yX2_putLocal cX2_putLocal 6 (some .int) 4 := ⟨kw_868, kw_870, kw_17, kw_40, kw_871, nmh_0, pmd_38⟩
theorem kh_L_185 : mWH RL 185 yL_dateOf cL_dateOf 6 (some .int) [(0, 13, 16, 19)] 5 := ⟨kw_872, kw_873, kw_39, kw_874, nmh_4, pmd_26⟩
theorem kv_L_74 : mWV RL 74 yX2_dateOf cX2_dateOf 8 (some .int) 3 := ⟨kw_875, kw_876, kw_877, kw_40, kw_878, nmh_0, pmd_27⟩
theorem kh_L_188 : mWH RL 188 yL_moveDate cL_moveDate 7 (some .int) [(0, 15, 18, 19), (0, 15, 22, 21)] 6 := ⟨kw_879, kw_880, kw_39, kw_881, nmh_4, pmd_29⟩
theorem kv_L_77 : mWV RL 77 yX2_moveDate cX2_moveDate 8 (some .int) 4 := ⟨kw_882, kw_883, kw_884, kw_40, kw_885, nmh_0, pmd_30⟩
theorem kv_X2_136 : mWV RX2 136 yX1_months cX1_months 1 (some .long) 0 := ⟨kw_886, kw_887, kw_888, kw_41, kw_889, nmh_2, pmd_7⟩
theorem ks_X1_34 : mWS RX1 34 yX0_yearOf cX0_yearOf 2 (some .int) 1 := ⟨kw_890, kw_324, kw_62, kw_325, nmh_3, pmd_15⟩
theorem kc_X1_40 : (Cond.constantLong RX1 40 (12)) ∈ mW := kw_891
theorem ks_X1_42 : mWS RX1 42 yX0_monthOf cX0_monthOf 4 (some .int) 1 := ⟨kw_892, kw_331, kw_62, kw_332, nmh_3, pmd_15⟩
theorem kc_X2_140 : (Cond.constantLong RX2 140 (12)) ∈ mW := kw_893
theorem kv_X2_142 : mWV RX2 142 yX2_putMonths cX2_putMonths 9 (some .int) 2 := ⟨kw_894, kw_896, kw_18, kw_40, kw_897, nmh_0, pmd_39⟩
theorem ks_X2_308 : mWS RX2 308 yX0_lengthOfMonth cX0_lengthOfMonth 2 (some .int) 2 := ⟨kw_898, kw_862, kw_62, kw_863, nmh_3, pmd_19⟩
theorem ks_X2_314 : mWS RX2 314 yJ9_min_7cf53 cJ9_min_7cf53 2 (some .int) 2 := ⟨kw_899, kw_596, kw_49, kw_597, nmh_1, pmd_19⟩
theorem kv_X2_317 : mWV RX2 317 yX2_putDay cX2_putDay 3 (some .int) 2 := ⟨kw_900, kw_902, kw_19, kw_40, kw_903, nmh_0, pmd_18⟩
theorem ks_X2_150 : mWS RX2 150 yX2_secondsOn cX2_secondsOn 4 (some .long) 3 := ⟨kw_904, kw_905, kw_40, kw_906, nmh_0, pmd_40⟩
theorem kc_X2_302 : (Cond.constantLong RX2 302 (7)) ∈ mW := kw_907
theorem kc_X2_304 : (Cond.constantLong RX2 304 (3600)) ∈ mW := kw_908
theorem kc_X2_306 : (Cond.constantLong RX2 306 (60)) ∈ mW := kw_909
theorem ks_X2_154 : mWS RX2 154 yX2_nanoOn cX2_nanoOn 4 (some .int) 3 := ⟨kw_910, kw_911, kw_40, kw_912, nmh_0, pmd_41⟩
theorem kh_L_191 : mWH RL 191 yL_set cL_set 6 (some .int) [(0, 13, 16, 19), (0, 13, 20, 21)] 5 := ⟨kw_913, kw_914, kw_39, kw_915, nmh_4, pmd_26⟩
theorem kv_L_80 : mWV RL 80 yX2_set cX2_set 5 (some .int) 3 := ⟨kw_916, kw_917, kw_918, kw_40, kw_919, nmh_0, pmd_27⟩
theorem kv_X2_162 : mWV RX2 162 yX2_setOfDay cX2_setOfDay 6 (some .int) 3 := ⟨kw_920, kw_922, kw_20, kw_40, kw_923, nmh_0, pmd_42⟩
theorem ks_X2_329 : mWS RX2 329 yX0_lengthOfYear cX0_lengthOfYear 1 (some .int) 1 := ⟨kw_924, kw_925, kw_62, kw_926, nmh_3, pmd_15⟩
theorem ks_X2_332 : mWS RX2 332 yX0_firstDayOf cX0_firstDayOf 2 (some .int) 1 := ⟨kw_927, kw_327, kw_62, kw_328, nmh_3, pmd_15⟩
theorem kv_X2_166 : mWV RX2 166 yX2_setOfTime cX2_setOfTime 4 (some .int) 3 := ⟨kw_928, kw_930, kw_21, kw_40, kw_931, nmh_0, pmd_42⟩
theorem kv_X2_338 : mWV RX2 338 yX2_setPart cX2_setPart 7 (some .int) 5 := ⟨kw_932, kw_934, kw_22, kw_40, kw_935, nmh_0, pmd_43⟩
theorem kc_X2_348 : (Cond.constantLong RX2 348 (999999999)) ∈ mW := kw_936
theorem kh_L_194 : mWH RL 194 yL_anew cL_anew 6 (some .int) [(0, 13, 16, 19)] 5 := ⟨kw_937, kw_938, kw_39, kw_939, nmh_4, pmd_44⟩
theorem kv_L_83 : mWV RL 83 yX2_anew cX2_anew 8 (some .int) 3 := ⟨kw_940, kw_941, kw_942, kw_40, kw_943, nmh_0, pmd_45⟩
theorem kh_L_198 : mWH RL 198 yL_copy cL_copy 5 (some .int) [(0, 11, 14, 19)] 4 := ⟨kw_944, kw_945, kw_39, kw_946, nmh_4, pmd_22⟩
theorem kv_L_87 : mWV RL 87 yX2_copy cX2_copy 5 (some .int) 2 := ⟨kw_947, kw_948, kw_949, kw_40, kw_950, nmh_0, pmd_19⟩
theorem kh_L_201 : mWH RL 201 yL_ofDate cL_ofDate 5 (some .int) [(0, 11, 14, 19), (0, 11, 18, 21)] 4 := ⟨kw_951, kw_952, kw_39, kw_953, nmh_4, pmd_22⟩
theorem kv_L_90 : mWV RL 90 yX2_ofDate cX2_ofDate 4 (some .int) 2 := ⟨kw_954, kw_955, kw_956, kw_40, kw_957, nmh_0, pmd_19⟩
theorem kh_L_204 : mWH RL 204 yL_orderDate cL_orderDate 5 (some .int) [(0, 11, 14, 19)] 4 := ⟨kw_958, kw_959, kw_39, kw_960, nmh_4, pmd_22⟩
theorem kv_L_93 : mWV RL 93 yX2_orderDate cX2_orderDate 3 (some .int) 2 := ⟨kw_961, kw_962, kw_963, kw_40, kw_964, nmh_0, pmd_19⟩
theorem kh_L_207 : mWH RL 207 yL_isDate cL_isDate 6 (some .int) [(0, 20, 23, 19), (0, 20, 27, 21)] 5 := ⟨kw_965, kw_966, kw_39, kw_967, nmh_4, pmd_26⟩
theorem kv_L_96 : mWV RL 96 yX2_isDate cX2_isDate 6 (some .boolean) 3 := ⟨kw_968, kw_969, kw_970, kw_40, kw_971, nmh_0, pmd_35⟩
theorem ks_X2_183 : mWS RX2 183 yX2_isSo cX2_isSo 3 (some .boolean) 3 := ⟨kw_972, kw_973, kw_40, kw_974, nmh_0, pmd_46⟩
theorem kh_L_210 : mWH RL 210 yL_clock cL_clock 7 (some .int) [(0, 15, 18, 19), (0, 15, 22, 21)] 6 := ⟨kw_975, kw_976, kw_39, kw_977, nmh_4, pmd_23⟩
theorem kv_L_99 : mWV RL 99 yX2_clock cX2_clock 7 (some .int) 4 := ⟨kw_978, kw_979, kw_980, kw_40, kw_981, nmh_0, pmd_24⟩
theorem kv_X2_187 : mWV RX2 187 yX2_putClock cX2_putClock 6 (some .int) 4 := ⟨kw_982, kw_984, kw_23, kw_40, kw_985, nmh_0, pmd_38⟩
theorem kh_L_213 : mWH RL 213 yL_clockOf cL_clockOf 5 (some .int) [(0, 11, 14, 19)] 4 := ⟨kw_986, kw_987, kw_39, kw_988, nmh_4, pmd_22⟩
theorem kv_L_102 : mWV RL 102 yX2_clockOf cX2_clockOf 5 (some .int) 2 := ⟨kw_989, kw_990, kw_991, kw_40, kw_992, nmh_0, pmd_19⟩
theorem kh_L_216 : mWH RL 216 yL_strike cL_strike 5 (some .int) [(0, 11, 14, 19)] 4 := ⟨kw_993, kw_994, kw_39, kw_995, nmh_4, pmd_22⟩
theorem kv_L_105 : mWV RL 105 yX2_strike cX2_strike 5 (some .int) 2 := ⟨kw_996, kw_997, kw_998, kw_40, kw_999, nmh_0, pmd_19⟩
theorem kh_L_219 : mWH RL 219 yL_moveClock cL_moveClock 7 (some .int) [(0, 15, 18, 19), (0, 15, 22, 21)] 6 := ⟨kw_1000, kw_1001, kw_39, kw_1002, nmh_4, pmd_29⟩
theorem kv_L_108 : mWV RL 108 yX2_moveClock cX2_moveClock 8 (some .int) 4 := ⟨kw_1003, kw_1004, kw_1005, kw_40, kw_1006, nmh_0, pmd_30⟩
theorem kh_L_222 : mWH RL 222 yL_anewClock cL_anewClock 6 (some .int) [(0, 13, 16, 19)] 5 := ⟨kw_1007, kw_1008, kw_39, kw_1009, nmh_4, pmd_44⟩
theorem kv_L_111 : mWV RL 111 yX2_anewClock cX2_anewClock 8 (some .int) 3 := ⟨kw_1010, kw_1011, kw_1012, kw_40, kw_1013, nmh_0, pmd_45⟩
theorem kh_L_225 : mWH RL 225 yL_copyClock cL_copyClock 5 (some .int) [(0, 11, 14, 19)] 4 := ⟨kw_1014, kw_1015, kw_39, kw_1016, nmh_4, pmd_22⟩
theorem kv_L_114 : mWV RL 114 yX2_copyClock cX2_copyClock 5 (some .int) 2 := ⟨kw_1017, kw_1018, kw_1019, kw_40, kw_1020, nmh_0, pmd_19⟩
theorem kh_L_228 : mWH RL 228 yL_ofClock cL_ofClock 5 (some .int) [(0, 11, 14, 19), (0, 11, 18, 21)] 4 := ⟨kw_1021, kw_1022, kw_39, kw_1023, nmh_4, pmd_22⟩
theorem kv_L_117 : mWV RL 117 yX2_ofClock cX2_ofClock 4 (some .int) 2 := ⟨kw_1024, kw_1025, kw_1026, kw_40, kw_1027, nmh_0, pmd_19⟩
theorem kh_L_231 : mWH RL 231 yL_orderClock cL_orderClock 5 (some .int) [(0, 11, 14, 19)] 4 := ⟨kw_1028, kw_1029, kw_39, kw_1030, nmh_4, pmd_22⟩
theorem kv_L_120 : mWV RL 120 yX2_orderClock cX2_orderClock 3 (some .int) 2 := ⟨kw_1031, kw_1032, kw_1033, kw_40, kw_1034, nmh_0, pmd_19⟩
theorem kh_L_234 : mWH RL 234 yL_isClock cL_isClock 6 (some .int) [(0, 20, 23, 19), (0, 20, 27, 21)] 5 := ⟨kw_1035, kw_1036, kw_39, kw_1037, nmh_4, pmd_26⟩
theorem kv_L_123 : mWV RL 123 yX2_isClock cX2_isClock 6 (some .boolean) 3 := ⟨kw_1038, kw_1039, kw_1040, kw_40, kw_1041, nmh_0, pmd_35⟩
theorem kh_L_245 : mWH RL 245 yL_house cL_house 4 (some .int) [(0, 10, 13, 21)] 3 := ⟨kw_1042, kw_1043, kw_39, kw_1044, nmh_4, pmd_25⟩
theorem kv_L_126 : mWV RL 126 yX2_house cX2_house 2 (some .int) 1 := ⟨kw_1045, kw_387, kw_388, kw_40, kw_389, nmh_0, pmd_15⟩
theorem kl_L_130 : (Cond.classLink RL 130 RX4) ∈ mW := kw_1046
theorem ki_X4 : (Cond.instantiable RX4 9) ∈ mW := kw_1047
theorem kf_X4_29 : mFd RX4 29 5 0 RX4 TX4 9 .int := ⟨kinX4, ⟨_, tyX4_ok⟩, nmX4, rfl, by decide, kw_1052, by decide +kernel⟩
theorem kf_X4_219 : mFd RX4 219 5 1 RX4 TX4 9 .int := ⟨kinX4, ⟨_, tyX4_ok⟩, nmX4, rfl, by decide, kw_1053, by decide +kernel⟩
theorem kf_X4_33 : mFd RX4 33 5 2 RX4 TX4 9 .int := ⟨kinX4, ⟨_, tyX4_ok⟩, nmX4, rfl, by decide, kw_1054, by decide +kernel⟩
theorem kf_X4_7 : mFd RX4 7 5 3 RX4 TX4 9 (.array .int) := ⟨kinX4, ⟨_, tyX4_ok⟩, nmX4, rfl, by decide, kw_1055, by decide +kernel⟩
theorem kf_X4_13 : mFd RX4 13 5 4 RX4 TX4 9 (.array .long) := ⟨kinX4, ⟨_, tyX4_ok⟩, nmX4, rfl, by decide, kw_1056, by decide +kernel⟩
theorem kf_X4_17 : mFd RX4 17 5 5 RX4 TX4 9 (.array .int) := ⟨kinX4, ⟨_, tyX4_ok⟩, nmX4, rfl, by decide, kw_1057, by decide +kernel⟩
theorem kf_X4_20 : mFd RX4 20 5 6 RX4 TX4 9 (.array .int) := ⟨kinX4, ⟨_, tyX4_ok⟩, nmX4, rfl, by decide, kw_1058, by decide +kernel⟩
theorem kf_X4_23 : mFd RX4 23 5 7 RX4 TX4 9 (.array .int) := ⟨kinX4, ⟨_, tyX4_ok⟩, nmX4, rfl, by decide, kw_1059, by decide +kernel⟩
theorem kf_X4_26 : mFd RX4 26 5 8 RX4 TX4 9 (.array .int) := ⟨kinX4, ⟨_, tyX4_ok⟩, nmX4, rfl, by decide, kw_1060, by decide +kernel⟩
theorem kv_L_237 : mWV RL 237 yX4_thrown cX4_thrown 1 (some .int) 0 := ⟨kw_1080, kw_1081, kw_1082, kw_42, kw_1083, nmh_5, pmd_0⟩
theorem kv_L_139 : mWV RL 139 yX4_offset cX4_offset 4 (some .int) 2 := ⟨kw_1084, kw_1085, kw_1086, kw_42, kw_1087, nmh_5, pmd_19⟩
theorem ks_X4_61 : mWS RX4 61 yX4_isNone cX4_isNone 1 (some .boolean) 1 := ⟨kw_1088, kw_1089, kw_42, kw_1090, nmh_5, pmd_20⟩
theorem kc_X4_36 : (Cond.constantLong RX4 36 (3)) ∈ mW := kw_1091
theorem ks_X4_38 : mWS RX4 38 yX4_isIn cX4_isIn 6 (some .boolean) 3 := ⟨kw_1092, kw_1093, kw_42, kw_1094, nmh_5, pmd_10⟩
theorem kc_X4_64 : (Cond.constantLong RX4 64 (-64800)) ∈ mW := kw_1095
theorem kc_X4_66 : (Cond.constantLong RX4 66 (64800)) ∈ mW := kw_1096
theorem kv_X4_68 : mWV RX4 68 yX4_isStopped cX4_isStopped 3 (some .boolean) 2 := ⟨kw_1097, kw_1099, kw_24, kw_42, kw_1100, nmh_5, pmd_47⟩
theorem kv_L_143 : mWV RL 143 yX4_offsetOf cX4_offsetOf 7 (some .int) 4 := ⟨kw_1101, kw_1102, kw_1103, kw_42, kw_1104, nmh_5, pmd_24⟩
theorem kc_X4_72 : (Cond.constantLong RX4 72 (-18)) ∈ mW := kw_1105
theorem kc_X4_74 : (Cond.constantLong RX4 74 (18)) ∈ mW := kw_1106
theorem kc_X4_76 : (Cond.constantLong RX4 76 (-59)) ∈ mW := kw_1107
theorem kc_X4_78 : (Cond.constantLong RX4 78 (59)) ∈ mW := kw_1108
theorem kv_X4_80 : mWV RX4 80 yX4_no cX4_no 1 (some .int) 0 := ⟨kw_1109, kw_1111, kw_25, kw_42, kw_1112, nmh_5, pmd_0⟩
theorem kv_L_147 : mWV RL 147 yX4_seconds cX4_seconds 2 (some .int) 1 := ⟨kw_1113, kw_1114, kw_1115, kw_42, kw_1116, nmh_5, pmd_15⟩
theorem kv_L_150 : mWV RL 150 yX4_orderOffset cX4_orderOffset 3 (some .int) 2 := ⟨kw_1117, kw_1118, kw_1119, kw_42, kw_1120, nmh_5, pmd_19⟩
theorem ks_X4_88 : mWS RX4 88 yX4_order cX4_order 4 (some .int) 2 := ⟨kw_1121, kw_1122, kw_42, kw_1123, nmh_5, pmd_14⟩
theorem ks_X4_84 : mWS RX4 84 yX4_one cX4_one 1 (some .int) 1 := ⟨kw_1124, kw_1125, kw_42, kw_1126, nmh_5, pmd_48⟩
theorem kv_L_154 : mWV RL 154 yX4_moment cX4_moment 4 (some .int) 3 := ⟨kw_1127, kw_1128, kw_1129, kw_42, kw_1130, nmh_5, pmd_27⟩
theorem kc_X4_96 : (Cond.constantLong RX4 96 (1000000000)) ∈ mW := kw_1131
theorem kv_X4_105 : mWV RX4 105 yX4_become cX4_become 4 (some .int) 2 := ⟨kw_1132, kw_1134, kw_26, kw_42, kw_1135, nmh_5, pmd_28⟩
theorem ks_X4_92 : mWS RX4 92 yX4_whole cX4_whole 4 (some .long) 2 := ⟨kw_1136, kw_1137, kw_42, kw_1138, nmh_5, pmd_3⟩
theorem kc_X4_98 : (Cond.constantLong RX4 98 (-1800000000)) ∈ mW := kw_1139
theorem kc_X4_100 : (Cond.constantLong RX4 100 (1800000000)) ∈ mW := kw_1140
theorem ks_X4_102 : mWS RX4 102 yX4_rest cX4_rest 4 (some .int) 2 := ⟨kw_1141, kw_1142, kw_42, kw_1143, nmh_5, pmd_14⟩
theorem kv_L_157 : mWV RL 157 yX4_milli cX4_milli 4 (some .int) 3 := ⟨kw_1144, kw_1145, kw_1146, kw_42, kw_1147, nmh_5, pmd_27⟩
theorem kc_X4_109 : (Cond.constantLong RX4 109 (1000)) ∈ mW := kw_1148
theorem kc_X4_111 : (Cond.constantLong RX4 111 (1000000)) ∈ mW := kw_1149
theorem kv_L_161 : mWV RL 161 yX4_move cX4_move 7 (some .int) 4 := ⟨kw_1150, kw_1151, kw_1152, kw_42, kw_1153, nmh_5, pmd_30⟩
theorem kc_X4_42 : (Cond.constantLong RX4 42 (2)) ∈ mW := kw_1154
theorem kv_L_164 : mWV RL 164 yX4_momentOf cX4_momentOf 3 (some .int) 2 := ⟨kw_1155, kw_1156, kw_1157, kw_42, kw_1158, nmh_5, pmd_19⟩
theorem kv_X4_115 : mWV RX4 115 yX4_number cX4_number 2 (some .long) 1 := ⟨kw_1159, kw_1161, kw_27, kw_42, kw_1162, nmh_5, pmd_49⟩
theorem kc_X4_113 : (Cond.constantLong RX4 113 (86400)) ∈ mW := kw_1163
theorem kv_L_180 : mWV RL 180 yX4_copyMoment cX4_copyMoment 3 (some .int) 2 := ⟨kw_1164, kw_1165, kw_1166, kw_42, kw_1167, nmh_5, pmd_19⟩
theorem kv_L_168 : mWV RL 168 yX4_ofMoment cX4_ofMoment 3 (some .int) 2 := ⟨kw_1168, kw_1169, kw_1170, kw_42, kw_1171, nmh_5, pmd_17⟩
theorem kv_L_171 : mWV RL 171 yX4_millis cX4_millis 2 (some (.object "java/lang/String")) 1 := ⟨kw_1172, kw_1173, kw_1174, kw_42, kw_1175, nmh_5, pmd_33⟩
theorem kl_X4_121 : (Cond.classLink RX4 121 "java/lang/StringBuilder") ∈ mW := kw_1177
theorem kv_L_174 : mWV RL 174 yX4_orderMoment cX4_orderMoment 3 (some .int) 2 := ⟨kw_1208, kw_1209, kw_1210, kw_42, kw_1211, nmh_5, pmd_19⟩
theorem kv_L_177 : mWV RL 177 yX4_isMoment cX4_isMoment 4 (some .boolean) 3 := ⟨kw_1212, kw_1213, kw_1214, kw_42, kw_1215, nmh_5, pmd_35⟩
theorem kv_L_184 : mWV RL 184 yX4_date cX4_date 7 (some .int) 6 := ⟨kw_1216, kw_1217, kw_1218, kw_42, kw_1219, nmh_5, pmd_37⟩
theorem kc_X4_153 : (Cond.constantLong RX4 153 (9999)) ∈ mW := kw_1220
theorem ks_X4_155 : mWS RX4 155 yX4_isTime cX4_isTime 2 (some .boolean) 2 := ⟨kw_1221, kw_1222, kw_42, kw_1223, nmh_5, pmd_50⟩
theorem kc_X4_143 : (Cond.constantLong RX4 143 (86399)) ∈ mW := kw_1224
theorem kc_X4_145 : (Cond.constantLong RX4 145 (999999999)) ∈ mW := kw_1225
theorem ks_X4_159 : mWS RX4 159 yX4_isThere cX4_isThere 3 (some .boolean) 3 := ⟨kw_1226, kw_1227, kw_42, kw_1228, nmh_5, pmd_35⟩
theorem kc_X4_147 : (Cond.constantLong RX4 147 (1910)) ∈ mW := kw_1229
theorem kc_X4_149 : (Cond.constantLong RX4 149 (2030)) ∈ mW := kw_1230
theorem kc_X4_151 : (Cond.constantLong RX4 151 (12)) ∈ mW := kw_1231
theorem ks_X4_55 : mWS RX4 55 yX4_daysOf cX4_daysOf 2 (some .int) 2 := ⟨kw_1232, kw_1233, kw_42, kw_1234, nmh_5, pmd_19⟩
theorem ks_X4_44 : mWS RX4 44 yX4_isLeap cX4_isLeap 1 (some .boolean) 1 := ⟨kw_1235, kw_1236, kw_42, kw_1237, nmh_5, pmd_20⟩
theorem ks_X4_163 : mWS RX4 163 yX4_dayOf cX4_dayOf 5 (some .int) 3 := ⟨kw_1238, kw_1239, kw_42, kw_1240, nmh_5, pmd_27⟩
theorem ks_X4_52 : mWS RX4 52 yX4_firstOf cX4_firstOf 3 (some .int) 1 := ⟨kw_1241, kw_1242, kw_42, kw_1243, nmh_5, pmd_15⟩
theorem ks_X4_48 : mWS RX4 48 yX4_daysOf_ cX4_daysOf_ 1 (some .int) 1 := ⟨kw_1244, kw_1245, kw_42, kw_1246, nmh_5, pmd_15⟩
theorem kv_X4_139 : mWV RX4 139 yX4_put cX4_put 6 (some .int) 5 := ⟨kw_1247, kw_1249, kw_28, kw_42, kw_1250, nmh_5, pmd_51⟩
theorem kv_L_187 : mWV RL 187 yX4_dateOf cX4_dateOf 4 (some .int) 3 := ⟨kw_1251, kw_1252, kw_1253, kw_42, kw_1254, nmh_5, pmd_27⟩
theorem kv_X4_167 : mWV RX4 167 yX4_put_ cX4_put_ 10 (some .int) 5 := ⟨kw_1255, kw_1257, kw_29, kw_42, kw_1258, nmh_5, pmd_52⟩
theorem ks_X4_135 : mWS RX4 135 yX4_isDay cX4_isDay 2 (some .boolean) 1 := ⟨kw_1259, kw_1260, kw_42, kw_1261, nmh_5, pmd_53⟩
theorem kv_L_190 : mWV RL 190 yX4_moveDate cX4_moveDate 9 (some .int) 4 := ⟨kw_1262, kw_1263, kw_1264, kw_42, kw_1265, nmh_5, pmd_30⟩
theorem kc_X4_183 : (Cond.constantLong RX4 183 (7)) ∈ mW := kw_1266
theorem kv_X4_185 : mWV RX4 185 yX4_moveMonths cX4_moveMonths 9 (some .int) 2 := ⟨kw_1267, kw_1269, kw_30, kw_42, kw_1270, nmh_5, pmd_28⟩
theorem ks_X4_170 : mWS RX4 170 yX4_parts cX4_parts 5 (some (.array .int)) 1 := ⟨kw_1271, kw_1272, kw_42, kw_1273, nmh_5, pmd_54⟩
theorem ks_X4_58 : mWS RX4 58 yX4_yearOf cX4_yearOf 3 (some .int) 1 := ⟨kw_1274, kw_1275, kw_42, kw_1276, nmh_5, pmd_15⟩
theorem kv_X4_174 : mWV RX4 174 yX4_putDay cX4_putDay 5 (some .int) 4 := ⟨kw_1277, kw_1279, kw_31, kw_42, kw_1280, nmh_5, pmd_24⟩
theorem ks_X4_178 : mWS RX4 178 yJ9_min_7cf53 cJ9_min_7cf53 2 (some .int) 2 := ⟨kw_1281, kw_596, kw_49, kw_597, nmh_1, pmd_19⟩
theorem ks_X4_188 : mWS RX4 188 yX4_secondsOf cX4_secondsOf 1 (some .int) 1 := ⟨kw_1282, kw_1283, kw_42, kw_1284, nmh_5, pmd_15⟩
theorem kv_L_193 : mWV RL 193 yX4_set cX4_set 6 (some .int) 3 := ⟨kw_1285, kw_1286, kw_1287, kw_42, kw_1288, nmh_5, pmd_27⟩
theorem kc_X4_191 : (Cond.constantLong RX4 191 (23)) ∈ mW := kw_1289
theorem kv_L_197 : mWV RL 197 yX4_anew cX4_anew 5 (some .int) 3 := ⟨kw_1290, kw_1291, kw_1292, kw_42, kw_1293, nmh_5, pmd_45⟩
theorem kv_L_200 : mWV RL 200 yX4_copy cX4_copy 3 (some .int) 2 := ⟨kw_1294, kw_1295, kw_1296, kw_42, kw_1297, nmh_5, pmd_19⟩
theorem kv_L_203 : mWV RL 203 yX4_ofDate cX4_ofDate 3 (some .int) 2 := ⟨kw_1298, kw_1299, kw_1300, kw_42, kw_1301, nmh_5, pmd_19⟩
theorem kv_X4_193 : mWV RX4 193 yX4_told cX4_told 4 (some .int) 2 := ⟨kw_1302, kw_1304, kw_32, kw_42, kw_1305, nmh_5, pmd_19⟩
theorem kv_L_206 : mWV RL 206 yX4_orderDate cX4_orderDate 3 (some .int) 2 := ⟨kw_1306, kw_1307, kw_1308, kw_42, kw_1309, nmh_5, pmd_19⟩
theorem kv_X4_196 : mWV RX4 196 yX4_ordered cX4_ordered 3 (some .int) 2 := ⟨kw_1310, kw_1312, kw_33, kw_42, kw_1313, nmh_5, pmd_19⟩
theorem kv_L_209 : mWV RL 209 yX4_isDate cX4_isDate 4 (some .boolean) 3 := ⟨kw_1314, kw_1315, kw_1316, kw_42, kw_1317, nmh_5, pmd_35⟩
theorem kv_X4_199 : mWV RX4 199 yX4_is cX4_is 4 (some .boolean) 3 := ⟨kw_1318, kw_1320, kw_34, kw_42, kw_1321, nmh_5, pmd_35⟩
theorem kv_L_212 : mWV RL 212 yX4_clock cX4_clock 5 (some .int) 4 := ⟨kw_1322, kw_1323, kw_1324, kw_42, kw_1325, nmh_5, pmd_24⟩
theorem ks_X4_205 : mWS RX4 205 yX4_isNoClock cX4_isNoClock 1 (some .boolean) 1 := ⟨kw_1326, kw_1327, kw_42, kw_1328, nmh_5, pmd_20⟩
theorem kv_X4_208 : mWV RX4 208 yX4_turn cX4_turn 6 (some .int) 4 := ⟨kw_1329, kw_1331, kw_35, kw_42, kw_1332, nmh_5, pmd_55⟩
theorem kv_X4_202 : mWV RX4 202 yX4_ofSecond cX4_ofSecond 2 (some .int) 1 := ⟨kw_1333, kw_1335, kw_36, kw_42, kw_1336, nmh_5, pmd_15⟩
theorem kv_L_215 : mWV RL 215 yX4_clockOf cX4_clockOf 3 (some .int) 2 := ⟨kw_1337, kw_1338, kw_1339, kw_42, kw_1340, nmh_5, pmd_19⟩
theorem kv_L_227 : mWV RL 227 yX4_copyClock cX4_copyClock 3 (some .int) 2 := ⟨kw_1341, kw_1342, kw_1343, kw_42, kw_1344, nmh_5, pmd_19⟩
theorem kv_L_218 : mWV RL 218 yX4_strike cX4_strike 3 (some .int) 2 := ⟨kw_1345, kw_1346, kw_1347, kw_42, kw_1348, nmh_5, pmd_19⟩
theorem kv_L_221 : mWV RL 221 yX4_moveClock cX4_moveClock 9 (some .int) 4 := ⟨kw_1349, kw_1350, kw_1351, kw_42, kw_1352, nmh_5, pmd_30⟩
theorem kc_X4_212 : (Cond.constantLong RX4 212 (4)) ∈ mW := kw_1353
theorem kv_L_224 : mWV RL 224 yX4_anewClock cX4_anewClock 5 (some .int) 3 := ⟨kw_1354, kw_1355, kw_1356, kw_42, kw_1357, nmh_5, pmd_45⟩
theorem kv_L_230 : mWV RL 230 yX4_ofClock cX4_ofClock 3 (some .int) 2 := ⟨kw_1358, kw_1359, kw_1360, kw_42, kw_1361, nmh_5, pmd_19⟩
theorem kc_X4_214 : (Cond.constantLong RX4 214 (5)) ∈ mW := kw_1362
theorem kv_X4_216 : mWV RX4 216 yX4_clockTold cX4_clockTold 3 (some .int) 2 := ⟨kw_1363, kw_1365, kw_37, kw_42, kw_1366, nmh_5, pmd_19⟩
theorem kv_L_233 : mWV RL 233 yX4_orderClock cX4_orderClock 3 (some .int) 2 := ⟨kw_1367, kw_1368, kw_1369, kw_42, kw_1370, nmh_5, pmd_19⟩
theorem kv_L_236 : mWV RL 236 yX4_isClock cX4_isClock 4 (some .boolean) 3 := ⟨kw_1371, kw_1372, kw_1373, kw_42, kw_1374, nmh_5, pmd_35⟩
theorem kv_L_244 : mWV RL 244 yX4_knock cX4_knock 1 (some .int) 0 := ⟨kw_1375, kw_1376, kw_1377, kw_42, kw_1378, nmh_5, pmd_0⟩
theorem kv_L_247 : mWV RL 247 yX4_house cX4_house 2 (some .int) 1 := ⟨kw_1379, kw_1380, kw_1381, kw_42, kw_1382, nmh_5, pmd_15⟩
theorem kv_X4_222 : mWV RX4 222 yX4_houseTold cX4_houseTold 5 (some .int) 1 := ⟨kw_1383, kw_1385, kw_38, kw_42, kw_1386, nmh_5, pmd_15⟩
theorem kv_L_252 : mWV RL 252 yX4_isSound cX4_isSound 1 (some .boolean) 0 := ⟨kw_1387, kw_1388, kw_1389, kw_42, kw_1390, nmh_5, pmd_1⟩
theorem kv_L_257 : mWV RL 257 yX4_digest cX4_digest 8 (some .long) 0 := ⟨kw_1391, kw_1392, kw_1393, kw_42, kw_1394, nmh_5, pmd_7⟩
theorem kc_X4_225 : (Cond.constantLong RX4 225 (6199)) ∈ mW := kw_1395
theorem kc_X4_227 : (Cond.constantLong RX4 227 (31)) ∈ mW := kw_1396
end
-- 05 world
section
/-! THE WORLD OF A DESK, and the shapes of its contracts. (Own work.) -/
/-- what a desk holds: its offsets, its moments, its local times (DATEDs 0 to 3, CLOCKs 4 to 6, the two tried ones 7 and 8), how often it knocked and refused -/
abbrev mK : Type := (Nat → Int32) × (Nat → Int64) × (Nat → Int64 × Int32 × Int32) × Int32 × Int32
def mLc (x : Int64 × Int32 × Int32) : va_E := .inr (2, [.long x.1, .int x.2.1, .int x.2.2])
def mWd (ad : Nat → Nat) (cs : ClassId × ClassId × ClassId) (K : mK) (rest : va_W) : va_W :=
  (ad 0, .inr (3, [.ref (ad 1), .ref (ad 2), .ref (ad 3), .ref (ad 4), .ref (ad 12), .ref (ad 13), .int K.2.2.2.1, .int K.2.2.2.2])) ::
  (ad 1, .inl (cs.1, 4, .inl K.1)) :: (ad 2, .inl (cs.2.1, 4, .inr (.inl K.2.1))) ::
  (ad 3, .inl (cs.2.2, 4, .inr (.inr (.inr (.inr (fun j => some (ad (j + 0 + 5)))))))) ::
  (ad 4, .inl (cs.2.2, 3, .inr (.inr (.inr (.inr (fun j => some (ad (j + 4 + 5)))))))) ::
  (ad 5, mLc (K.2.2.1 0)) :: (ad 6, mLc (K.2.2.1 1)) :: (ad 7, mLc (K.2.2.1 2)) :: (ad 8, mLc (K.2.2.1 3)) :: (ad 9, mLc (K.2.2.1 4)) :: (ad 10, mLc (K.2.2.1 5)) :: (ad 11, mLc (K.2.2.1 6)) :: (ad 12, mLc (K.2.2.1 7)) :: (ad 13, mLc (K.2.2.1 8)) :: rest
def mTy (cs : ClassId × ClassId × ClassId) : List (ClassId × FieldType) := [(cs.1, .int), (cs.2.1, .long), (cs.2.2, .object RX1)]
def mKL (K : mK) (d : Nat) (x : Int64 × Int32 × Int32) : mK := (K.1, K.2.1, fun j => if j = d then x else K.2.2.1 j, K.2.2.2)
theorem mWd_loc {ad : Nat → Nat} {cs : ClassId × ClassId × ClassId} {K : mK} {rest : va_W} {d : Nat} (hd : d < 9) : (mWd ad cs K rest)[d + 5]? = some (ad (d + 5), .inr (2, [.long (K.2.2.1 d).1, .int (K.2.2.1 d).2.1, .int (K.2.2.1 d).2.2])) := by
  rcases (show d = 0 ∨ d = 1 ∨ d = 2 ∨ d = 3 ∨ d = 4 ∨ d = 5 ∨ d = 6 ∨ d = 7 ∨ d = 8 by omega) with rfl | rfl | rfl | rfl | rfl | rfl | rfl | rfl | rfl <;> rfl
theorem mWd_set {ad : Nat → Nat} {cs : ClassId × ClassId × ClassId} {K : mK} {rest : va_W} {d : Nat} {s : Int64} {n o : Int32} (hd : d < 9) : (mWd ad cs K rest).set (d + 5) (ad (d + 5), .inr (2, [.long s, .int n, .int o])) = mWd ad cs (mKL K d (s, n, o)) rest := by
  rcases (show d = 0 ∨ d = 1 ∨ d = 2 ∨ d = 3 ∨ d = 4 ∨ d = 5 ∨ d = 6 ∨ d = 7 ∨ d = 8 by omega) with rfl | rfl | rfl | rfl | rfl | rfl | rfl | rfl | rfl <;> simp [mWd, mKL, mLc]
def mB (r : Int32) : Prop := r = 0 ∨ r = 1
theorem mB_n {r : Int32} (h : mB r) : narrow .boolean (.int r) = .int r := by rcases h with rfl | rfl <;> decide
def mRl (ws : va_W) : Option Value → va_W → Prop := fun v ws' => ∃ r : Int64, v = some (.long r) ∧ ws' = ws
abbrev mNo : String → va_W → Prop := fun _ _ => False
def xI : String := "java/lang/IndexOutOfBoundsException"
def xA : String := "java/lang/IllegalArgumentException"
/-- it threw one of these, and nothing was written -/
def mTh (es : List String) (ws : va_W) : String → va_W → Prop := fun E ws' => E ∈ es ∧ ws' = ws
def mlok (lv : List (Nat × Option Value)) : List (Nat × Option Value) → Prop
  | [] => True
  | (i, v) :: r => lget lv i = v ∧ mlok lv r
theorem mlok_to {lv : List (Nat × Option Value)} : ∀ {lv' : List (Nat × Option Value)}, mlok lv lv' → ∀ q ∈ lv', q.2 = none ∨ lget lv q.1 = q.2
  | [], _, q, hq => nomatch hq
  | (i, v) :: r, h, q, hq => by
    rcases List.mem_cons.mp hq with rfl | h2
    · exact Or.inr h.1
    · exact mlok_to h.2 q h2
theorem r_loc {X : mC} {pc : Nat} {lv lv' : List (Nat × Option Value)} {st : List Value} {ws : va_W} {k n k' n' : Nat} (h : mlok lv lv') (hk : k ≤ k') (hn : n ≤ n') (kk : mV X pc lv' st ws k' n') : mV X pc lv st ws k n := r_wide hk hn (r_lv (mlok_to h) kk)
theorem nI_inc' (j : Nat) : some (Value.int (nI j + Int32.ofInt 1)) = some (Value.int (nI (j + 1))) := by rw [← nI_1 j]; rfl
section MW
variable {X : mC} {own : String} {cc : ByteArray} {nL : Nat} {R : Room} {hh : List (Nat × Nat × Nat × Nat)} {tys : List (ClassId × FieldType)} {pc : Nat} {lv : List (Nat × Option Value)} {st : List Value} {ws : va_W} {k n : Nat}
variable {Φ : Option Value → va_W → Prop} {Ψ : String → va_W → Prop} {mc ms : Nat} {ret : Option FieldType}

theorem r_ixor {x y : Int32} (hX : mOK X own cc nL R hh tys) (hd : decode cc pc = .ok (.ixor, 1)) (kk : mV X (pc + 1) lv (.int (x ^^^ y) :: st) ws k n) : mV X pc lv (.int y :: .int x :: st) ws k n := by
  obtain ⟨p, l, e, R', s, m, args, below, meth, c, Q, D, tys', A⟩ := X
  obtain ⟨hx, hb, hml, hR, hown, hts, hK, hty, hlk, hA, hst, hlt, htab⟩ := hX
  exact fun H locs ls hP hD hS hl => lv_ixor hx hb hd (kk H locs ls hP hD hS hl)

theorem r_lxor {x y : Int64} (hX : mOK X own cc nL R hh tys) (hd : decode cc pc = .ok (.lxor, 1)) (kk : mV X (pc + 1) lv (.long (x ^^^ y) :: st) ws k n) : mV X pc lv (.long y :: .long x :: st) ws k n := by
  obtain ⟨p, l, e, R', s, m, args, below, meth, c, Q, D, tys', A⟩ := X
  obtain ⟨hx, hb, hml, hR, hown, hts, hK, hty, hlk, hA, hst, hlt, htab⟩ := hX
  exact fun H locs ls hP hD hS hl => lv_lxor hx hb hd (kk H locs ls hP hD hS hl)

theorem mMet {l : Launch} {y : MethodName} {ws : List Cond} {rm : Room} {Pc : Array Value → State → Prop} {Qc : Array Value → State → Outcome → State → Prop} {XC : String → State → State → Prop} {mc ms : Nat} {free : Addr → Prop} (h : vx_Met l y ws rm Pc Qc XC mc ms free) (hx : ∀ E st t, ¬ XC E st t) : Met l y ws rm Pc Qc mc ms free := by
  intro p e ha hc hk s m args below hf happ hP hK
  obtain ⟨n, o, h1, h2, h3, h4⟩ := h p e ha hc hk s m args below hf happ hP hK
  rcases h4 with h4 | ⟨q, rfl, E, ce, L, hx', -⟩
  · exact ⟨n, o, h1, h2, h3, h4⟩
  · exact absurd hx' (hx _ _ _)
theorem r_callN {host : String} {y : MethodName} {b : ByteArray} {nL2 idx cnt : Nat} {ret2 : Option FieldType} {rm : Room} {as rest : List Value} {Φ2 : Option Value → va_W → Prop} (hX : mOK X own cc nL R hh tys) (hc : mCt tys y b nL2 ret2 rm as ws Φ2 mNo) (hw : mWN own host idx y b nL2 ret2 cnt) (hst0 : st = as.reverse ++ rest) (hlen : as.length = cnt) (hro : (rest.map fun v => v.category).sum ≤ 8) (hrm : rm.frames + 1 ≤ R.frames ∧ 8 + (nL2 + 11) + rm.locals ≤ R.locals) (hce : k + rm.cells ≤ R.cells ∧ n + rm.slots ≤ R.slots) (hd : decode cc pc = .ok (.invokestatic idx, 3)) (kx : String → va_W → False → False) (kk : ∀ v ws', Φ2 v ws' → mV X (pc + 3) lv (mPush v rest) ws' (k + rm.cells) (n + rm.slots)) : mV X pc lv st ws k n := by
  obtain ⟨p, l, e, R', s, m, args, below, meth, c, Q, D, tys', A⟩ := X
  obtain ⟨hx, hb, hml, hR, hown, hts, hK, hty, hlk, hA, hst, hlt, htab⟩ := hX
  obtain ⟨w1, w2, w3, w4, w5, w6⟩ := hw
  subst hR
  intro H locs ls hP hD hS hl
  have hrun := va_runSN (own := own) (host := host) (index := idx) (cells := k) (slots := n) (locs := locs) (e := e) (below := below) (meth := meth) (rest := rest) (g := F0 m pc ls st) ⟨hx, hb, hml, hown, hts⟩ (mMet (hc l D A hlt) (fun E st t h => by obtain ⟨_, h, _⟩ := h; exact h)) ⟨⟨⟨rfl, rfl, hrm.1, hrm.2, mWords hts w4, List.mem_cons_self⟩, hts _ w4, hts _ w3, w5, mCount w6, hts _ w1⟩, hts _ w2, trivial⟩ ⟨mU_blind, fun U hU hW => ⟨rfl, mU_at hP hD hS hK hA hst hU hW⟩⟩ rfl hlen (hl.1.trans hml) hst0 (lv_room hro) hd hce
  intro T hT Y
  obtain ⟨v, st₀, t, T', L, h0, Y', hL, e1, e2, ⟨v', ws', hv, hp, hP', hD', hF⟩, stp⟩ := hrun T hT Y
  cases hv
  obtain ⟨-, -, k3⟩ := vx_keep h0 e1 hS (fun _ _ h => h) (fun _ h => h) hL hF
  obtain ⟨t2, a1, b1⟩ := kk v ws' hp T'.heap (locs ++ L) ls (by rw [e1]; exact hP') hD' k3 hl T' rfl Y'
  rw [← mPush_eq] at a1
  exact ⟨t2, stp t2 a1, b1⟩
end MW
end
-- 06 cls6
section
/-! The class, its contracts (rows by a program of this repository). -/
theorem dJ9_floorDiv_f86c9_v0 : (cJ9_floorDiv_f86c9.data.toList.drop 0).take 16 = [30, 32, 109, 55, 4, 30, 32, 131, 9, 148, 156, 0, 17, 22, 4, 32] := by decide +kernel
theorem dJ9_floorDiv_f86c9_v1 : (cJ9_floorDiv_f86c9.data.toList.drop 16).take 16 = [105, 30, 148, 153, 0, 8, 22, 4, 10, 101, 173, 22, 4, 173] := by decide +kernel
theorem dJ9_floorDiv_f86c9_0 : decode cJ9_floorDiv_f86c9 0 = .ok (.lload_n 0, 1) := dk_30 (dq_lk dJ9_floorDiv_f86c9_v0 (r := 0) (x := 30) rfl)
theorem dJ9_floorDiv_f86c9_1 : decode cJ9_floorDiv_f86c9 1 = .ok (.lload_n 2, 1) := dk_32 (dq_lk dJ9_floorDiv_f86c9_v0 (r := 1) (x := 32) rfl)
theorem dJ9_floorDiv_f86c9_2 : decode cJ9_floorDiv_f86c9 2 = .ok (.ldiv, 1) := dk_109 (dq_lk dJ9_floorDiv_f86c9_v0 (r := 2) (x := 109) rfl)
theorem dJ9_floorDiv_f86c9_3 : decode cJ9_floorDiv_f86c9 3 = .ok (.lstore 4, 2) := dk_55 (dq_lk dJ9_floorDiv_f86c9_v0 (r := 3) (x := 55) rfl) (dq_lk dJ9_floorDiv_f86c9_v0 (r := 4) (x := 4) rfl)
theorem dJ9_floorDiv_f86c9_5 : decode cJ9_floorDiv_f86c9 5 = .ok (.lload_n 0, 1) := dk_30 (dq_lk dJ9_floorDiv_f86c9_v0 (r := 5) (x := 30) rfl)
theorem dJ9_floorDiv_f86c9_6 : decode cJ9_floorDiv_f86c9 6 = .ok (.lload_n 2, 1) := dk_32 (dq_lk dJ9_floorDiv_f86c9_v0 (r := 6) (x := 32) rfl)
theorem dJ9_floorDiv_f86c9_7 : decode cJ9_floorDiv_f86c9 7 = .ok (.lxor, 1) := dk_131 (dq_lk dJ9_floorDiv_f86c9_v0 (r := 7) (x := 131) rfl)
theorem dJ9_floorDiv_f86c9_8 : decode cJ9_floorDiv_f86c9 8 = .ok (.lconst 0, 1) := dk_9 (dq_lk dJ9_floorDiv_f86c9_v0 (r := 8) (x := 9) rfl)
theorem dJ9_floorDiv_f86c9_9 : decode cJ9_floorDiv_f86c9 9 = .ok (.lcmp, 1) := dk_148 (dq_lk dJ9_floorDiv_f86c9_v0 (r := 9) (x := 148) rfl)
theorem dJ9_floorDiv_f86c9_10 : decode cJ9_floorDiv_f86c9 10 = .ok (.ifCond .ge 17, 3) := dk_156 (dq_lk dJ9_floorDiv_f86c9_v0 (r := 10) (x := 156) rfl) (dq_lk dJ9_floorDiv_f86c9_v0 (r := 11) (x := 0) rfl) (dq_lk dJ9_floorDiv_f86c9_v0 (r := 12) (x := 17) rfl) (by decide +kernel)
theorem dJ9_floorDiv_f86c9_13 : decode cJ9_floorDiv_f86c9 13 = .ok (.lload 4, 2) := dk_22 (dq_lk dJ9_floorDiv_f86c9_v0 (r := 13) (x := 22) rfl) (dq_lk dJ9_floorDiv_f86c9_v0 (r := 14) (x := 4) rfl)
theorem dJ9_floorDiv_f86c9_15 : decode cJ9_floorDiv_f86c9 15 = .ok (.lload_n 2, 1) := dk_32 (dq_lk dJ9_floorDiv_f86c9_v0 (r := 15) (x := 32) rfl)
theorem dJ9_floorDiv_f86c9_16 : decode cJ9_floorDiv_f86c9 16 = .ok (.lmul, 1) := dk_105 (dq_lk dJ9_floorDiv_f86c9_v1 (r := 0) (x := 105) rfl)
theorem dJ9_floorDiv_f86c9_17 : decode cJ9_floorDiv_f86c9 17 = .ok (.lload_n 0, 1) := dk_30 (dq_lk dJ9_floorDiv_f86c9_v1 (r := 1) (x := 30) rfl)
theorem dJ9_floorDiv_f86c9_18 : decode cJ9_floorDiv_f86c9 18 = .ok (.lcmp, 1) := dk_148 (dq_lk dJ9_floorDiv_f86c9_v1 (r := 2) (x := 148) rfl)
theorem dJ9_floorDiv_f86c9_19 : decode cJ9_floorDiv_f86c9 19 = .ok (.ifCond .eq 8, 3) := dk_153 (dq_lk dJ9_floorDiv_f86c9_v1 (r := 3) (x := 153) rfl) (dq_lk dJ9_floorDiv_f86c9_v1 (r := 4) (x := 0) rfl) (dq_lk dJ9_floorDiv_f86c9_v1 (r := 5) (x := 8) rfl) (by decide +kernel)
theorem dJ9_floorDiv_f86c9_22 : decode cJ9_floorDiv_f86c9 22 = .ok (.lload 4, 2) := dk_22 (dq_lk dJ9_floorDiv_f86c9_v1 (r := 6) (x := 22) rfl) (dq_lk dJ9_floorDiv_f86c9_v1 (r := 7) (x := 4) rfl)
theorem dJ9_floorDiv_f86c9_24 : decode cJ9_floorDiv_f86c9 24 = .ok (.lconst 1, 1) := dk_10 (dq_lk dJ9_floorDiv_f86c9_v1 (r := 8) (x := 10) rfl)
theorem dJ9_floorDiv_f86c9_25 : decode cJ9_floorDiv_f86c9 25 = .ok (.lsub, 1) := dk_101 (dq_lk dJ9_floorDiv_f86c9_v1 (r := 9) (x := 101) rfl)
theorem dJ9_floorDiv_f86c9_26 : decode cJ9_floorDiv_f86c9 26 = .ok (.lreturn, 1) := dk_173 (dq_lk dJ9_floorDiv_f86c9_v1 (r := 10) (x := 173) rfl)
theorem dJ9_floorDiv_f86c9_27 : decode cJ9_floorDiv_f86c9 27 = .ok (.lload 4, 2) := dk_22 (dq_lk dJ9_floorDiv_f86c9_v1 (r := 11) (x := 22) rfl) (dq_lk dJ9_floorDiv_f86c9_v1 (r := 12) (x := 4) rfl)
theorem dJ9_floorDiv_f86c9_29 : decode cJ9_floorDiv_f86c9 29 = .ok (.lreturn, 1) := dk_173 (dq_lk dJ9_floorDiv_f86c9_v1 (r := 13) (x := 173) rfl)
set_option maxHeartbeats 4000000 in
set_option maxRecDepth 20000 in
theorem c_J9_floorDiv_f86c9 (tys : List (ClassId × FieldType)) (ws : va_W) (p0 : Int64) (p1 : Int64) (h0 : ¬ p1 = 0) : mCt tys yJ9_floorDiv_f86c9 cJ9_floorDiv_f86c9 6 (some .long) ⟨0, 0, 0, 0⟩ [.long p0, .long p1] ws (mRl ws) mNo := by
  refine mCt.of (by decide +kernel) (Nat.le_of_ble_eq_true rfl) (fun X hX hE => ?_)
  have hX : mOK X RJ9 cJ9_floorDiv_f86c9 6 ⟨0, 0, 0, 0⟩ [] tys := hX
  refine r_lload_n hX dJ9_floorDiv_f86c9_0 rfl rfl (r_lload_n hX dJ9_floorDiv_f86c9_1 rfl rfl (r_ldiv hX dJ9_floorDiv_f86c9_2 (by first | decide | assumption) (r_lstore hX dJ9_floorDiv_f86c9_3 (by decide) rfl (r_lload_n hX dJ9_floorDiv_f86c9_5 rfl rfl (r_lload_n hX dJ9_floorDiv_f86c9_6 rfl rfl (r_lxor hX dJ9_floorDiv_f86c9_7 (r_lconst (v := 0) hX dJ9_floorDiv_f86c9_8 (by decide) ?_)))))))
  refine r_lcmp hX dJ9_floorDiv_f86c9_9 (r_if_ge (tgt := 27) hX dJ9_floorDiv_f86c9_10 (by decide) (fun c1 => ?_) (fun c1 => ?_))
  · refine r_lload hX dJ9_floorDiv_f86c9_27 rfl ?_
    exact r_lret hX hE dJ9_floorDiv_f86c9_29 (Nat.le_of_ble_eq_true rfl) (Nat.le_of_ble_eq_true rfl) ⟨_, rfl, rfl⟩
  · refine r_lload hX dJ9_floorDiv_f86c9_13 rfl (r_lload_n hX dJ9_floorDiv_f86c9_15 rfl rfl (r_lmul hX dJ9_floorDiv_f86c9_16 (r_lload_n hX dJ9_floorDiv_f86c9_17 rfl rfl (r_lcmp hX dJ9_floorDiv_f86c9_18 (r_if_eq (tgt := 27) hX dJ9_floorDiv_f86c9_19 (by decide) (fun c2 => ?_) (fun c2 => ?_))))))
    · refine r_lload hX dJ9_floorDiv_f86c9_27 rfl ?_
      exact r_lret hX hE dJ9_floorDiv_f86c9_29 (Nat.le_of_ble_eq_true rfl) (Nat.le_of_ble_eq_true rfl) ⟨_, rfl, rfl⟩
    · refine r_lload hX dJ9_floorDiv_f86c9_22 rfl (r_lconst (v := 1) hX dJ9_floorDiv_f86c9_24 (by decide) (r_lsub hX dJ9_floorDiv_f86c9_25 ?_))
      exact r_lret hX hE dJ9_floorDiv_f86c9_26 (Nat.le_of_ble_eq_true rfl) (Nat.le_of_ble_eq_true rfl) ⟨_, rfl, rfl⟩
theorem dJ9_floorMod_f86c9_v0 : (cJ9_floorMod_f86c9.data.toList.drop 0).take 16 = [30, 32, 113, 55, 4, 30, 32, 131, 9, 148, 156, 0, 15, 22, 4, 9] := by decide +kernel
theorem dJ9_floorMod_f86c9_v1 : (cJ9_floorMod_f86c9.data.toList.drop 16).take 16 = [148, 153, 0, 8, 22, 4, 32, 97, 173, 22, 4, 173] := by decide +kernel
theorem dJ9_floorMod_f86c9_0 : decode cJ9_floorMod_f86c9 0 = .ok (.lload_n 0, 1) := dk_30 (dq_lk dJ9_floorMod_f86c9_v0 (r := 0) (x := 30) rfl)
theorem dJ9_floorMod_f86c9_1 : decode cJ9_floorMod_f86c9 1 = .ok (.lload_n 2, 1) := dk_32 (dq_lk dJ9_floorMod_f86c9_v0 (r := 1) (x := 32) rfl)
theorem dJ9_floorMod_f86c9_2 : decode cJ9_floorMod_f86c9 2 = .ok (.lrem, 1) := dk_113 (dq_lk dJ9_floorMod_f86c9_v0 (r := 2) (x := 113) rfl)
theorem dJ9_floorMod_f86c9_3 : decode cJ9_floorMod_f86c9 3 = .ok (.lstore 4, 2) := dk_55 (dq_lk dJ9_floorMod_f86c9_v0 (r := 3) (x := 55) rfl) (dq_lk dJ9_floorMod_f86c9_v0 (r := 4) (x := 4) rfl)
theorem dJ9_floorMod_f86c9_5 : decode cJ9_floorMod_f86c9 5 = .ok (.lload_n 0, 1) := dk_30 (dq_lk dJ9_floorMod_f86c9_v0 (r := 5) (x := 30) rfl)
theorem dJ9_floorMod_f86c9_6 : decode cJ9_floorMod_f86c9 6 = .ok (.lload_n 2, 1) := dk_32 (dq_lk dJ9_floorMod_f86c9_v0 (r := 6) (x := 32) rfl)
theorem dJ9_floorMod_f86c9_7 : decode cJ9_floorMod_f86c9 7 = .ok (.lxor, 1) := dk_131 (dq_lk dJ9_floorMod_f86c9_v0 (r := 7) (x := 131) rfl)
theorem dJ9_floorMod_f86c9_8 : decode cJ9_floorMod_f86c9 8 = .ok (.lconst 0, 1) := dk_9 (dq_lk dJ9_floorMod_f86c9_v0 (r := 8) (x := 9) rfl)
theorem dJ9_floorMod_f86c9_9 : decode cJ9_floorMod_f86c9 9 = .ok (.lcmp, 1) := dk_148 (dq_lk dJ9_floorMod_f86c9_v0 (r := 9) (x := 148) rfl)
theorem dJ9_floorMod_f86c9_10 : decode cJ9_floorMod_f86c9 10 = .ok (.ifCond .ge 15, 3) := dk_156 (dq_lk dJ9_floorMod_f86c9_v0 (r := 10) (x := 156) rfl) (dq_lk dJ9_floorMod_f86c9_v0 (r := 11) (x := 0) rfl) (dq_lk dJ9_floorMod_f86c9_v0 (r := 12) (x := 15) rfl) (by decide +kernel)
theorem dJ9_floorMod_f86c9_13 : decode cJ9_floorMod_f86c9 13 = .ok (.lload 4, 2) := dk_22 (dq_lk dJ9_floorMod_f86c9_v0 (r := 13) (x := 22) rfl) (dq_lk dJ9_floorMod_f86c9_v0 (r := 14) (x := 4) rfl)
theorem dJ9_floorMod_f86c9_15 : decode cJ9_floorMod_f86c9 15 = .ok (.lconst 0, 1) := dk_9 (dq_lk dJ9_floorMod_f86c9_v0 (r := 15) (x := 9) rfl)
theorem dJ9_floorMod_f86c9_16 : decode cJ9_floorMod_f86c9 16 = .ok (.lcmp, 1) := dk_148 (dq_lk dJ9_floorMod_f86c9_v1 (r := 0) (x := 148) rfl)
theorem dJ9_floorMod_f86c9_17 : decode cJ9_floorMod_f86c9 17 = .ok (.ifCond .eq 8, 3) := dk_153 (dq_lk dJ9_floorMod_f86c9_v1 (r := 1) (x := 153) rfl) (dq_lk dJ9_floorMod_f86c9_v1 (r := 2) (x := 0) rfl) (dq_lk dJ9_floorMod_f86c9_v1 (r := 3) (x := 8) rfl) (by decide +kernel)
theorem dJ9_floorMod_f86c9_20 : decode cJ9_floorMod_f86c9 20 = .ok (.lload 4, 2) := dk_22 (dq_lk dJ9_floorMod_f86c9_v1 (r := 4) (x := 22) rfl) (dq_lk dJ9_floorMod_f86c9_v1 (r := 5) (x := 4) rfl)
theorem dJ9_floorMod_f86c9_22 : decode cJ9_floorMod_f86c9 22 = .ok (.lload_n 2, 1) := dk_32 (dq_lk dJ9_floorMod_f86c9_v1 (r := 6) (x := 32) rfl)
theorem dJ9_floorMod_f86c9_23 : decode cJ9_floorMod_f86c9 23 = .ok (.ladd, 1) := dk_97 (dq_lk dJ9_floorMod_f86c9_v1 (r := 7) (x := 97) rfl)
theorem dJ9_floorMod_f86c9_24 : decode cJ9_floorMod_f86c9 24 = .ok (.lreturn, 1) := dk_173 (dq_lk dJ9_floorMod_f86c9_v1 (r := 8) (x := 173) rfl)
theorem dJ9_floorMod_f86c9_25 : decode cJ9_floorMod_f86c9 25 = .ok (.lload 4, 2) := dk_22 (dq_lk dJ9_floorMod_f86c9_v1 (r := 9) (x := 22) rfl) (dq_lk dJ9_floorMod_f86c9_v1 (r := 10) (x := 4) rfl)
theorem dJ9_floorMod_f86c9_27 : decode cJ9_floorMod_f86c9 27 = .ok (.lreturn, 1) := dk_173 (dq_lk dJ9_floorMod_f86c9_v1 (r := 11) (x := 173) rfl)
theorem dJ9_floorMod_7cf53_v0 : (cJ9_floorMod_7cf53.data.toList.drop 0).take 16 = [26, 27, 112, 61, 26, 27, 130, 156, 0, 11, 28, 153, 0, 7, 28, 27] := by decide +kernel
theorem dJ9_floorMod_7cf53_v1 : (cJ9_floorMod_7cf53.data.toList.drop 16).take 16 = [96, 172, 28, 172] := by decide +kernel
theorem dJ9_floorMod_7cf53_0 : decode cJ9_floorMod_7cf53 0 = .ok (.iload_n 0, 1) := dk_26 (dq_lk dJ9_floorMod_7cf53_v0 (r := 0) (x := 26) rfl)
theorem dJ9_floorMod_7cf53_1 : decode cJ9_floorMod_7cf53 1 = .ok (.iload_n 1, 1) := dk_27 (dq_lk dJ9_floorMod_7cf53_v0 (r := 1) (x := 27) rfl)
theorem dJ9_floorMod_7cf53_2 : decode cJ9_floorMod_7cf53 2 = .ok (.irem, 1) := dk_112 (dq_lk dJ9_floorMod_7cf53_v0 (r := 2) (x := 112) rfl)
theorem dJ9_floorMod_7cf53_3 : decode cJ9_floorMod_7cf53 3 = .ok (.istore_n 2, 1) := dk_61 (dq_lk dJ9_floorMod_7cf53_v0 (r := 3) (x := 61) rfl)
theorem dJ9_floorMod_7cf53_4 : decode cJ9_floorMod_7cf53 4 = .ok (.iload_n 0, 1) := dk_26 (dq_lk dJ9_floorMod_7cf53_v0 (r := 4) (x := 26) rfl)
theorem dJ9_floorMod_7cf53_5 : decode cJ9_floorMod_7cf53 5 = .ok (.iload_n 1, 1) := dk_27 (dq_lk dJ9_floorMod_7cf53_v0 (r := 5) (x := 27) rfl)
theorem dJ9_floorMod_7cf53_6 : decode cJ9_floorMod_7cf53 6 = .ok (.ixor, 1) := dk_130 (dq_lk dJ9_floorMod_7cf53_v0 (r := 6) (x := 130) rfl)
theorem dJ9_floorMod_7cf53_7 : decode cJ9_floorMod_7cf53 7 = .ok (.ifCond .ge 11, 3) := dk_156 (dq_lk dJ9_floorMod_7cf53_v0 (r := 7) (x := 156) rfl) (dq_lk dJ9_floorMod_7cf53_v0 (r := 8) (x := 0) rfl) (dq_lk dJ9_floorMod_7cf53_v0 (r := 9) (x := 11) rfl) (by decide +kernel)
theorem dJ9_floorMod_7cf53_10 : decode cJ9_floorMod_7cf53 10 = .ok (.iload_n 2, 1) := dk_28 (dq_lk dJ9_floorMod_7cf53_v0 (r := 10) (x := 28) rfl)
theorem dJ9_floorMod_7cf53_11 : decode cJ9_floorMod_7cf53 11 = .ok (.ifCond .eq 7, 3) := dk_153 (dq_lk dJ9_floorMod_7cf53_v0 (r := 11) (x := 153) rfl) (dq_lk dJ9_floorMod_7cf53_v0 (r := 12) (x := 0) rfl) (dq_lk dJ9_floorMod_7cf53_v0 (r := 13) (x := 7) rfl) (by decide +kernel)
theorem dJ9_floorMod_7cf53_14 : decode cJ9_floorMod_7cf53 14 = .ok (.iload_n 2, 1) := dk_28 (dq_lk dJ9_floorMod_7cf53_v0 (r := 14) (x := 28) rfl)
theorem dJ9_floorMod_7cf53_15 : decode cJ9_floorMod_7cf53 15 = .ok (.iload_n 1, 1) := dk_27 (dq_lk dJ9_floorMod_7cf53_v0 (r := 15) (x := 27) rfl)
theorem dJ9_floorMod_7cf53_16 : decode cJ9_floorMod_7cf53 16 = .ok (.iadd, 1) := dk_96 (dq_lk dJ9_floorMod_7cf53_v1 (r := 0) (x := 96) rfl)
theorem dJ9_floorMod_7cf53_17 : decode cJ9_floorMod_7cf53 17 = .ok (.ireturn, 1) := dk_172 (dq_lk dJ9_floorMod_7cf53_v1 (r := 1) (x := 172) rfl)
theorem dJ9_floorMod_7cf53_18 : decode cJ9_floorMod_7cf53 18 = .ok (.iload_n 2, 1) := dk_28 (dq_lk dJ9_floorMod_7cf53_v1 (r := 2) (x := 28) rfl)
theorem dJ9_floorMod_7cf53_19 : decode cJ9_floorMod_7cf53 19 = .ok (.ireturn, 1) := dk_172 (dq_lk dJ9_floorMod_7cf53_v1 (r := 3) (x := 172) rfl)
theorem dJ9_min_7cf53_v0 : (cJ9_min_7cf53.data.toList.drop 0).take 16 = [26, 27, 163, 0, 7, 26, 167, 0, 4, 27, 172] := by decide +kernel
theorem dJ9_min_7cf53_0 : decode cJ9_min_7cf53 0 = .ok (.iload_n 0, 1) := dk_26 (dq_lk dJ9_min_7cf53_v0 (r := 0) (x := 26) rfl)
theorem dJ9_min_7cf53_1 : decode cJ9_min_7cf53 1 = .ok (.iload_n 1, 1) := dk_27 (dq_lk dJ9_min_7cf53_v0 (r := 1) (x := 27) rfl)
theorem dJ9_min_7cf53_2 : decode cJ9_min_7cf53 2 = .ok (.if_icmp .gt 7, 3) := dk_163 (dq_lk dJ9_min_7cf53_v0 (r := 2) (x := 163) rfl) (dq_lk dJ9_min_7cf53_v0 (r := 3) (x := 0) rfl) (dq_lk dJ9_min_7cf53_v0 (r := 4) (x := 7) rfl) (by decide +kernel)
theorem dJ9_min_7cf53_5 : decode cJ9_min_7cf53 5 = .ok (.iload_n 0, 1) := dk_26 (dq_lk dJ9_min_7cf53_v0 (r := 5) (x := 26) rfl)
theorem dJ9_min_7cf53_6 : decode cJ9_min_7cf53 6 = .ok (.goto 4, 3) := dk_167 (dq_lk dJ9_min_7cf53_v0 (r := 6) (x := 167) rfl) (dq_lk dJ9_min_7cf53_v0 (r := 7) (x := 0) rfl) (dq_lk dJ9_min_7cf53_v0 (r := 8) (x := 4) rfl) (by decide +kernel)
theorem dJ9_min_7cf53_9 : decode cJ9_min_7cf53 9 = .ok (.iload_n 1, 1) := dk_27 (dq_lk dJ9_min_7cf53_v0 (r := 9) (x := 27) rfl)
theorem dJ9_min_7cf53_10 : decode cJ9_min_7cf53 10 = .ok (.ireturn, 1) := dk_172 (dq_lk dJ9_min_7cf53_v0 (r := 10) (x := 172) rfl)
theorem dX2_isWithin_v0 : (cX2_isWithin.data.toList.drop 0).take 16 = [30, 32, 148, 155, 0, 14, 30, 22, 4, 148, 157, 0, 7, 4, 167, 0] := by decide +kernel
theorem dX2_isWithin_v1 : (cX2_isWithin.data.toList.drop 16).take 16 = [4, 3, 172] := by decide +kernel
theorem dX2_isWithin_0 : decode cX2_isWithin 0 = .ok (.lload_n 0, 1) := dk_30 (dq_lk dX2_isWithin_v0 (r := 0) (x := 30) rfl)
theorem dX2_isWithin_1 : decode cX2_isWithin 1 = .ok (.lload_n 2, 1) := dk_32 (dq_lk dX2_isWithin_v0 (r := 1) (x := 32) rfl)
theorem dX2_isWithin_2 : decode cX2_isWithin 2 = .ok (.lcmp, 1) := dk_148 (dq_lk dX2_isWithin_v0 (r := 2) (x := 148) rfl)
theorem dX2_isWithin_3 : decode cX2_isWithin 3 = .ok (.ifCond .lt 14, 3) := dk_155 (dq_lk dX2_isWithin_v0 (r := 3) (x := 155) rfl) (dq_lk dX2_isWithin_v0 (r := 4) (x := 0) rfl) (dq_lk dX2_isWithin_v0 (r := 5) (x := 14) rfl) (by decide +kernel)
theorem dX2_isWithin_6 : decode cX2_isWithin 6 = .ok (.lload_n 0, 1) := dk_30 (dq_lk dX2_isWithin_v0 (r := 6) (x := 30) rfl)
theorem dX2_isWithin_7 : decode cX2_isWithin 7 = .ok (.lload 4, 2) := dk_22 (dq_lk dX2_isWithin_v0 (r := 7) (x := 22) rfl) (dq_lk dX2_isWithin_v0 (r := 8) (x := 4) rfl)
theorem dX2_isWithin_9 : decode cX2_isWithin 9 = .ok (.lcmp, 1) := dk_148 (dq_lk dX2_isWithin_v0 (r := 9) (x := 148) rfl)
theorem dX2_isWithin_10 : decode cX2_isWithin 10 = .ok (.ifCond .gt 7, 3) := dk_157 (dq_lk dX2_isWithin_v0 (r := 10) (x := 157) rfl) (dq_lk dX2_isWithin_v0 (r := 11) (x := 0) rfl) (dq_lk dX2_isWithin_v0 (r := 12) (x := 7) rfl) (by decide +kernel)
theorem dX2_isWithin_13 : decode cX2_isWithin 13 = .ok (.iconst 1, 1) := dk_4 (dq_lk dX2_isWithin_v0 (r := 13) (x := 4) rfl)
theorem dX2_isWithin_14 : decode cX2_isWithin 14 = .ok (.goto 4, 3) := dk_167 (dq_lk dX2_isWithin_v0 (r := 14) (x := 167) rfl) (dq_lk dX2_isWithin_v0 (r := 15) (x := 0) rfl) (dq_lk dX2_isWithin_v1 (r := 0) (x := 4) rfl) (by decide +kernel)
theorem dX2_isWithin_17 : decode cX2_isWithin 17 = .ok (.iconst 0, 1) := dk_3 (dq_lk dX2_isWithin_v1 (r := 1) (x := 3) rfl)
theorem dX2_isWithin_18 : decode cX2_isWithin 18 = .ok (.ireturn, 1) := dk_172 (dq_lk dX2_isWithin_v1 (r := 2) (x := 172) rfl)
theorem lg_lt {x y : Int64} : lg_cmp x y < 0 ↔ x < y := by
  unfold lg_cmp
  by_cases h1 : y < x
  · have h2 : ¬ x < y := Int64.lt_asymm h1
    simp [h1, h2]
  · by_cases h2 : x = y
    · subst h2
      simp [h1]
    · have h3 : x < y := by
        rcases Int64.lt_or_le x y with h | h
        · exact h
        · exact absurd (Int64.le_antisymm (Int64.not_lt.mp h1) h) h2
      simp [h1, h2, h3]
theorem lg_gt {x y : Int64} : 0 < lg_cmp x y ↔ y < x := by
  unfold lg_cmp
  by_cases h1 : y < x
  · simp [h1]
  · by_cases h2 : x = y
    · simp [h2]
    · simp [h1, h2]
def f_isWithin (x a b : Int64) : Int32 := if a ≤ x ∧ x ≤ b then 1 else 0
theorem c_X2_isWithin (tys : List (ClassId × FieldType)) (ws : va_W) (p0 p1 p2 : Int64) : mCt tys yX2_isWithin cX2_isWithin 6 (some .boolean) ⟨0, 0, 0, 0⟩ [.long p0, .long p1, .long p2] ws (fun v ws' => v = some (.int (f_isWithin p0 p1 p2)) ∧ ws' = ws) mNo := by
  refine mCt.of (by decide +kernel) (Nat.le_of_ble_eq_true rfl) (fun X hX hE => ?_)
  have hX : mOK X RX2 cX2_isWithin 6 ⟨0, 0, 0, 0⟩ [] tys := hX
  refine r_lload_n hX dX2_isWithin_0 rfl rfl (r_lload_n hX dX2_isWithin_1 rfl rfl (r_lcmp hX dX2_isWithin_2 (r_if_lt (tgt := 17) hX dX2_isWithin_3 (by decide) (fun c1 => ?_) (fun c1 => ?_))))
  · refine r_iconst (v := 0) hX dX2_isWithin_17 (by decide) (r_zret hX hE dX2_isWithin_18 (by decide) (Nat.le_of_ble_eq_true rfl) (Nat.le_of_ble_eq_true rfl) ⟨?_, rfl⟩)
    have h1 : ¬ p1 ≤ p0 := Int64.not_le.mpr (lg_lt.mp c1)
    simp [f_isWithin, h1]
  · have h1 : p1 ≤ p0 := Int64.not_lt.mp (fun h => c1 (lg_lt.mpr h))
    refine r_lload_n hX dX2_isWithin_6 rfl rfl (r_lload hX dX2_isWithin_7 rfl (r_lcmp hX dX2_isWithin_9 (r_if_gt (tgt := 17) hX dX2_isWithin_10 (by decide) (fun c2 => ?_) (fun c2 => ?_))))
    · refine r_iconst (v := 0) hX dX2_isWithin_17 (by decide) (r_zret hX hE dX2_isWithin_18 (by decide) (Nat.le_of_ble_eq_true rfl) (Nat.le_of_ble_eq_true rfl) ⟨?_, rfl⟩)
      have h2 : ¬ p0 ≤ p2 := Int64.not_le.mpr (lg_gt.mp c2)
      simp [f_isWithin, h2]
    · have h2 : p0 ≤ p2 := Int64.not_lt.mp (fun h => c2 (lg_gt.mpr h))
      refine r_iconst (v := 1) hX dX2_isWithin_13 (by decide) (r_goto (tgt := 18) hX dX2_isWithin_14 (by decide) (r_zret hX hE dX2_isWithin_18 (by decide) (Nat.le_of_ble_eq_true rfl) (Nat.le_of_ble_eq_true rfl) ⟨?_, rfl⟩))
      simp [f_isWithin, h1, h2]
theorem dX2_requireOne_v0 : (cX2_requireOne.data.toList.drop 0).take 16 = [26, 155, 0, 8, 26, 27, 161, 0, 13, 187, 0, 250, 89, 18, 252, 183] := by decide +kernel
theorem dX2_requireOne_v1 : (cX2_requireOne.data.toList.drop 16).take 16 = [0, 254, 191, 177] := by decide +kernel
theorem dX2_requireOne_0 : decode cX2_requireOne 0 = .ok (.iload_n 0, 1) := dk_26 (dq_lk dX2_requireOne_v0 (r := 0) (x := 26) rfl)
theorem dX2_requireOne_1 : decode cX2_requireOne 1 = .ok (.ifCond .lt 8, 3) := dk_155 (dq_lk dX2_requireOne_v0 (r := 1) (x := 155) rfl) (dq_lk dX2_requireOne_v0 (r := 2) (x := 0) rfl) (dq_lk dX2_requireOne_v0 (r := 3) (x := 8) rfl) (by decide +kernel)
theorem dX2_requireOne_4 : decode cX2_requireOne 4 = .ok (.iload_n 0, 1) := dk_26 (dq_lk dX2_requireOne_v0 (r := 4) (x := 26) rfl)
theorem dX2_requireOne_5 : decode cX2_requireOne 5 = .ok (.iload_n 1, 1) := dk_27 (dq_lk dX2_requireOne_v0 (r := 5) (x := 27) rfl)
theorem dX2_requireOne_6 : decode cX2_requireOne 6 = .ok (.if_icmp .lt 13, 3) := dk_161 (dq_lk dX2_requireOne_v0 (r := 6) (x := 161) rfl) (dq_lk dX2_requireOne_v0 (r := 7) (x := 0) rfl) (dq_lk dX2_requireOne_v0 (r := 8) (x := 13) rfl) (by decide +kernel)
theorem dX2_requireOne_9 : decode cX2_requireOne 9 = .ok (.new 250, 3) := dk_187 (dq_lk dX2_requireOne_v0 (r := 9) (x := 187) rfl) (dq_lk dX2_requireOne_v0 (r := 10) (x := 0) rfl) (dq_lk dX2_requireOne_v0 (r := 11) (x := 250) rfl)
theorem dX2_requireOne_12 : decode cX2_requireOne 12 = .ok (.dup, 1) := dk_89 (dq_lk dX2_requireOne_v0 (r := 12) (x := 89) rfl)
theorem dX2_requireOne_13 : decode cX2_requireOne 13 = .ok (.ldc 252, 2) := dk_18 (dq_lk dX2_requireOne_v0 (r := 13) (x := 18) rfl) (dq_lk dX2_requireOne_v0 (r := 14) (x := 252) rfl)
theorem dX2_requireOne_15 : decode cX2_requireOne 15 = .ok (.invokespecial 254, 3) := dk_183 (dq_lk dX2_requireOne_v0 (r := 15) (x := 183) rfl) (dq_lk dX2_requireOne_v1 (r := 0) (x := 0) rfl) (dq_lk dX2_requireOne_v1 (r := 1) (x := 254) rfl)
theorem dX2_requireOne_18 : decode cX2_requireOne 18 = .ok (.athrow, 1) := dk_191 (dq_lk dX2_requireOne_v1 (r := 2) (x := 191) rfl)
theorem dX2_requireOne_19 : decode cX2_requireOne 19 = .ok (.return_, 1) := dk_177 (dq_lk dX2_requireOne_v1 (r := 3) (x := 177) rfl)
theorem kat_one : ∀ w ∈ vx_atS RX2 254 xI ["java/lang/RuntimeException", "java/lang/Exception"], w ∈ mW := by decide +kernel
theorem kgd_one : ∀ w ∈ Cond.classLink RX2 250 xI :: Cond.initialized xI :: vx_atS RX2 254 xI ["java/lang/RuntimeException", "java/lang/Exception"], vx_ot w = true := by decide +kernel
theorem kat_wit : ∀ w ∈ vx_atS RX2 261 xA ["java/lang/RuntimeException", "java/lang/Exception"], w ∈ mW := by decide +kernel
theorem kgd_wit : ∀ w ∈ Cond.classLink RX2 257 xA :: Cond.initialized xA :: vx_atS RX2 261 xA ["java/lang/RuntimeException", "java/lang/Exception"], vx_ot w = true := by decide +kernel
theorem c_X2_requireOne (tys : List (ClassId × FieldType)) (ws : va_W) (p0 : Int32) (N : Nat) (hN : N < 2 ^ 31) : mCt tys yX2_requireOne cX2_requireOne 2 none ⟨6, 1, 6, 82⟩ [.int p0, .int (nI N)] ws (fun v ws' => ∃ j, j < N ∧ p0 = nI j ∧ v = none ∧ ws' = ws) (fun E ws' => E = xI ∧ ws' = ws ∧ ¬ vp_in p0 N) := by
  refine mCt.of (by decide +kernel) (Nat.le_of_ble_eq_true rfl) (fun X hX hE => ?_)
  have hX : mOK X RX2 cX2_requireOne 2 ⟨6, 1, 6, 82⟩ [] tys := hX
  have thr : ∀ lv, ¬ vp_in p0 N → mV X 9 lv [] ws 0 0 := fun lv hn =>
    r_throw (cls := xI) (text := "there is no such one") (names := ["java/lang/RuntimeException", "java/lang/Exception"]) hX hE (by decide +kernel) (by decide +kernel) kl_X2_250 kt_java_lang_IndexOutOfBoundsException kat_one kgd_one (fun A U h => h.1) dX2_requireOne_9 dX2_requireOne_12 dX2_requireOne_13 dX2_requireOne_15 dX2_requireOne_18 (by decide) (by decide) (by decide) (by decide) (by decide) (by decide) ⟨rfl, rfl, hn⟩
  refine r_iload_n hX dX2_requireOne_0 rfl rfl (r_if_lt (tgt := 9) hX dX2_requireOne_1 (by decide) (fun c1 => ?_) (fun c1 => ?_))
  · exact thr _ (fun h => h (Or.inl c1))
  · refine r_iload_n hX dX2_requireOne_4 rfl rfl (r_iload_n hX dX2_requireOne_5 rfl rfl ?_)
    obtain ⟨j, hj, rfl⟩ := nI_of c1
    refine r_icmp_lt (tgt := 19) hX dX2_requireOne_6 (by decide) (fun c2 => ?_) (fun c2 => ?_)
    · have hjN : j < N := (nI_ltI hj hN).mp c2
      exact r_vret hX hE dX2_requireOne_19 (Nat.le_of_ble_eq_true rfl) (Nat.le_of_ble_eq_true rfl) ⟨j, hjN, rfl, rfl, rfl⟩
    · exact thr _ (fun h => by
        have h2 := (vp_in_iff.mp h).2
        rw [nI_toInt hj] at h2
        exact c2 ((nI_ltI hj hN).mpr (by omega)))
theorem c_X2_requireOne_ok (tys : List (ClassId × FieldType)) (ws : va_W) (N : Nat) (hN : N < 2 ^ 31) (j : Nat) (hj : j < N) : mCt tys yX2_requireOne cX2_requireOne 2 none ⟨0, 0, 0, 0⟩ [.int (nI j), .int (nI N)] ws (fun v ws' => v = none ∧ ws' = ws) mNo := by
  refine mCt.of (by decide +kernel) (Nat.le_of_ble_eq_true rfl) (fun X hX hE => ?_)
  have hX : mOK X RX2 cX2_requireOne 2 ⟨0, 0, 0, 0⟩ [] tys := hX
  have hj2 : j < 2 ^ 31 := by omega
  refine r_iload_n hX dX2_requireOne_0 rfl rfl (r_if_lt (tgt := 9) hX dX2_requireOne_1 (by decide) (fun c1 => absurd c1 (nI_pos hj2)) (fun c1 => ?_))
  refine r_iload_n hX dX2_requireOne_4 rfl rfl (r_iload_n hX dX2_requireOne_5 rfl rfl (r_icmp_lt (tgt := 19) hX dX2_requireOne_6 (by decide) (fun c2 => ?_) (fun c2 => absurd ((nI_ltI hj2 hN).mpr hj) c2)))
  exact r_vret hX hE dX2_requireOne_19 (Nat.le_of_ble_eq_true rfl) (Nat.le_of_ble_eq_true rfl) ⟨rfl, rfl⟩
theorem dX2_requireWithin_v0 : (cX2_requireWithin.data.toList.drop 0).take 16 = [26, 133, 27, 133, 28, 133, 184, 0, 48, 154, 0, 14, 187, 1, 1, 89] := by decide +kernel
theorem dX2_requireWithin_v1 : (cX2_requireWithin.data.toList.drop 16).take 16 = [19, 1, 3, 183, 1, 5, 191, 177] := by decide +kernel
theorem dX2_requireWithin_0 : decode cX2_requireWithin 0 = .ok (.iload_n 0, 1) := dk_26 (dq_lk dX2_requireWithin_v0 (r := 0) (x := 26) rfl)
theorem dX2_requireWithin_1 : decode cX2_requireWithin 1 = .ok (.i2l, 1) := dk_133 (dq_lk dX2_requireWithin_v0 (r := 1) (x := 133) rfl)
theorem dX2_requireWithin_2 : decode cX2_requireWithin 2 = .ok (.iload_n 1, 1) := dk_27 (dq_lk dX2_requireWithin_v0 (r := 2) (x := 27) rfl)
theorem dX2_requireWithin_3 : decode cX2_requireWithin 3 = .ok (.i2l, 1) := dk_133 (dq_lk dX2_requireWithin_v0 (r := 3) (x := 133) rfl)
theorem dX2_requireWithin_4 : decode cX2_requireWithin 4 = .ok (.iload_n 2, 1) := dk_28 (dq_lk dX2_requireWithin_v0 (r := 4) (x := 28) rfl)
theorem dX2_requireWithin_5 : decode cX2_requireWithin 5 = .ok (.i2l, 1) := dk_133 (dq_lk dX2_requireWithin_v0 (r := 5) (x := 133) rfl)
theorem dX2_requireWithin_6 : decode cX2_requireWithin 6 = .ok (.invokestatic 48, 3) := dk_184 (dq_lk dX2_requireWithin_v0 (r := 6) (x := 184) rfl) (dq_lk dX2_requireWithin_v0 (r := 7) (x := 0) rfl) (dq_lk dX2_requireWithin_v0 (r := 8) (x := 48) rfl)
theorem dX2_requireWithin_9 : decode cX2_requireWithin 9 = .ok (.ifCond .ne 14, 3) := dk_154 (dq_lk dX2_requireWithin_v0 (r := 9) (x := 154) rfl) (dq_lk dX2_requireWithin_v0 (r := 10) (x := 0) rfl) (dq_lk dX2_requireWithin_v0 (r := 11) (x := 14) rfl) (by decide +kernel)
theorem dX2_requireWithin_12 : decode cX2_requireWithin 12 = .ok (.new 257, 3) := dk_187 (dq_lk dX2_requireWithin_v0 (r := 12) (x := 187) rfl) (dq_lk dX2_requireWithin_v0 (r := 13) (x := 1) rfl) (dq_lk dX2_requireWithin_v0 (r := 14) (x := 1) rfl)
theorem dX2_requireWithin_15 : decode cX2_requireWithin 15 = .ok (.dup, 1) := dk_89 (dq_lk dX2_requireWithin_v0 (r := 15) (x := 89) rfl)
theorem dX2_requireWithin_16 : decode cX2_requireWithin 16 = .ok (.ldc_w 259, 3) := dk_19 (dq_lk dX2_requireWithin_v1 (r := 0) (x := 19) rfl) (dq_lk dX2_requireWithin_v1 (r := 1) (x := 1) rfl) (dq_lk dX2_requireWithin_v1 (r := 2) (x := 3) rfl)
theorem dX2_requireWithin_19 : decode cX2_requireWithin 19 = .ok (.invokespecial 261, 3) := dk_183 (dq_lk dX2_requireWithin_v1 (r := 3) (x := 183) rfl) (dq_lk dX2_requireWithin_v1 (r := 4) (x := 1) rfl) (dq_lk dX2_requireWithin_v1 (r := 5) (x := 5) rfl)
theorem dX2_requireWithin_22 : decode cX2_requireWithin 22 = .ok (.athrow, 1) := dk_191 (dq_lk dX2_requireWithin_v1 (r := 6) (x := 191) rfl)
theorem dX2_requireWithin_23 : decode cX2_requireWithin 23 = .ok (.return_, 1) := dk_177 (dq_lk dX2_requireWithin_v1 (r := 7) (x := 177) rfl)
section MWT
variable {X : mC} {own : String} {cc : ByteArray} {nL : Nat} {R : Room} {tys : List (ClassId × FieldType)} {pc : Nat} {lv : List (Nat × Option Value)} {st : List Value} {ws : va_W} {k n : Nat} {Φ : Option Value → va_W → Prop} {Ψ : String → va_W → Prop} {mc ms : Nat} {ret : Option FieldType}
theorem r_throwW {cls text : String} {names : List String} {ik is ic : Nat} (hX : mOK X own cc nL R [] tys) (hE : mE X Φ Ψ ret mc ms) (hcls : Bundle.fit cls = true) (hnames : ∀ n ∈ names, Bundle.fit n = true) (hk0 : Cond.classLink own ik cls ∈ mW) (hini : Cond.initialized cls ∈ mW) (hat : ∀ w ∈ vx_atS own ic cls names, w ∈ mW)
    (hgood : ∀ w ∈ Cond.classLink own ik cls :: Cond.initialized cls :: vx_atS own ic cls names, vx_ot w = true) (hstr : ∀ (A : Nat → Prop) (U : State), mst A U → ∃ a, vk_R own is text a U)
    (d0 : decode cc pc = .ok (.new ik, 3)) (d3 : decode cc (pc + 3) = .ok (.dup, 1)) (d4 : decode cc (pc + 4) = .ok (.ldc_w is, 3)) (d7 : decode cc (pc + 7) = .ok (.invokespecial ic, 3)) (d10 : decode cc (pc + 10) = .ok (.athrow, 1))
    (hf : names.length + 3 < R.frames) (hlo : (st.map fun v => v.category).sum + (13 * (names.length + 1) + 43) ≤ R.locals) (hRc : k + 1 ≤ R.cells) (hRs : n + 6 ≤ R.slots) (hk : k + 1 ≤ mc) (hn : n + 6 ≤ ms) (hΨ : Ψ cls ws) : mV X pc lv st ws k n := by
  obtain ⟨p, l, e, R', s, m, args, below, meth, c, Q, D, tys', A⟩ := X
  obtain ⟨hx, hb, hml, hR, hown, hts, hK, hty, hlk, hA, hst, hlt, htab⟩ := hX
  obtain ⟨hr, rfl⟩ := hE
  subst hR
  obtain ⟨sa, hsa⟩ := hstr A s hst
  refine fun H locs ls hP hD hS hl => vx_throwSW hx hb hlt (A := A) hown hcls hnames (hts _ hk0) (hts _ hini) hsa (fun w hw => hts w (hat w hw)) hgood hst.2.2.1 hst.2.2.2.1 hS hl.1 d0 d3 d4 d7 d10 (by rw [htab]; exact fun x h => nomatch h) hf hlo hRc hRs hlk (fun t _ hz hq => ⟨ws, hΨ, fun i q h => ?_, hD, ?_⟩) hS.2.2 hk hn
  · exact (hP i q h).kept (hq q.1 (hP i q h).lt)
  · exact ⟨Nat.le_trans hS.1 hz, fun q h1 h2 => (hq q (Nat.lt_of_lt_of_le h1 hS.1)).trans (hS.2.1 q h1 h2)⟩
end MWT
theorem i2l_le {x y : Int32} : x.toInt64 ≤ y.toInt64 ↔ x ≤ y := by
  rw [Int64.le_iff_toInt_le, Int32.le_iff_toInt_le, Int32.toInt_toInt64, Int32.toInt_toInt64]
theorem c_X2_requireWithin (tys : List (ClassId × FieldType)) (ws : va_W) (p0 p1 p2 : Int32) : mCt tys yX2_requireWithin cX2_requireWithin 3 none ⟨6, 1, 6, 82⟩ [.int p0, .int p1, .int p2] ws (fun v ws' => (p1 ≤ p0 ∧ p0 ≤ p2) ∧ v = none ∧ ws' = ws) (fun E ws' => E = xA ∧ ws' = ws ∧ ¬ (p1 ≤ p0 ∧ p0 ≤ p2)) := by
  refine mCt.of (by decide +kernel) (Nat.le_of_ble_eq_true rfl) (fun X hX hE => ?_)
  have hX : mOK X RX2 cX2_requireWithin 3 ⟨6, 1, 6, 82⟩ [] tys := hX
  refine r_iload_n hX dX2_requireWithin_0 rfl rfl (r_i2l hX dX2_requireWithin_1 (r_iload_n hX dX2_requireWithin_2 rfl rfl (r_i2l hX dX2_requireWithin_3 (r_iload_n hX dX2_requireWithin_4 rfl rfl (r_i2l hX dX2_requireWithin_5 (r_callS hX (c_X2_isWithin _ _ _ _ _) ks_X2_48 rfl rfl (Nat.le_of_ble_eq_true rfl) ⟨(Nat.le_of_ble_eq_true rfl), (Nat.le_of_ble_eq_true rfl)⟩ ⟨(Nat.le_of_ble_eq_true rfl), (Nat.le_of_ble_eq_true rfl)⟩ dX2_requireWithin_6 (fun _ _ z => False.elim z) (fun v9 ws9 h1 => ?_)))))))
  obtain ⟨rfl, hw9⟩ := h1
  subst ws9
  dsimp only [mPush]
  refine r_if_ne (tgt := 23) hX dX2_requireWithin_9 (by decide) (fun c1 => ?_) (fun c1 => ?_)
  · refine r_vret hX hE dX2_requireWithin_23 (Nat.le_of_ble_eq_true rfl) (Nat.le_of_ble_eq_true rfl) ⟨?_, rfl, rfl⟩
    simp only [f_isWithin, i2l_le] at c1
    by_cases h : p1 ≤ p0 ∧ p0 ≤ p2
    · exact h
    · exact absurd (if_neg h) c1
  · refine r_throwW (cls := xA) (text := "a number is not within its limits") (names := ["java/lang/RuntimeException", "java/lang/Exception"]) hX hE (by decide +kernel) (by decide +kernel) kl_X2_257 kt_java_lang_IllegalArgumentException kat_wit kgd_wit (fun A U h => h.2.1) dX2_requireWithin_12 dX2_requireWithin_15 dX2_requireWithin_16 dX2_requireWithin_19 dX2_requireWithin_22 (by decide) (by decide) (by decide) (by decide) (by decide) (by decide) ⟨rfl, rfl, fun h => c1 ?_⟩
    simp only [f_isWithin, i2l_le]
    rw [if_pos h]
    decide
theorem dX2_at_v0 : (cX2_at.data.toList.drop 0).take 16 = [27, 155, 0, 15, 27, 42, 190, 162, 0, 9, 42, 27, 50, 199, 0, 13] := by decide +kernel
theorem dX2_at_v1 : (cX2_at.data.toList.drop 16).take 16 = [187, 0, 250, 89, 18, 252, 183, 0, 254, 191, 42, 27, 50, 176] := by decide +kernel
theorem dX2_at_0 : decode cX2_at 0 = .ok (.iload_n 1, 1) := dk_27 (dq_lk dX2_at_v0 (r := 0) (x := 27) rfl)
theorem dX2_at_1 : decode cX2_at 1 = .ok (.ifCond .lt 15, 3) := dk_155 (dq_lk dX2_at_v0 (r := 1) (x := 155) rfl) (dq_lk dX2_at_v0 (r := 2) (x := 0) rfl) (dq_lk dX2_at_v0 (r := 3) (x := 15) rfl) (by decide +kernel)
theorem dX2_at_4 : decode cX2_at 4 = .ok (.iload_n 1, 1) := dk_27 (dq_lk dX2_at_v0 (r := 4) (x := 27) rfl)
theorem dX2_at_5 : decode cX2_at 5 = .ok (.aload_n 0, 1) := dk_42 (dq_lk dX2_at_v0 (r := 5) (x := 42) rfl)
theorem dX2_at_6 : decode cX2_at 6 = .ok (.arraylength, 1) := dk_190 (dq_lk dX2_at_v0 (r := 6) (x := 190) rfl)
theorem dX2_at_7 : decode cX2_at 7 = .ok (.if_icmp .ge 9, 3) := dk_162 (dq_lk dX2_at_v0 (r := 7) (x := 162) rfl) (dq_lk dX2_at_v0 (r := 8) (x := 0) rfl) (dq_lk dX2_at_v0 (r := 9) (x := 9) rfl) (by decide +kernel)
theorem dX2_at_10 : decode cX2_at 10 = .ok (.aload_n 0, 1) := dk_42 (dq_lk dX2_at_v0 (r := 10) (x := 42) rfl)
theorem dX2_at_11 : decode cX2_at 11 = .ok (.iload_n 1, 1) := dk_27 (dq_lk dX2_at_v0 (r := 11) (x := 27) rfl)
theorem dX2_at_12 : decode cX2_at 12 = .ok (.aaload, 1) := dk_50 (dq_lk dX2_at_v0 (r := 12) (x := 50) rfl)
theorem dX2_at_13 : decode cX2_at 13 = .ok (.ifnonnull 13, 3) := dk_199 (dq_lk dX2_at_v0 (r := 13) (x := 199) rfl) (dq_lk dX2_at_v0 (r := 14) (x := 0) rfl) (dq_lk dX2_at_v0 (r := 15) (x := 13) rfl) (by decide +kernel)
theorem dX2_at_16 : decode cX2_at 16 = .ok (.new 250, 3) := dk_187 (dq_lk dX2_at_v1 (r := 0) (x := 187) rfl) (dq_lk dX2_at_v1 (r := 1) (x := 0) rfl) (dq_lk dX2_at_v1 (r := 2) (x := 250) rfl)
theorem dX2_at_19 : decode cX2_at 19 = .ok (.dup, 1) := dk_89 (dq_lk dX2_at_v1 (r := 3) (x := 89) rfl)
theorem dX2_at_20 : decode cX2_at 20 = .ok (.ldc 252, 2) := dk_18 (dq_lk dX2_at_v1 (r := 4) (x := 18) rfl) (dq_lk dX2_at_v1 (r := 5) (x := 252) rfl)
theorem dX2_at_22 : decode cX2_at 22 = .ok (.invokespecial 254, 3) := dk_183 (dq_lk dX2_at_v1 (r := 6) (x := 183) rfl) (dq_lk dX2_at_v1 (r := 7) (x := 0) rfl) (dq_lk dX2_at_v1 (r := 8) (x := 254) rfl)
theorem dX2_at_25 : decode cX2_at 25 = .ok (.athrow, 1) := dk_191 (dq_lk dX2_at_v1 (r := 9) (x := 191) rfl)
theorem dX2_at_26 : decode cX2_at 26 = .ok (.aload_n 0, 1) := dk_42 (dq_lk dX2_at_v1 (r := 10) (x := 42) rfl)
theorem dX2_at_27 : decode cX2_at 27 = .ok (.iload_n 1, 1) := dk_27 (dq_lk dX2_at_v1 (r := 11) (x := 27) rfl)
theorem dX2_at_28 : decode cX2_at 28 = .ok (.aaload, 1) := dk_50 (dq_lk dX2_at_v1 (r := 12) (x := 50) rfl)
theorem dX2_at_29 : decode cX2_at 29 = .ok (.areturn, 1) := dk_176 (dq_lk dX2_at_v1 (r := 13) (x := 176) rfl)
theorem c_X2_at (ad : Nat → Nat) (cs : ClassId × ClassId × ClassId) (ws : va_W) (q0 a n0 b0 : Nat) (he : ws[q0]? = some (a, .inl (cs.2.2, n0, .inr (.inr (.inr (.inr (fun j => some (ad (j + b0 + 5))))))))) (hN : n0 < 2 ^ 31) (p1 : Int32) : mCt (mTy cs) yX2_at cX2_at 2 (some (.object "Momentdesk$Local")) ⟨6, 1, 6, 82⟩ [.ref a, .int p1] ws (fun v ws' => ∃ j, j < n0 ∧ p1 = nI j ∧ v = some (.ref (ad (j + b0 + 5))) ∧ ws' = ws) (fun E ws' => E = xI ∧ ws' = ws ∧ ¬ vp_in p1 n0) := by
  refine mCt.of (by decide +kernel) (Nat.le_of_ble_eq_true rfl) (fun X hX hE => ?_)
  have hX : mOK X RX2 cX2_at 2 ⟨6, 1, 6, 82⟩ [] (mTy cs) := hX
  have thr : ∀ lv, ¬ vp_in p1 n0 → mV X 16 lv [] ws 0 0 := fun lv hn =>
    r_throw (cls := xI) (text := "there is no such one") (names := ["java/lang/RuntimeException", "java/lang/Exception"]) hX hE (by decide +kernel) (by decide +kernel) kl_X2_250 kt_java_lang_IndexOutOfBoundsException kat_one kgd_one (fun A U h => h.1) dX2_at_16 dX2_at_19 dX2_at_20 dX2_at_22 dX2_at_25 (by decide) (by decide) (by decide) (by decide) (by decide) (by decide) ⟨rfl, rfl, hn⟩
  refine r_iload_n hX dX2_at_0 rfl rfl (r_if_lt (tgt := 16) hX dX2_at_1 (by decide) (fun c1 => ?_) (fun c1 => ?_))
  · exact thr _ (fun h => h (Or.inl c1))
  · refine r_iload_n hX dX2_at_4 rfl rfl (r_aload_n hX dX2_at_5 rfl rfl (r_alen (v := nI n0) hX q0 2 he rfl rfl dX2_at_6 ?_))
    obtain ⟨j, hj, rfl⟩ := nI_of c1
    refine r_icmp_ge (tgt := 16) hX dX2_at_7 (by decide) (fun c2 => ?_) (fun c2 => ?_)
    · exact thr _ (fun h => by
        have h2 := (vp_in_iff.mp h).2
        rw [nI_toInt hj] at h2
        have h3 := (nI_leI hN hj).mp c2
        omega)
    · have hjN : j < n0 := by
        rcases Nat.lt_or_ge j n0 with h | h
        · exact h
        · exact absurd ((nI_leI hN hj).mpr h) c2
      have hin := vp_in_nI hjN hN
      refine r_aload_n hX dX2_at_10 rfl rfl (r_iload_n hX dX2_at_11 rfl rfl (r_aald hX q0 2 he rfl hin dX2_at_12 (r_ifnonnull (x := ad ((nI j).toNatClampNeg + b0 + 5)) (tgt := 26) hX dX2_at_13 (by decide) (r_aload_n hX dX2_at_26 rfl rfl (r_iload_n hX dX2_at_27 rfl rfl (r_aald hX q0 2 he rfl hin dX2_at_28 (r_aret (v := .ref (ad ((nI j).toNatClampNeg + b0 + 5))) hX hE dX2_at_29 (Or.inl ⟨_, rfl⟩) (Or.inr ⟨_, rfl⟩) (Nat.le_of_ble_eq_true rfl) (Nat.le_of_ble_eq_true rfl) ⟨j, hjN, rfl, ?_, rfl⟩)))))))
      rw [nI_clamp hj]
theorem c_X2_at_ok (ad : Nat → Nat) (cs : ClassId × ClassId × ClassId) (ws : va_W) (q0 a n0 b0 : Nat) (he : ws[q0]? = some (a, .inl (cs.2.2, n0, .inr (.inr (.inr (.inr (fun j => some (ad (j + b0 + 5))))))))) (hN : n0 < 2 ^ 31) (j : Nat) (hjN : j < n0) : mCt (mTy cs) yX2_at cX2_at 2 (some (.object "Momentdesk$Local")) ⟨0, 0, 0, 0⟩ [.ref a, .int (nI j)] ws (fun v ws' => v = some (.ref (ad (j + b0 + 5))) ∧ ws' = ws) mNo := by
  refine mCt.of (by decide +kernel) (Nat.le_of_ble_eq_true rfl) (fun X hX hE => ?_)
  have hX : mOK X RX2 cX2_at 2 ⟨0, 0, 0, 0⟩ [] (mTy cs) := hX
  have hj : j < 2 ^ 31 := by omega
  have hin := vp_in_nI hjN hN
  refine r_iload_n hX dX2_at_0 rfl rfl (r_if_lt (tgt := 16) hX dX2_at_1 (by decide) (fun c1 => absurd c1 (nI_pos hj)) (fun c1 => ?_))
  refine r_iload_n hX dX2_at_4 rfl rfl (r_aload_n hX dX2_at_5 rfl rfl (r_alen (v := nI n0) hX q0 2 he rfl rfl dX2_at_6 (r_icmp_ge (tgt := 16) hX dX2_at_7 (by decide) (fun c2 => absurd ((nI_leI hN hj).mp c2) (by omega)) (fun c2 => ?_))))
  refine r_aload_n hX dX2_at_10 rfl rfl (r_iload_n hX dX2_at_11 rfl rfl (r_aald hX q0 2 he rfl hin dX2_at_12 (r_ifnonnull (x := ad ((nI j).toNatClampNeg + b0 + 5)) (tgt := 26) hX dX2_at_13 (by decide) (r_aload_n hX dX2_at_26 rfl rfl (r_iload_n hX dX2_at_27 rfl rfl (r_aald hX q0 2 he rfl hin dX2_at_28 (r_aret (v := .ref (ad ((nI j).toNatClampNeg + b0 + 5))) hX hE dX2_at_29 (Or.inl ⟨_, rfl⟩) (Or.inr ⟨_, rfl⟩) (Nat.le_of_ble_eq_true rfl) (Nat.le_of_ble_eq_true rfl) ⟨?_, rfl⟩)))))))
  rw [nI_clamp hj]
theorem dX0_isLeap_v0 : (cX0_isLeap.data.toList.drop 0).take 16 = [26, 7, 112, 154, 0, 22, 26, 16, 100, 112, 154, 0, 11, 26, 17, 1] := by decide +kernel
theorem dX0_isLeap_v1 : (cX0_isLeap.data.toList.drop 16).take 16 = [144, 112, 154, 0, 7, 4, 167, 0, 4, 3, 172] := by decide +kernel
theorem dX0_isLeap_0 : decode cX0_isLeap 0 = .ok (.iload_n 0, 1) := dk_26 (dq_lk dX0_isLeap_v0 (r := 0) (x := 26) rfl)
theorem dX0_isLeap_1 : decode cX0_isLeap 1 = .ok (.iconst 4, 1) := dk_7 (dq_lk dX0_isLeap_v0 (r := 1) (x := 7) rfl)
theorem dX0_isLeap_2 : decode cX0_isLeap 2 = .ok (.irem, 1) := dk_112 (dq_lk dX0_isLeap_v0 (r := 2) (x := 112) rfl)
theorem dX0_isLeap_3 : decode cX0_isLeap 3 = .ok (.ifCond .ne 22, 3) := dk_154 (dq_lk dX0_isLeap_v0 (r := 3) (x := 154) rfl) (dq_lk dX0_isLeap_v0 (r := 4) (x := 0) rfl) (dq_lk dX0_isLeap_v0 (r := 5) (x := 22) rfl) (by decide +kernel)
theorem dX0_isLeap_6 : decode cX0_isLeap 6 = .ok (.iload_n 0, 1) := dk_26 (dq_lk dX0_isLeap_v0 (r := 6) (x := 26) rfl)
theorem dX0_isLeap_7 : decode cX0_isLeap 7 = .ok (.bipush 100, 2) := dk_16 (dq_lk dX0_isLeap_v0 (r := 7) (x := 16) rfl) (dq_lk dX0_isLeap_v0 (r := 8) (x := 100) rfl) (by decide +kernel)
theorem dX0_isLeap_9 : decode cX0_isLeap 9 = .ok (.irem, 1) := dk_112 (dq_lk dX0_isLeap_v0 (r := 9) (x := 112) rfl)
theorem dX0_isLeap_10 : decode cX0_isLeap 10 = .ok (.ifCond .ne 11, 3) := dk_154 (dq_lk dX0_isLeap_v0 (r := 10) (x := 154) rfl) (dq_lk dX0_isLeap_v0 (r := 11) (x := 0) rfl) (dq_lk dX0_isLeap_v0 (r := 12) (x := 11) rfl) (by decide +kernel)
theorem dX0_isLeap_13 : decode cX0_isLeap 13 = .ok (.iload_n 0, 1) := dk_26 (dq_lk dX0_isLeap_v0 (r := 13) (x := 26) rfl)
theorem dX0_isLeap_14 : decode cX0_isLeap 14 = .ok (.sipush 400, 3) := dk_17 (dq_lk dX0_isLeap_v0 (r := 14) (x := 17) rfl) (dq_lk dX0_isLeap_v0 (r := 15) (x := 1) rfl) (dq_lk dX0_isLeap_v1 (r := 0) (x := 144) rfl) (by decide +kernel)
theorem dX0_isLeap_17 : decode cX0_isLeap 17 = .ok (.irem, 1) := dk_112 (dq_lk dX0_isLeap_v1 (r := 1) (x := 112) rfl)
theorem dX0_isLeap_18 : decode cX0_isLeap 18 = .ok (.ifCond .ne 7, 3) := dk_154 (dq_lk dX0_isLeap_v1 (r := 2) (x := 154) rfl) (dq_lk dX0_isLeap_v1 (r := 3) (x := 0) rfl) (dq_lk dX0_isLeap_v1 (r := 4) (x := 7) rfl) (by decide +kernel)
theorem dX0_isLeap_21 : decode cX0_isLeap 21 = .ok (.iconst 1, 1) := dk_4 (dq_lk dX0_isLeap_v1 (r := 5) (x := 4) rfl)
theorem dX0_isLeap_22 : decode cX0_isLeap 22 = .ok (.goto 4, 3) := dk_167 (dq_lk dX0_isLeap_v1 (r := 6) (x := 167) rfl) (dq_lk dX0_isLeap_v1 (r := 7) (x := 0) rfl) (dq_lk dX0_isLeap_v1 (r := 8) (x := 4) rfl) (by decide +kernel)
theorem dX0_isLeap_25 : decode cX0_isLeap 25 = .ok (.iconst 0, 1) := dk_3 (dq_lk dX0_isLeap_v1 (r := 9) (x := 3) rfl)
theorem dX0_isLeap_26 : decode cX0_isLeap 26 = .ok (.ireturn, 1) := dk_172 (dq_lk dX0_isLeap_v1 (r := 10) (x := 172) rfl)
theorem dX0_lengthOfYear_v0 : (cX0_lengthOfYear.data.toList.drop 0).take 16 = [26, 184, 0, 9, 153, 0, 9, 17, 1, 110, 167, 0, 6, 17, 1, 109] := by decide +kernel
theorem dX0_lengthOfYear_v1 : (cX0_lengthOfYear.data.toList.drop 16).take 16 = [172] := by decide +kernel
theorem dX0_lengthOfYear_0 : decode cX0_lengthOfYear 0 = .ok (.iload_n 0, 1) := dk_26 (dq_lk dX0_lengthOfYear_v0 (r := 0) (x := 26) rfl)
theorem dX0_lengthOfYear_1 : decode cX0_lengthOfYear 1 = .ok (.invokestatic 9, 3) := dk_184 (dq_lk dX0_lengthOfYear_v0 (r := 1) (x := 184) rfl) (dq_lk dX0_lengthOfYear_v0 (r := 2) (x := 0) rfl) (dq_lk dX0_lengthOfYear_v0 (r := 3) (x := 9) rfl)
theorem dX0_lengthOfYear_4 : decode cX0_lengthOfYear 4 = .ok (.ifCond .eq 9, 3) := dk_153 (dq_lk dX0_lengthOfYear_v0 (r := 4) (x := 153) rfl) (dq_lk dX0_lengthOfYear_v0 (r := 5) (x := 0) rfl) (dq_lk dX0_lengthOfYear_v0 (r := 6) (x := 9) rfl) (by decide +kernel)
theorem dX0_lengthOfYear_7 : decode cX0_lengthOfYear 7 = .ok (.sipush 366, 3) := dk_17 (dq_lk dX0_lengthOfYear_v0 (r := 7) (x := 17) rfl) (dq_lk dX0_lengthOfYear_v0 (r := 8) (x := 1) rfl) (dq_lk dX0_lengthOfYear_v0 (r := 9) (x := 110) rfl) (by decide +kernel)
theorem dX0_lengthOfYear_10 : decode cX0_lengthOfYear 10 = .ok (.goto 6, 3) := dk_167 (dq_lk dX0_lengthOfYear_v0 (r := 10) (x := 167) rfl) (dq_lk dX0_lengthOfYear_v0 (r := 11) (x := 0) rfl) (dq_lk dX0_lengthOfYear_v0 (r := 12) (x := 6) rfl) (by decide +kernel)
theorem dX0_lengthOfYear_13 : decode cX0_lengthOfYear 13 = .ok (.sipush 365, 3) := dk_17 (dq_lk dX0_lengthOfYear_v0 (r := 13) (x := 17) rfl) (dq_lk dX0_lengthOfYear_v0 (r := 14) (x := 1) rfl) (dq_lk dX0_lengthOfYear_v0 (r := 15) (x := 109) rfl) (by decide +kernel)
theorem dX0_lengthOfYear_16 : decode cX0_lengthOfYear 16 = .ok (.ireturn, 1) := dk_172 (dq_lk dX0_lengthOfYear_v1 (r := 0) (x := 172) rfl)
theorem dX0_lengthOfMonth_w0 : (cX0_lengthOfMonth.data.toList.drop 0).take 64 = [27, 170, 0, 0, 0, 0, 0, 73, 0, 0, 0, 2, 0, 0, 0, 11, 0, 0, 0, 55, 0, 0, 0, 73, 0, 0, 0, 70, 0, 0, 0, 73, 0, 0, 0, 70, 0, 0, 0, 73, 0, 0, 0, 73, 0, 0, 0, 70, 0, 0, 0, 73, 0, 0, 0, 70, 26, 184, 0, 9, 153, 0, 8, 16] := by decide +kernel
theorem dX0_lengthOfMonth_w1 : (cX0_lengthOfMonth.data.toList.drop 64).take 64 = [29, 167, 0, 5, 16, 28, 172, 16, 30, 172, 16, 31, 172] := by decide +kernel
theorem dX0_lengthOfMonth_v0 : (cX0_lengthOfMonth.data.toList.drop 0).take 16 = [27, 170, 0, 0, 0, 0, 0, 73, 0, 0, 0, 2, 0, 0, 0, 11] := dq_sub (n := 0) (j := 0) dX0_lengthOfMonth_w0 (by decide) rfl
theorem dX0_lengthOfMonth_v3 : (cX0_lengthOfMonth.data.toList.drop 48).take 16 = [0, 0, 0, 73, 0, 0, 0, 70, 26, 184, 0, 9, 153, 0, 8, 16] := dq_sub (n := 0) (j := 48) dX0_lengthOfMonth_w0 (by decide) rfl
theorem dX0_lengthOfMonth_v4 : (cX0_lengthOfMonth.data.toList.drop 64).take 16 = [29, 167, 0, 5, 16, 28, 172, 16, 30, 172, 16, 31, 172] := dq_sub (n := 64) (j := 0) dX0_lengthOfMonth_w1 (by decide) rfl
theorem dX0_lengthOfMonth_0 : decode cX0_lengthOfMonth 0 = .ok (.iload_n 1, 1) := dk_27 (dq_lk dX0_lengthOfMonth_v0 (r := 0) (x := 27) rfl)
theorem dX0_lengthOfMonth_1 : decode cX0_lengthOfMonth 1 = .ok (.tableswitch 73 2 11 #[55, 73, 70, 73, 70, 73, 73, 70, 73, 70], 55) := by decide +kernel
theorem dX0_lengthOfMonth_56 : decode cX0_lengthOfMonth 56 = .ok (.iload_n 0, 1) := dk_26 (dq_lk dX0_lengthOfMonth_v3 (r := 8) (x := 26) rfl)
theorem dX0_lengthOfMonth_57 : decode cX0_lengthOfMonth 57 = .ok (.invokestatic 9, 3) := dk_184 (dq_lk dX0_lengthOfMonth_v3 (r := 9) (x := 184) rfl) (dq_lk dX0_lengthOfMonth_v3 (r := 10) (x := 0) rfl) (dq_lk dX0_lengthOfMonth_v3 (r := 11) (x := 9) rfl)
theorem dX0_lengthOfMonth_60 : decode cX0_lengthOfMonth 60 = .ok (.ifCond .eq 8, 3) := dk_153 (dq_lk dX0_lengthOfMonth_v3 (r := 12) (x := 153) rfl) (dq_lk dX0_lengthOfMonth_v3 (r := 13) (x := 0) rfl) (dq_lk dX0_lengthOfMonth_v3 (r := 14) (x := 8) rfl) (by decide +kernel)
theorem dX0_lengthOfMonth_63 : decode cX0_lengthOfMonth 63 = .ok (.bipush 29, 2) := dk_16 (dq_lk dX0_lengthOfMonth_v3 (r := 15) (x := 16) rfl) (dq_lk dX0_lengthOfMonth_v4 (r := 0) (x := 29) rfl) (by decide +kernel)
theorem dX0_lengthOfMonth_65 : decode cX0_lengthOfMonth 65 = .ok (.goto 5, 3) := dk_167 (dq_lk dX0_lengthOfMonth_v4 (r := 1) (x := 167) rfl) (dq_lk dX0_lengthOfMonth_v4 (r := 2) (x := 0) rfl) (dq_lk dX0_lengthOfMonth_v4 (r := 3) (x := 5) rfl) (by decide +kernel)
theorem dX0_lengthOfMonth_68 : decode cX0_lengthOfMonth 68 = .ok (.bipush 28, 2) := dk_16 (dq_lk dX0_lengthOfMonth_v4 (r := 4) (x := 16) rfl) (dq_lk dX0_lengthOfMonth_v4 (r := 5) (x := 28) rfl) (by decide +kernel)
theorem dX0_lengthOfMonth_70 : decode cX0_lengthOfMonth 70 = .ok (.ireturn, 1) := dk_172 (dq_lk dX0_lengthOfMonth_v4 (r := 6) (x := 172) rfl)
theorem dX0_lengthOfMonth_71 : decode cX0_lengthOfMonth 71 = .ok (.bipush 30, 2) := dk_16 (dq_lk dX0_lengthOfMonth_v4 (r := 7) (x := 16) rfl) (dq_lk dX0_lengthOfMonth_v4 (r := 8) (x := 30) rfl) (by decide +kernel)
theorem dX0_lengthOfMonth_73 : decode cX0_lengthOfMonth 73 = .ok (.ireturn, 1) := dk_172 (dq_lk dX0_lengthOfMonth_v4 (r := 9) (x := 172) rfl)
theorem dX0_lengthOfMonth_74 : decode cX0_lengthOfMonth 74 = .ok (.bipush 31, 2) := dk_16 (dq_lk dX0_lengthOfMonth_v4 (r := 10) (x := 16) rfl) (dq_lk dX0_lengthOfMonth_v4 (r := 11) (x := 31) rfl) (by decide +kernel)
theorem dX0_lengthOfMonth_76 : decode cX0_lengthOfMonth 76 = .ok (.ireturn, 1) := dk_172 (dq_lk dX0_lengthOfMonth_v4 (r := 12) (x := 172) rfl)
theorem dX0_isDay_v0 : (cX0_isDay.data.toList.drop 0).take 16 = [27, 133, 10, 20, 0, 15, 184, 0, 17, 153, 0, 22, 28, 133, 10, 26] := by decide +kernel
theorem dX0_isDay_v1 : (cX0_isDay.data.toList.drop 16).take 16 = [27, 184, 0, 21, 133, 184, 0, 17, 153, 0, 7, 4, 167, 0, 4, 3] := by decide +kernel
theorem dX0_isDay_v2 : (cX0_isDay.data.toList.drop 32).take 16 = [172] := by decide +kernel
theorem dX0_isDay_0 : decode cX0_isDay 0 = .ok (.iload_n 1, 1) := dk_27 (dq_lk dX0_isDay_v0 (r := 0) (x := 27) rfl)
theorem dX0_isDay_1 : decode cX0_isDay 1 = .ok (.i2l, 1) := dk_133 (dq_lk dX0_isDay_v0 (r := 1) (x := 133) rfl)
theorem dX0_isDay_2 : decode cX0_isDay 2 = .ok (.lconst 1, 1) := dk_10 (dq_lk dX0_isDay_v0 (r := 2) (x := 10) rfl)
theorem dX0_isDay_3 : decode cX0_isDay 3 = .ok (.ldc2_w 15, 3) := dk_20 (dq_lk dX0_isDay_v0 (r := 3) (x := 20) rfl) (dq_lk dX0_isDay_v0 (r := 4) (x := 0) rfl) (dq_lk dX0_isDay_v0 (r := 5) (x := 15) rfl)
theorem dX0_isDay_6 : decode cX0_isDay 6 = .ok (.invokestatic 17, 3) := dk_184 (dq_lk dX0_isDay_v0 (r := 6) (x := 184) rfl) (dq_lk dX0_isDay_v0 (r := 7) (x := 0) rfl) (dq_lk dX0_isDay_v0 (r := 8) (x := 17) rfl)
theorem dX0_isDay_9 : decode cX0_isDay 9 = .ok (.ifCond .eq 22, 3) := dk_153 (dq_lk dX0_isDay_v0 (r := 9) (x := 153) rfl) (dq_lk dX0_isDay_v0 (r := 10) (x := 0) rfl) (dq_lk dX0_isDay_v0 (r := 11) (x := 22) rfl) (by decide +kernel)
theorem dX0_isDay_12 : decode cX0_isDay 12 = .ok (.iload_n 2, 1) := dk_28 (dq_lk dX0_isDay_v0 (r := 12) (x := 28) rfl)
theorem dX0_isDay_13 : decode cX0_isDay 13 = .ok (.i2l, 1) := dk_133 (dq_lk dX0_isDay_v0 (r := 13) (x := 133) rfl)
theorem dX0_isDay_14 : decode cX0_isDay 14 = .ok (.lconst 1, 1) := dk_10 (dq_lk dX0_isDay_v0 (r := 14) (x := 10) rfl)
theorem dX0_isDay_15 : decode cX0_isDay 15 = .ok (.iload_n 0, 1) := dk_26 (dq_lk dX0_isDay_v0 (r := 15) (x := 26) rfl)
theorem dX0_isDay_16 : decode cX0_isDay 16 = .ok (.iload_n 1, 1) := dk_27 (dq_lk dX0_isDay_v1 (r := 0) (x := 27) rfl)
theorem dX0_isDay_17 : decode cX0_isDay 17 = .ok (.invokestatic 21, 3) := dk_184 (dq_lk dX0_isDay_v1 (r := 1) (x := 184) rfl) (dq_lk dX0_isDay_v1 (r := 2) (x := 0) rfl) (dq_lk dX0_isDay_v1 (r := 3) (x := 21) rfl)
theorem dX0_isDay_20 : decode cX0_isDay 20 = .ok (.i2l, 1) := dk_133 (dq_lk dX0_isDay_v1 (r := 4) (x := 133) rfl)
theorem dX0_isDay_21 : decode cX0_isDay 21 = .ok (.invokestatic 17, 3) := dk_184 (dq_lk dX0_isDay_v1 (r := 5) (x := 184) rfl) (dq_lk dX0_isDay_v1 (r := 6) (x := 0) rfl) (dq_lk dX0_isDay_v1 (r := 7) (x := 17) rfl)
theorem dX0_isDay_24 : decode cX0_isDay 24 = .ok (.ifCond .eq 7, 3) := dk_153 (dq_lk dX0_isDay_v1 (r := 8) (x := 153) rfl) (dq_lk dX0_isDay_v1 (r := 9) (x := 0) rfl) (dq_lk dX0_isDay_v1 (r := 10) (x := 7) rfl) (by decide +kernel)
theorem dX0_isDay_27 : decode cX0_isDay 27 = .ok (.iconst 1, 1) := dk_4 (dq_lk dX0_isDay_v1 (r := 11) (x := 4) rfl)
theorem dX0_isDay_28 : decode cX0_isDay 28 = .ok (.goto 4, 3) := dk_167 (dq_lk dX0_isDay_v1 (r := 12) (x := 167) rfl) (dq_lk dX0_isDay_v1 (r := 13) (x := 0) rfl) (dq_lk dX0_isDay_v1 (r := 14) (x := 4) rfl) (by decide +kernel)
theorem dX0_isDay_31 : decode cX0_isDay 31 = .ok (.iconst 0, 1) := dk_3 (dq_lk dX0_isDay_v1 (r := 15) (x := 3) rfl)
theorem dX0_isDay_32 : decode cX0_isDay 32 = .ok (.ireturn, 1) := dk_172 (dq_lk dX0_isDay_v2 (r := 0) (x := 172) rfl)
theorem dX0_firstDayOf_v0 : (cX0_firstDayOf.data.toList.drop 0).take 16 = [26, 4, 100, 60, 27, 17, 1, 109, 104, 27, 7, 108, 96, 27, 16, 100] := by decide +kernel
theorem dX0_firstDayOf_v1 : (cX0_firstDayOf.data.toList.drop 16).take 16 = [108, 100, 27, 17, 1, 144, 108, 96, 18, 25, 100, 172] := by decide +kernel
theorem dX0_firstDayOf_0 : decode cX0_firstDayOf 0 = .ok (.iload_n 0, 1) := dk_26 (dq_lk dX0_firstDayOf_v0 (r := 0) (x := 26) rfl)
theorem dX0_firstDayOf_1 : decode cX0_firstDayOf 1 = .ok (.iconst 1, 1) := dk_4 (dq_lk dX0_firstDayOf_v0 (r := 1) (x := 4) rfl)
theorem dX0_firstDayOf_2 : decode cX0_firstDayOf 2 = .ok (.isub, 1) := dk_100 (dq_lk dX0_firstDayOf_v0 (r := 2) (x := 100) rfl)
theorem dX0_firstDayOf_3 : decode cX0_firstDayOf 3 = .ok (.istore_n 1, 1) := dk_60 (dq_lk dX0_firstDayOf_v0 (r := 3) (x := 60) rfl)
theorem dX0_firstDayOf_4 : decode cX0_firstDayOf 4 = .ok (.iload_n 1, 1) := dk_27 (dq_lk dX0_firstDayOf_v0 (r := 4) (x := 27) rfl)
theorem dX0_firstDayOf_5 : decode cX0_firstDayOf 5 = .ok (.sipush 365, 3) := dk_17 (dq_lk dX0_firstDayOf_v0 (r := 5) (x := 17) rfl) (dq_lk dX0_firstDayOf_v0 (r := 6) (x := 1) rfl) (dq_lk dX0_firstDayOf_v0 (r := 7) (x := 109) rfl) (by decide +kernel)
theorem dX0_firstDayOf_8 : decode cX0_firstDayOf 8 = .ok (.imul, 1) := dk_104 (dq_lk dX0_firstDayOf_v0 (r := 8) (x := 104) rfl)
theorem dX0_firstDayOf_9 : decode cX0_firstDayOf 9 = .ok (.iload_n 1, 1) := dk_27 (dq_lk dX0_firstDayOf_v0 (r := 9) (x := 27) rfl)
theorem dX0_firstDayOf_10 : decode cX0_firstDayOf 10 = .ok (.iconst 4, 1) := dk_7 (dq_lk dX0_firstDayOf_v0 (r := 10) (x := 7) rfl)
theorem dX0_firstDayOf_11 : decode cX0_firstDayOf 11 = .ok (.idiv, 1) := dk_108 (dq_lk dX0_firstDayOf_v0 (r := 11) (x := 108) rfl)
theorem dX0_firstDayOf_12 : decode cX0_firstDayOf 12 = .ok (.iadd, 1) := dk_96 (dq_lk dX0_firstDayOf_v0 (r := 12) (x := 96) rfl)
theorem dX0_firstDayOf_13 : decode cX0_firstDayOf 13 = .ok (.iload_n 1, 1) := dk_27 (dq_lk dX0_firstDayOf_v0 (r := 13) (x := 27) rfl)
theorem dX0_firstDayOf_14 : decode cX0_firstDayOf 14 = .ok (.bipush 100, 2) := dk_16 (dq_lk dX0_firstDayOf_v0 (r := 14) (x := 16) rfl) (dq_lk dX0_firstDayOf_v0 (r := 15) (x := 100) rfl) (by decide +kernel)
theorem dX0_firstDayOf_16 : decode cX0_firstDayOf 16 = .ok (.idiv, 1) := dk_108 (dq_lk dX0_firstDayOf_v1 (r := 0) (x := 108) rfl)
theorem dX0_firstDayOf_17 : decode cX0_firstDayOf 17 = .ok (.isub, 1) := dk_100 (dq_lk dX0_firstDayOf_v1 (r := 1) (x := 100) rfl)
theorem dX0_firstDayOf_18 : decode cX0_firstDayOf 18 = .ok (.iload_n 1, 1) := dk_27 (dq_lk dX0_firstDayOf_v1 (r := 2) (x := 27) rfl)
theorem dX0_firstDayOf_19 : decode cX0_firstDayOf 19 = .ok (.sipush 400, 3) := dk_17 (dq_lk dX0_firstDayOf_v1 (r := 3) (x := 17) rfl) (dq_lk dX0_firstDayOf_v1 (r := 4) (x := 1) rfl) (dq_lk dX0_firstDayOf_v1 (r := 5) (x := 144) rfl) (by decide +kernel)
theorem dX0_firstDayOf_22 : decode cX0_firstDayOf 22 = .ok (.idiv, 1) := dk_108 (dq_lk dX0_firstDayOf_v1 (r := 6) (x := 108) rfl)
theorem dX0_firstDayOf_23 : decode cX0_firstDayOf 23 = .ok (.iadd, 1) := dk_96 (dq_lk dX0_firstDayOf_v1 (r := 7) (x := 96) rfl)
theorem dX0_firstDayOf_24 : decode cX0_firstDayOf 24 = .ok (.ldc 25, 2) := dk_18 (dq_lk dX0_firstDayOf_v1 (r := 8) (x := 18) rfl) (dq_lk dX0_firstDayOf_v1 (r := 9) (x := 25) rfl)
theorem dX0_firstDayOf_26 : decode cX0_firstDayOf 26 = .ok (.isub, 1) := dk_100 (dq_lk dX0_firstDayOf_v1 (r := 10) (x := 100) rfl)
theorem dX0_firstDayOf_27 : decode cX0_firstDayOf 27 = .ok (.ireturn, 1) := dk_172 (dq_lk dX0_firstDayOf_v1 (r := 11) (x := 172) rfl)
theorem dX0_daysBeforeMonth_v0 : (cX0_daysBeforeMonth.data.toList.drop 0).take 16 = [17, 1, 111, 27, 104, 17, 1, 106, 100, 16, 12, 108, 61, 27, 5, 163] := by decide +kernel
theorem dX0_daysBeforeMonth_v1 : (cX0_daysBeforeMonth.data.toList.drop 16).take 16 = [0, 7, 28, 167, 0, 19, 26, 184, 0, 9, 153, 0, 9, 28, 4, 100] := by decide +kernel
theorem dX0_daysBeforeMonth_v2 : (cX0_daysBeforeMonth.data.toList.drop 32).take 16 = [167, 0, 6, 28, 5, 100, 172] := by decide +kernel
theorem dX0_daysBeforeMonth_0 : decode cX0_daysBeforeMonth 0 = .ok (.sipush 367, 3) := dk_17 (dq_lk dX0_daysBeforeMonth_v0 (r := 0) (x := 17) rfl) (dq_lk dX0_daysBeforeMonth_v0 (r := 1) (x := 1) rfl) (dq_lk dX0_daysBeforeMonth_v0 (r := 2) (x := 111) rfl) (by decide +kernel)
theorem dX0_daysBeforeMonth_3 : decode cX0_daysBeforeMonth 3 = .ok (.iload_n 1, 1) := dk_27 (dq_lk dX0_daysBeforeMonth_v0 (r := 3) (x := 27) rfl)
theorem dX0_daysBeforeMonth_4 : decode cX0_daysBeforeMonth 4 = .ok (.imul, 1) := dk_104 (dq_lk dX0_daysBeforeMonth_v0 (r := 4) (x := 104) rfl)
theorem dX0_daysBeforeMonth_5 : decode cX0_daysBeforeMonth 5 = .ok (.sipush 362, 3) := dk_17 (dq_lk dX0_daysBeforeMonth_v0 (r := 5) (x := 17) rfl) (dq_lk dX0_daysBeforeMonth_v0 (r := 6) (x := 1) rfl) (dq_lk dX0_daysBeforeMonth_v0 (r := 7) (x := 106) rfl) (by decide +kernel)
theorem dX0_daysBeforeMonth_8 : decode cX0_daysBeforeMonth 8 = .ok (.isub, 1) := dk_100 (dq_lk dX0_daysBeforeMonth_v0 (r := 8) (x := 100) rfl)
theorem dX0_daysBeforeMonth_9 : decode cX0_daysBeforeMonth 9 = .ok (.bipush 12, 2) := dk_16 (dq_lk dX0_daysBeforeMonth_v0 (r := 9) (x := 16) rfl) (dq_lk dX0_daysBeforeMonth_v0 (r := 10) (x := 12) rfl) (by decide +kernel)
theorem dX0_daysBeforeMonth_11 : decode cX0_daysBeforeMonth 11 = .ok (.idiv, 1) := dk_108 (dq_lk dX0_daysBeforeMonth_v0 (r := 11) (x := 108) rfl)
theorem dX0_daysBeforeMonth_12 : decode cX0_daysBeforeMonth 12 = .ok (.istore_n 2, 1) := dk_61 (dq_lk dX0_daysBeforeMonth_v0 (r := 12) (x := 61) rfl)
theorem dX0_daysBeforeMonth_13 : decode cX0_daysBeforeMonth 13 = .ok (.iload_n 1, 1) := dk_27 (dq_lk dX0_daysBeforeMonth_v0 (r := 13) (x := 27) rfl)
theorem dX0_daysBeforeMonth_14 : decode cX0_daysBeforeMonth 14 = .ok (.iconst 2, 1) := dk_5 (dq_lk dX0_daysBeforeMonth_v0 (r := 14) (x := 5) rfl)
theorem dX0_daysBeforeMonth_15 : decode cX0_daysBeforeMonth 15 = .ok (.if_icmp .gt 7, 3) := dk_163 (dq_lk dX0_daysBeforeMonth_v0 (r := 15) (x := 163) rfl) (dq_lk dX0_daysBeforeMonth_v1 (r := 0) (x := 0) rfl) (dq_lk dX0_daysBeforeMonth_v1 (r := 1) (x := 7) rfl) (by decide +kernel)
theorem dX0_daysBeforeMonth_18 : decode cX0_daysBeforeMonth 18 = .ok (.iload_n 2, 1) := dk_28 (dq_lk dX0_daysBeforeMonth_v1 (r := 2) (x := 28) rfl)
theorem dX0_daysBeforeMonth_19 : decode cX0_daysBeforeMonth 19 = .ok (.goto 19, 3) := dk_167 (dq_lk dX0_daysBeforeMonth_v1 (r := 3) (x := 167) rfl) (dq_lk dX0_daysBeforeMonth_v1 (r := 4) (x := 0) rfl) (dq_lk dX0_daysBeforeMonth_v1 (r := 5) (x := 19) rfl) (by decide +kernel)
theorem dX0_daysBeforeMonth_22 : decode cX0_daysBeforeMonth 22 = .ok (.iload_n 0, 1) := dk_26 (dq_lk dX0_daysBeforeMonth_v1 (r := 6) (x := 26) rfl)
theorem dX0_daysBeforeMonth_23 : decode cX0_daysBeforeMonth 23 = .ok (.invokestatic 9, 3) := dk_184 (dq_lk dX0_daysBeforeMonth_v1 (r := 7) (x := 184) rfl) (dq_lk dX0_daysBeforeMonth_v1 (r := 8) (x := 0) rfl) (dq_lk dX0_daysBeforeMonth_v1 (r := 9) (x := 9) rfl)
theorem dX0_daysBeforeMonth_26 : decode cX0_daysBeforeMonth 26 = .ok (.ifCond .eq 9, 3) := dk_153 (dq_lk dX0_daysBeforeMonth_v1 (r := 10) (x := 153) rfl) (dq_lk dX0_daysBeforeMonth_v1 (r := 11) (x := 0) rfl) (dq_lk dX0_daysBeforeMonth_v1 (r := 12) (x := 9) rfl) (by decide +kernel)
theorem dX0_daysBeforeMonth_29 : decode cX0_daysBeforeMonth 29 = .ok (.iload_n 2, 1) := dk_28 (dq_lk dX0_daysBeforeMonth_v1 (r := 13) (x := 28) rfl)
theorem dX0_daysBeforeMonth_30 : decode cX0_daysBeforeMonth 30 = .ok (.iconst 1, 1) := dk_4 (dq_lk dX0_daysBeforeMonth_v1 (r := 14) (x := 4) rfl)
theorem dX0_daysBeforeMonth_31 : decode cX0_daysBeforeMonth 31 = .ok (.isub, 1) := dk_100 (dq_lk dX0_daysBeforeMonth_v1 (r := 15) (x := 100) rfl)
theorem dX0_daysBeforeMonth_32 : decode cX0_daysBeforeMonth 32 = .ok (.goto 6, 3) := dk_167 (dq_lk dX0_daysBeforeMonth_v2 (r := 0) (x := 167) rfl) (dq_lk dX0_daysBeforeMonth_v2 (r := 1) (x := 0) rfl) (dq_lk dX0_daysBeforeMonth_v2 (r := 2) (x := 6) rfl) (by decide +kernel)
theorem dX0_daysBeforeMonth_35 : decode cX0_daysBeforeMonth 35 = .ok (.iload_n 2, 1) := dk_28 (dq_lk dX0_daysBeforeMonth_v2 (r := 3) (x := 28) rfl)
theorem dX0_daysBeforeMonth_36 : decode cX0_daysBeforeMonth 36 = .ok (.iconst 2, 1) := dk_5 (dq_lk dX0_daysBeforeMonth_v2 (r := 4) (x := 5) rfl)
theorem dX0_daysBeforeMonth_37 : decode cX0_daysBeforeMonth 37 = .ok (.isub, 1) := dk_100 (dq_lk dX0_daysBeforeMonth_v2 (r := 5) (x := 100) rfl)
theorem dX0_daysBeforeMonth_38 : decode cX0_daysBeforeMonth 38 = .ok (.ireturn, 1) := dk_172 (dq_lk dX0_daysBeforeMonth_v2 (r := 6) (x := 172) rfl)
theorem dX0_dayOf_v0 : (cX0_dayOf.data.toList.drop 0).take 16 = [26, 184, 0, 26, 26, 27, 184, 0, 30, 96, 28, 96, 4, 100, 172] := by decide +kernel
theorem dX0_dayOf_0 : decode cX0_dayOf 0 = .ok (.iload_n 0, 1) := dk_26 (dq_lk dX0_dayOf_v0 (r := 0) (x := 26) rfl)
theorem dX0_dayOf_1 : decode cX0_dayOf 1 = .ok (.invokestatic 26, 3) := dk_184 (dq_lk dX0_dayOf_v0 (r := 1) (x := 184) rfl) (dq_lk dX0_dayOf_v0 (r := 2) (x := 0) rfl) (dq_lk dX0_dayOf_v0 (r := 3) (x := 26) rfl)
theorem dX0_dayOf_4 : decode cX0_dayOf 4 = .ok (.iload_n 0, 1) := dk_26 (dq_lk dX0_dayOf_v0 (r := 4) (x := 26) rfl)
theorem dX0_dayOf_5 : decode cX0_dayOf 5 = .ok (.iload_n 1, 1) := dk_27 (dq_lk dX0_dayOf_v0 (r := 5) (x := 27) rfl)
theorem dX0_dayOf_6 : decode cX0_dayOf 6 = .ok (.invokestatic 30, 3) := dk_184 (dq_lk dX0_dayOf_v0 (r := 6) (x := 184) rfl) (dq_lk dX0_dayOf_v0 (r := 7) (x := 0) rfl) (dq_lk dX0_dayOf_v0 (r := 8) (x := 30) rfl)
theorem dX0_dayOf_9 : decode cX0_dayOf 9 = .ok (.iadd, 1) := dk_96 (dq_lk dX0_dayOf_v0 (r := 9) (x := 96) rfl)
theorem dX0_dayOf_10 : decode cX0_dayOf 10 = .ok (.iload_n 2, 1) := dk_28 (dq_lk dX0_dayOf_v0 (r := 10) (x := 28) rfl)
theorem dX0_dayOf_11 : decode cX0_dayOf 11 = .ok (.iadd, 1) := dk_96 (dq_lk dX0_dayOf_v0 (r := 11) (x := 96) rfl)
theorem dX0_dayOf_12 : decode cX0_dayOf 12 = .ok (.iconst 1, 1) := dk_4 (dq_lk dX0_dayOf_v0 (r := 12) (x := 4) rfl)
theorem dX0_dayOf_13 : decode cX0_dayOf 13 = .ok (.isub, 1) := dk_100 (dq_lk dX0_dayOf_v0 (r := 13) (x := 100) rfl)
theorem dX0_dayOf_14 : decode cX0_dayOf 14 = .ok (.ireturn, 1) := dk_172 (dq_lk dX0_dayOf_v0 (r := 14) (x := 172) rfl)
theorem dX0_yearOf_v0 : (cX0_yearOf.data.toList.drop 0).take 16 = [17, 7, 118, 26, 17, 170, 101, 100, 17, 1, 110, 108, 96, 60, 26, 27] := by decide +kernel
theorem dX0_yearOf_v1 : (cX0_yearOf.data.toList.drop 16).take 16 = [4, 96, 184, 0, 26, 162, 0, 7, 27, 167, 0, 6, 27, 4, 96, 172] := by decide +kernel
theorem dX0_yearOf_0 : decode cX0_yearOf 0 = .ok (.sipush 1910, 3) := dk_17 (dq_lk dX0_yearOf_v0 (r := 0) (x := 17) rfl) (dq_lk dX0_yearOf_v0 (r := 1) (x := 7) rfl) (dq_lk dX0_yearOf_v0 (r := 2) (x := 118) rfl) (by decide +kernel)
theorem dX0_yearOf_3 : decode cX0_yearOf 3 = .ok (.iload_n 0, 1) := dk_26 (dq_lk dX0_yearOf_v0 (r := 3) (x := 26) rfl)
theorem dX0_yearOf_4 : decode cX0_yearOf 4 = .ok (.sipush (-21915), 3) := dk_17 (dq_lk dX0_yearOf_v0 (r := 4) (x := 17) rfl) (dq_lk dX0_yearOf_v0 (r := 5) (x := 170) rfl) (dq_lk dX0_yearOf_v0 (r := 6) (x := 101) rfl) (by decide +kernel)
theorem dX0_yearOf_7 : decode cX0_yearOf 7 = .ok (.isub, 1) := dk_100 (dq_lk dX0_yearOf_v0 (r := 7) (x := 100) rfl)
theorem dX0_yearOf_8 : decode cX0_yearOf 8 = .ok (.sipush 366, 3) := dk_17 (dq_lk dX0_yearOf_v0 (r := 8) (x := 17) rfl) (dq_lk dX0_yearOf_v0 (r := 9) (x := 1) rfl) (dq_lk dX0_yearOf_v0 (r := 10) (x := 110) rfl) (by decide +kernel)
theorem dX0_yearOf_11 : decode cX0_yearOf 11 = .ok (.idiv, 1) := dk_108 (dq_lk dX0_yearOf_v0 (r := 11) (x := 108) rfl)
theorem dX0_yearOf_12 : decode cX0_yearOf 12 = .ok (.iadd, 1) := dk_96 (dq_lk dX0_yearOf_v0 (r := 12) (x := 96) rfl)
theorem dX0_yearOf_13 : decode cX0_yearOf 13 = .ok (.istore_n 1, 1) := dk_60 (dq_lk dX0_yearOf_v0 (r := 13) (x := 60) rfl)
theorem dX0_yearOf_14 : decode cX0_yearOf 14 = .ok (.iload_n 0, 1) := dk_26 (dq_lk dX0_yearOf_v0 (r := 14) (x := 26) rfl)
theorem dX0_yearOf_15 : decode cX0_yearOf 15 = .ok (.iload_n 1, 1) := dk_27 (dq_lk dX0_yearOf_v0 (r := 15) (x := 27) rfl)
theorem dX0_yearOf_16 : decode cX0_yearOf 16 = .ok (.iconst 1, 1) := dk_4 (dq_lk dX0_yearOf_v1 (r := 0) (x := 4) rfl)
theorem dX0_yearOf_17 : decode cX0_yearOf 17 = .ok (.iadd, 1) := dk_96 (dq_lk dX0_yearOf_v1 (r := 1) (x := 96) rfl)
theorem dX0_yearOf_18 : decode cX0_yearOf 18 = .ok (.invokestatic 26, 3) := dk_184 (dq_lk dX0_yearOf_v1 (r := 2) (x := 184) rfl) (dq_lk dX0_yearOf_v1 (r := 3) (x := 0) rfl) (dq_lk dX0_yearOf_v1 (r := 4) (x := 26) rfl)
theorem dX0_yearOf_21 : decode cX0_yearOf 21 = .ok (.if_icmp .ge 7, 3) := dk_162 (dq_lk dX0_yearOf_v1 (r := 5) (x := 162) rfl) (dq_lk dX0_yearOf_v1 (r := 6) (x := 0) rfl) (dq_lk dX0_yearOf_v1 (r := 7) (x := 7) rfl) (by decide +kernel)
theorem dX0_yearOf_24 : decode cX0_yearOf 24 = .ok (.iload_n 1, 1) := dk_27 (dq_lk dX0_yearOf_v1 (r := 8) (x := 27) rfl)
theorem dX0_yearOf_25 : decode cX0_yearOf 25 = .ok (.goto 6, 3) := dk_167 (dq_lk dX0_yearOf_v1 (r := 9) (x := 167) rfl) (dq_lk dX0_yearOf_v1 (r := 10) (x := 0) rfl) (dq_lk dX0_yearOf_v1 (r := 11) (x := 6) rfl) (by decide +kernel)
theorem dX0_yearOf_28 : decode cX0_yearOf 28 = .ok (.iload_n 1, 1) := dk_27 (dq_lk dX0_yearOf_v1 (r := 12) (x := 27) rfl)
theorem dX0_yearOf_29 : decode cX0_yearOf 29 = .ok (.iconst 1, 1) := dk_4 (dq_lk dX0_yearOf_v1 (r := 13) (x := 4) rfl)
theorem dX0_yearOf_30 : decode cX0_yearOf 30 = .ok (.iadd, 1) := dk_96 (dq_lk dX0_yearOf_v1 (r := 14) (x := 96) rfl)
theorem dX0_yearOf_31 : decode cX0_yearOf 31 = .ok (.ireturn, 1) := dk_172 (dq_lk dX0_yearOf_v1 (r := 15) (x := 172) rfl)
theorem dX0_dayOfYear_v0 : (cX0_dayOfYear.data.toList.drop 0).take 16 = [26, 26, 184, 0, 33, 184, 0, 26, 100, 4, 96, 172] := by decide +kernel
theorem dX0_dayOfYear_0 : decode cX0_dayOfYear 0 = .ok (.iload_n 0, 1) := dk_26 (dq_lk dX0_dayOfYear_v0 (r := 0) (x := 26) rfl)
theorem dX0_dayOfYear_1 : decode cX0_dayOfYear 1 = .ok (.iload_n 0, 1) := dk_26 (dq_lk dX0_dayOfYear_v0 (r := 1) (x := 26) rfl)
theorem dX0_dayOfYear_2 : decode cX0_dayOfYear 2 = .ok (.invokestatic 33, 3) := dk_184 (dq_lk dX0_dayOfYear_v0 (r := 2) (x := 184) rfl) (dq_lk dX0_dayOfYear_v0 (r := 3) (x := 0) rfl) (dq_lk dX0_dayOfYear_v0 (r := 4) (x := 33) rfl)
theorem dX0_dayOfYear_5 : decode cX0_dayOfYear 5 = .ok (.invokestatic 26, 3) := dk_184 (dq_lk dX0_dayOfYear_v0 (r := 5) (x := 184) rfl) (dq_lk dX0_dayOfYear_v0 (r := 6) (x := 0) rfl) (dq_lk dX0_dayOfYear_v0 (r := 7) (x := 26) rfl)
theorem dX0_dayOfYear_8 : decode cX0_dayOfYear 8 = .ok (.isub, 1) := dk_100 (dq_lk dX0_dayOfYear_v0 (r := 8) (x := 100) rfl)
theorem dX0_dayOfYear_9 : decode cX0_dayOfYear 9 = .ok (.iconst 1, 1) := dk_4 (dq_lk dX0_dayOfYear_v0 (r := 9) (x := 4) rfl)
theorem dX0_dayOfYear_10 : decode cX0_dayOfYear 10 = .ok (.iadd, 1) := dk_96 (dq_lk dX0_dayOfYear_v0 (r := 10) (x := 96) rfl)
theorem dX0_dayOfYear_11 : decode cX0_dayOfYear 11 = .ok (.ireturn, 1) := dk_172 (dq_lk dX0_dayOfYear_v0 (r := 11) (x := 172) rfl)
theorem dX0_monthOf_v0 : (cX0_monthOf.data.toList.drop 0).take 16 = [26, 184, 0, 33, 60, 26, 27, 184, 0, 26, 100, 61, 4, 62, 29, 16] := by decide +kernel
theorem dX0_monthOf_v1 : (cX0_monthOf.data.toList.drop 16).take 16 = [12, 162, 0, 20, 28, 27, 29, 4, 96, 184, 0, 30, 161, 0, 9, 132] := by decide +kernel
theorem dX0_monthOf_v2 : (cX0_monthOf.data.toList.drop 32).take 16 = [3, 1, 167, 255, 236, 29, 172] := by decide +kernel
theorem dX0_monthOf_0 : decode cX0_monthOf 0 = .ok (.iload_n 0, 1) := dk_26 (dq_lk dX0_monthOf_v0 (r := 0) (x := 26) rfl)
theorem dX0_monthOf_1 : decode cX0_monthOf 1 = .ok (.invokestatic 33, 3) := dk_184 (dq_lk dX0_monthOf_v0 (r := 1) (x := 184) rfl) (dq_lk dX0_monthOf_v0 (r := 2) (x := 0) rfl) (dq_lk dX0_monthOf_v0 (r := 3) (x := 33) rfl)
theorem dX0_monthOf_4 : decode cX0_monthOf 4 = .ok (.istore_n 1, 1) := dk_60 (dq_lk dX0_monthOf_v0 (r := 4) (x := 60) rfl)
theorem dX0_monthOf_5 : decode cX0_monthOf 5 = .ok (.iload_n 0, 1) := dk_26 (dq_lk dX0_monthOf_v0 (r := 5) (x := 26) rfl)
theorem dX0_monthOf_6 : decode cX0_monthOf 6 = .ok (.iload_n 1, 1) := dk_27 (dq_lk dX0_monthOf_v0 (r := 6) (x := 27) rfl)
theorem dX0_monthOf_7 : decode cX0_monthOf 7 = .ok (.invokestatic 26, 3) := dk_184 (dq_lk dX0_monthOf_v0 (r := 7) (x := 184) rfl) (dq_lk dX0_monthOf_v0 (r := 8) (x := 0) rfl) (dq_lk dX0_monthOf_v0 (r := 9) (x := 26) rfl)
theorem dX0_monthOf_10 : decode cX0_monthOf 10 = .ok (.isub, 1) := dk_100 (dq_lk dX0_monthOf_v0 (r := 10) (x := 100) rfl)
theorem dX0_monthOf_11 : decode cX0_monthOf 11 = .ok (.istore_n 2, 1) := dk_61 (dq_lk dX0_monthOf_v0 (r := 11) (x := 61) rfl)
theorem dX0_monthOf_12 : decode cX0_monthOf 12 = .ok (.iconst 1, 1) := dk_4 (dq_lk dX0_monthOf_v0 (r := 12) (x := 4) rfl)
theorem dX0_monthOf_13 : decode cX0_monthOf 13 = .ok (.istore_n 3, 1) := dk_62 (dq_lk dX0_monthOf_v0 (r := 13) (x := 62) rfl)
theorem dX0_monthOf_14 : decode cX0_monthOf 14 = .ok (.iload_n 3, 1) := dk_29 (dq_lk dX0_monthOf_v0 (r := 14) (x := 29) rfl)
theorem dX0_monthOf_15 : decode cX0_monthOf 15 = .ok (.bipush 12, 2) := dk_16 (dq_lk dX0_monthOf_v0 (r := 15) (x := 16) rfl) (dq_lk dX0_monthOf_v1 (r := 0) (x := 12) rfl) (by decide +kernel)
theorem dX0_monthOf_17 : decode cX0_monthOf 17 = .ok (.if_icmp .ge 20, 3) := dk_162 (dq_lk dX0_monthOf_v1 (r := 1) (x := 162) rfl) (dq_lk dX0_monthOf_v1 (r := 2) (x := 0) rfl) (dq_lk dX0_monthOf_v1 (r := 3) (x := 20) rfl) (by decide +kernel)
theorem dX0_monthOf_20 : decode cX0_monthOf 20 = .ok (.iload_n 2, 1) := dk_28 (dq_lk dX0_monthOf_v1 (r := 4) (x := 28) rfl)
theorem dX0_monthOf_21 : decode cX0_monthOf 21 = .ok (.iload_n 1, 1) := dk_27 (dq_lk dX0_monthOf_v1 (r := 5) (x := 27) rfl)
theorem dX0_monthOf_22 : decode cX0_monthOf 22 = .ok (.iload_n 3, 1) := dk_29 (dq_lk dX0_monthOf_v1 (r := 6) (x := 29) rfl)
theorem dX0_monthOf_23 : decode cX0_monthOf 23 = .ok (.iconst 1, 1) := dk_4 (dq_lk dX0_monthOf_v1 (r := 7) (x := 4) rfl)
theorem dX0_monthOf_24 : decode cX0_monthOf 24 = .ok (.iadd, 1) := dk_96 (dq_lk dX0_monthOf_v1 (r := 8) (x := 96) rfl)
theorem dX0_monthOf_25 : decode cX0_monthOf 25 = .ok (.invokestatic 30, 3) := dk_184 (dq_lk dX0_monthOf_v1 (r := 9) (x := 184) rfl) (dq_lk dX0_monthOf_v1 (r := 10) (x := 0) rfl) (dq_lk dX0_monthOf_v1 (r := 11) (x := 30) rfl)
theorem dX0_monthOf_28 : decode cX0_monthOf 28 = .ok (.if_icmp .lt 9, 3) := dk_161 (dq_lk dX0_monthOf_v1 (r := 12) (x := 161) rfl) (dq_lk dX0_monthOf_v1 (r := 13) (x := 0) rfl) (dq_lk dX0_monthOf_v1 (r := 14) (x := 9) rfl) (by decide +kernel)
theorem dX0_monthOf_31 : decode cX0_monthOf 31 = .ok (.iinc 3 1, 3) := dk_132 (dq_lk dX0_monthOf_v1 (r := 15) (x := 132) rfl) (dq_lk dX0_monthOf_v2 (r := 0) (x := 3) rfl) (dq_lk dX0_monthOf_v2 (r := 1) (x := 1) rfl) (by decide +kernel)
theorem dX0_monthOf_34 : decode cX0_monthOf 34 = .ok (.goto (-20), 3) := dk_167 (dq_lk dX0_monthOf_v2 (r := 2) (x := 167) rfl) (dq_lk dX0_monthOf_v2 (r := 3) (x := 255) rfl) (dq_lk dX0_monthOf_v2 (r := 4) (x := 236) rfl) (by decide +kernel)
theorem dX0_monthOf_37 : decode cX0_monthOf 37 = .ok (.iload_n 3, 1) := dk_29 (dq_lk dX0_monthOf_v2 (r := 5) (x := 29) rfl)
theorem dX0_monthOf_38 : decode cX0_monthOf 38 = .ok (.ireturn, 1) := dk_172 (dq_lk dX0_monthOf_v2 (r := 6) (x := 172) rfl)
theorem dX0_dayOfMonth_v0 : (cX0_dayOfMonth.data.toList.drop 0).take 16 = [26, 184, 0, 36, 26, 184, 0, 33, 26, 184, 0, 39, 184, 0, 30, 100] := by decide +kernel
theorem dX0_dayOfMonth_v1 : (cX0_dayOfMonth.data.toList.drop 16).take 16 = [172] := by decide +kernel
theorem dX0_dayOfMonth_0 : decode cX0_dayOfMonth 0 = .ok (.iload_n 0, 1) := dk_26 (dq_lk dX0_dayOfMonth_v0 (r := 0) (x := 26) rfl)
theorem dX0_dayOfMonth_1 : decode cX0_dayOfMonth 1 = .ok (.invokestatic 36, 3) := dk_184 (dq_lk dX0_dayOfMonth_v0 (r := 1) (x := 184) rfl) (dq_lk dX0_dayOfMonth_v0 (r := 2) (x := 0) rfl) (dq_lk dX0_dayOfMonth_v0 (r := 3) (x := 36) rfl)
theorem dX0_dayOfMonth_4 : decode cX0_dayOfMonth 4 = .ok (.iload_n 0, 1) := dk_26 (dq_lk dX0_dayOfMonth_v0 (r := 4) (x := 26) rfl)
theorem dX0_dayOfMonth_5 : decode cX0_dayOfMonth 5 = .ok (.invokestatic 33, 3) := dk_184 (dq_lk dX0_dayOfMonth_v0 (r := 5) (x := 184) rfl) (dq_lk dX0_dayOfMonth_v0 (r := 6) (x := 0) rfl) (dq_lk dX0_dayOfMonth_v0 (r := 7) (x := 33) rfl)
theorem dX0_dayOfMonth_8 : decode cX0_dayOfMonth 8 = .ok (.iload_n 0, 1) := dk_26 (dq_lk dX0_dayOfMonth_v0 (r := 8) (x := 26) rfl)
theorem dX0_dayOfMonth_9 : decode cX0_dayOfMonth 9 = .ok (.invokestatic 39, 3) := dk_184 (dq_lk dX0_dayOfMonth_v0 (r := 9) (x := 184) rfl) (dq_lk dX0_dayOfMonth_v0 (r := 10) (x := 0) rfl) (dq_lk dX0_dayOfMonth_v0 (r := 11) (x := 39) rfl)
theorem dX0_dayOfMonth_12 : decode cX0_dayOfMonth 12 = .ok (.invokestatic 30, 3) := dk_184 (dq_lk dX0_dayOfMonth_v0 (r := 12) (x := 184) rfl) (dq_lk dX0_dayOfMonth_v0 (r := 13) (x := 0) rfl) (dq_lk dX0_dayOfMonth_v0 (r := 14) (x := 30) rfl)
theorem dX0_dayOfMonth_15 : decode cX0_dayOfMonth 15 = .ok (.isub, 1) := dk_100 (dq_lk dX0_dayOfMonth_v0 (r := 15) (x := 100) rfl)
theorem dX0_dayOfMonth_16 : decode cX0_dayOfMonth 16 = .ok (.ireturn, 1) := dk_172 (dq_lk dX0_dayOfMonth_v1 (r := 0) (x := 172) rfl)
theorem dX0_dayOfWeek_v0 : (cX0_dayOfWeek.data.toList.drop 0).take 16 = [26, 6, 96, 16, 7, 184, 0, 42, 4, 96, 172] := by decide +kernel
theorem dX0_dayOfWeek_0 : decode cX0_dayOfWeek 0 = .ok (.iload_n 0, 1) := dk_26 (dq_lk dX0_dayOfWeek_v0 (r := 0) (x := 26) rfl)
theorem dX0_dayOfWeek_1 : decode cX0_dayOfWeek 1 = .ok (.iconst 3, 1) := dk_6 (dq_lk dX0_dayOfWeek_v0 (r := 1) (x := 6) rfl)
theorem dX0_dayOfWeek_2 : decode cX0_dayOfWeek 2 = .ok (.iadd, 1) := dk_96 (dq_lk dX0_dayOfWeek_v0 (r := 2) (x := 96) rfl)
theorem dX0_dayOfWeek_3 : decode cX0_dayOfWeek 3 = .ok (.bipush 7, 2) := dk_16 (dq_lk dX0_dayOfWeek_v0 (r := 3) (x := 16) rfl) (dq_lk dX0_dayOfWeek_v0 (r := 4) (x := 7) rfl) (by decide +kernel)
theorem dX0_dayOfWeek_5 : decode cX0_dayOfWeek 5 = .ok (.invokestatic 42, 3) := dk_184 (dq_lk dX0_dayOfWeek_v0 (r := 5) (x := 184) rfl) (dq_lk dX0_dayOfWeek_v0 (r := 6) (x := 0) rfl) (dq_lk dX0_dayOfWeek_v0 (r := 7) (x := 42) rfl)
theorem dX0_dayOfWeek_8 : decode cX0_dayOfWeek 8 = .ok (.iconst 1, 1) := dk_4 (dq_lk dX0_dayOfWeek_v0 (r := 8) (x := 4) rfl)
theorem dX0_dayOfWeek_9 : decode cX0_dayOfWeek 9 = .ok (.iadd, 1) := dk_96 (dq_lk dX0_dayOfWeek_v0 (r := 9) (x := 96) rfl)
theorem dX0_dayOfWeek_10 : decode cX0_dayOfWeek 10 = .ok (.ireturn, 1) := dk_172 (dq_lk dX0_dayOfWeek_v0 (r := 10) (x := 172) rfl)
theorem dX2_compared_v0 : (cX2_compared.data.toList.drop 0).take 16 = [30, 32, 148, 156, 0, 7, 2, 167, 0, 14, 30, 32, 148, 158, 0, 7] := by decide +kernel
theorem dX2_compared_v1 : (cX2_compared.data.toList.drop 16).take 16 = [4, 167, 0, 4, 3, 172] := by decide +kernel
theorem dX2_compared_0 : decode cX2_compared 0 = .ok (.lload_n 0, 1) := dk_30 (dq_lk dX2_compared_v0 (r := 0) (x := 30) rfl)
theorem dX2_compared_1 : decode cX2_compared 1 = .ok (.lload_n 2, 1) := dk_32 (dq_lk dX2_compared_v0 (r := 1) (x := 32) rfl)
theorem dX2_compared_2 : decode cX2_compared 2 = .ok (.lcmp, 1) := dk_148 (dq_lk dX2_compared_v0 (r := 2) (x := 148) rfl)
theorem dX2_compared_3 : decode cX2_compared 3 = .ok (.ifCond .ge 7, 3) := dk_156 (dq_lk dX2_compared_v0 (r := 3) (x := 156) rfl) (dq_lk dX2_compared_v0 (r := 4) (x := 0) rfl) (dq_lk dX2_compared_v0 (r := 5) (x := 7) rfl) (by decide +kernel)
theorem dX2_compared_6 : decode cX2_compared 6 = .ok (.iconst (-1), 1) := dk_2 (dq_lk dX2_compared_v0 (r := 6) (x := 2) rfl)
theorem dX2_compared_7 : decode cX2_compared 7 = .ok (.goto 14, 3) := dk_167 (dq_lk dX2_compared_v0 (r := 7) (x := 167) rfl) (dq_lk dX2_compared_v0 (r := 8) (x := 0) rfl) (dq_lk dX2_compared_v0 (r := 9) (x := 14) rfl) (by decide +kernel)
theorem dX2_compared_10 : decode cX2_compared 10 = .ok (.lload_n 0, 1) := dk_30 (dq_lk dX2_compared_v0 (r := 10) (x := 30) rfl)
theorem dX2_compared_11 : decode cX2_compared 11 = .ok (.lload_n 2, 1) := dk_32 (dq_lk dX2_compared_v0 (r := 11) (x := 32) rfl)
theorem dX2_compared_12 : decode cX2_compared 12 = .ok (.lcmp, 1) := dk_148 (dq_lk dX2_compared_v0 (r := 12) (x := 148) rfl)
theorem dX2_compared_13 : decode cX2_compared 13 = .ok (.ifCond .le 7, 3) := dk_158 (dq_lk dX2_compared_v0 (r := 13) (x := 158) rfl) (dq_lk dX2_compared_v0 (r := 14) (x := 0) rfl) (dq_lk dX2_compared_v0 (r := 15) (x := 7) rfl) (by decide +kernel)
theorem dX2_compared_16 : decode cX2_compared 16 = .ok (.iconst 1, 1) := dk_4 (dq_lk dX2_compared_v1 (r := 0) (x := 4) rfl)
theorem dX2_compared_17 : decode cX2_compared 17 = .ok (.goto 4, 3) := dk_167 (dq_lk dX2_compared_v1 (r := 1) (x := 167) rfl) (dq_lk dX2_compared_v1 (r := 2) (x := 0) rfl) (dq_lk dX2_compared_v1 (r := 3) (x := 4) rfl) (by decide +kernel)
theorem dX2_compared_20 : decode cX2_compared 20 = .ok (.iconst 0, 1) := dk_3 (dq_lk dX2_compared_v1 (r := 4) (x := 3) rfl)
theorem dX2_compared_21 : decode cX2_compared 21 = .ok (.ireturn, 1) := dk_172 (dq_lk dX2_compared_v1 (r := 5) (x := 172) rfl)
theorem dX2_signed_v0 : (cX2_signed.data.toList.drop 0).take 16 = [27, 153, 0, 9, 26, 133, 117, 167, 0, 5, 26, 133, 173] := by decide +kernel
theorem dX2_signed_0 : decode cX2_signed 0 = .ok (.iload_n 1, 1) := dk_27 (dq_lk dX2_signed_v0 (r := 0) (x := 27) rfl)
theorem dX2_signed_1 : decode cX2_signed 1 = .ok (.ifCond .eq 9, 3) := dk_153 (dq_lk dX2_signed_v0 (r := 1) (x := 153) rfl) (dq_lk dX2_signed_v0 (r := 2) (x := 0) rfl) (dq_lk dX2_signed_v0 (r := 3) (x := 9) rfl) (by decide +kernel)
theorem dX2_signed_4 : decode cX2_signed 4 = .ok (.iload_n 0, 1) := dk_26 (dq_lk dX2_signed_v0 (r := 4) (x := 26) rfl)
theorem dX2_signed_5 : decode cX2_signed 5 = .ok (.i2l, 1) := dk_133 (dq_lk dX2_signed_v0 (r := 5) (x := 133) rfl)
theorem dX2_signed_6 : decode cX2_signed 6 = .ok (.lneg, 1) := dk_117 (dq_lk dX2_signed_v0 (r := 6) (x := 117) rfl)
theorem dX2_signed_7 : decode cX2_signed 7 = .ok (.goto 5, 3) := dk_167 (dq_lk dX2_signed_v0 (r := 7) (x := 167) rfl) (dq_lk dX2_signed_v0 (r := 8) (x := 0) rfl) (dq_lk dX2_signed_v0 (r := 9) (x := 5) rfl) (by decide +kernel)
theorem dX2_signed_10 : decode cX2_signed 10 = .ok (.iload_n 0, 1) := dk_26 (dq_lk dX2_signed_v0 (r := 10) (x := 26) rfl)
theorem dX2_signed_11 : decode cX2_signed 11 = .ok (.i2l, 1) := dk_133 (dq_lk dX2_signed_v0 (r := 11) (x := 133) rfl)
theorem dX2_signed_12 : decode cX2_signed 12 = .ok (.lreturn, 1) := dk_173 (dq_lk dX2_signed_v0 (r := 12) (x := 173) rfl)
theorem dX2_secondOf_v0 : (cX2_secondOf.data.toList.drop 0).take 16 = [30, 20, 0, 72, 184, 0, 100, 173] := by decide +kernel
theorem dX2_secondOf_0 : decode cX2_secondOf 0 = .ok (.lload_n 0, 1) := dk_30 (dq_lk dX2_secondOf_v0 (r := 0) (x := 30) rfl)
theorem dX2_secondOf_1 : decode cX2_secondOf 1 = .ok (.ldc2_w 72, 3) := dk_20 (dq_lk dX2_secondOf_v0 (r := 1) (x := 20) rfl) (dq_lk dX2_secondOf_v0 (r := 2) (x := 0) rfl) (dq_lk dX2_secondOf_v0 (r := 3) (x := 72) rfl)
theorem dX2_secondOf_4 : decode cX2_secondOf 4 = .ok (.invokestatic 100, 3) := dk_184 (dq_lk dX2_secondOf_v0 (r := 4) (x := 184) rfl) (dq_lk dX2_secondOf_v0 (r := 5) (x := 0) rfl) (dq_lk dX2_secondOf_v0 (r := 6) (x := 100) rfl)
theorem dX2_secondOf_7 : decode cX2_secondOf 7 = .ok (.lreturn, 1) := dk_173 (dq_lk dX2_secondOf_v0 (r := 7) (x := 173) rfl)
theorem dX2_nanoOf_v0 : (cX2_nanoOf.data.toList.drop 0).take 16 = [30, 20, 0, 72, 184, 1, 21, 136, 172] := by decide +kernel
theorem dX2_nanoOf_0 : decode cX2_nanoOf 0 = .ok (.lload_n 0, 1) := dk_30 (dq_lk dX2_nanoOf_v0 (r := 0) (x := 30) rfl)
theorem dX2_nanoOf_1 : decode cX2_nanoOf 1 = .ok (.ldc2_w 72, 3) := dk_20 (dq_lk dX2_nanoOf_v0 (r := 1) (x := 20) rfl) (dq_lk dX2_nanoOf_v0 (r := 2) (x := 0) rfl) (dq_lk dX2_nanoOf_v0 (r := 3) (x := 72) rfl)
theorem dX2_nanoOf_4 : decode cX2_nanoOf 4 = .ok (.invokestatic 277, 3) := dk_184 (dq_lk dX2_nanoOf_v0 (r := 4) (x := 184) rfl) (dq_lk dX2_nanoOf_v0 (r := 5) (x := 1) rfl) (dq_lk dX2_nanoOf_v0 (r := 6) (x := 21) rfl)
theorem dX2_nanoOf_7 : decode cX2_nanoOf 7 = .ok (.l2i, 1) := dk_136 (dq_lk dX2_nanoOf_v0 (r := 7) (x := 136) rfl)
theorem dX2_nanoOf_8 : decode cX2_nanoOf 8 = .ok (.ireturn, 1) := dk_172 (dq_lk dX2_nanoOf_v0 (r := 8) (x := 172) rfl)
theorem dX2_added_v0 : (cX2_added.data.toList.drop 0).take 16 = [30, 20, 1, 118, 105, 32, 97, 173] := by decide +kernel
theorem dX2_added_0 : decode cX2_added 0 = .ok (.lload_n 0, 1) := dk_30 (dq_lk dX2_added_v0 (r := 0) (x := 30) rfl)
theorem dX2_added_1 : decode cX2_added 1 = .ok (.ldc2_w 374, 3) := dk_20 (dq_lk dX2_added_v0 (r := 1) (x := 20) rfl) (dq_lk dX2_added_v0 (r := 2) (x := 1) rfl) (dq_lk dX2_added_v0 (r := 3) (x := 118) rfl)
theorem dX2_added_4 : decode cX2_added 4 = .ok (.lmul, 1) := dk_105 (dq_lk dX2_added_v0 (r := 4) (x := 105) rfl)
theorem dX2_added_5 : decode cX2_added 5 = .ok (.lload_n 2, 1) := dk_32 (dq_lk dX2_added_v0 (r := 5) (x := 32) rfl)
theorem dX2_added_6 : decode cX2_added 6 = .ok (.ladd, 1) := dk_97 (dq_lk dX2_added_v0 (r := 6) (x := 97) rfl)
theorem dX2_added_7 : decode cX2_added 7 = .ok (.lreturn, 1) := dk_173 (dq_lk dX2_added_v0 (r := 7) (x := 173) rfl)
theorem dX1_tell_v0 : (cX1_tell.data.toList.drop 0).take 16 = [42, 31, 181, 0, 9, 42, 29, 181, 0, 15, 42, 21, 4, 181, 0, 19] := by decide +kernel
theorem dX1_tell_v1 : (cX1_tell.data.toList.drop 16).take 16 = [177] := by decide +kernel
theorem dX1_tell_0 : decode cX1_tell 0 = .ok (.aload_n 0, 1) := dk_42 (dq_lk dX1_tell_v0 (r := 0) (x := 42) rfl)
theorem dX1_tell_1 : decode cX1_tell 1 = .ok (.lload_n 1, 1) := dk_31 (dq_lk dX1_tell_v0 (r := 1) (x := 31) rfl)
theorem dX1_tell_2 : decode cX1_tell 2 = .ok (.putfield 9, 3) := dk_181 (dq_lk dX1_tell_v0 (r := 2) (x := 181) rfl) (dq_lk dX1_tell_v0 (r := 3) (x := 0) rfl) (dq_lk dX1_tell_v0 (r := 4) (x := 9) rfl)
theorem dX1_tell_5 : decode cX1_tell 5 = .ok (.aload_n 0, 1) := dk_42 (dq_lk dX1_tell_v0 (r := 5) (x := 42) rfl)
theorem dX1_tell_6 : decode cX1_tell 6 = .ok (.iload_n 3, 1) := dk_29 (dq_lk dX1_tell_v0 (r := 6) (x := 29) rfl)
theorem dX1_tell_7 : decode cX1_tell 7 = .ok (.putfield 15, 3) := dk_181 (dq_lk dX1_tell_v0 (r := 7) (x := 181) rfl) (dq_lk dX1_tell_v0 (r := 8) (x := 0) rfl) (dq_lk dX1_tell_v0 (r := 9) (x := 15) rfl)
theorem dX1_tell_10 : decode cX1_tell 10 = .ok (.aload_n 0, 1) := dk_42 (dq_lk dX1_tell_v0 (r := 10) (x := 42) rfl)
theorem dX1_tell_11 : decode cX1_tell 11 = .ok (.iload 4, 2) := dk_21 (dq_lk dX1_tell_v0 (r := 11) (x := 21) rfl) (dq_lk dX1_tell_v0 (r := 12) (x := 4) rfl)
theorem dX1_tell_13 : decode cX1_tell 13 = .ok (.putfield 19, 3) := dk_181 (dq_lk dX1_tell_v0 (r := 13) (x := 181) rfl) (dq_lk dX1_tell_v0 (r := 14) (x := 0) rfl) (dq_lk dX1_tell_v0 (r := 15) (x := 19) rfl)
theorem dX1_tell_16 : decode cX1_tell 16 = .ok (.return_, 1) := dk_177 (dq_lk dX1_tell_v1 (r := 0) (x := 177) rfl)
theorem c_X1_tell (tys : List (ClassId × FieldType)) (ws : va_W) (qT aT : Nat) (sT : Int64) (nT oT : Int32) (hT : ws[qT]? = some (aT, .inr (2, [.long sT, .int nT, .int oT]))) (p0 : Int64) (p1 p2 : Int32) : mCt tys yX1_tell cX1_tell 5 none ⟨0, 0, 0, 0⟩ [.ref aT, .long p0, .int p1, .int p2] ws (fun v ws' => v = none ∧ ws' = ws.set qT (aT, .inr (2, [.long p0, .int p1, .int p2]))) mNo := by
  refine mCt.of (by decide +kernel) (Nat.le_of_ble_eq_true rfl) (fun X hX hE => ?_)
  have hX : mOK X RX1 cX1_tell 5 ⟨0, 0, 0, 0⟩ [] tys := hX
  have hq : qT < ws.length := (List.getElem?_eq_some_iff.mp hT).1
  refine r_aload_n hX dX1_tell_0 rfl rfl (r_lload_n hX dX1_tell_1 rfl rfl (r_put hX kf_X1_9 qT hT rfl rfl rfl (Nat.le_of_ble_eq_true rfl) dX1_tell_2 (r_aload_n hX dX1_tell_5 rfl rfl (r_iload_n hX dX1_tell_6 rfl rfl (r_put hX kf_X1_15 qT (List.getElem?_set_self hq) rfl rfl rfl (Nat.le_of_ble_eq_true rfl) dX1_tell_7 ?_)))))
  rw [List.set_set]
  refine r_aload_n hX dX1_tell_10 rfl rfl (r_iload hX dX1_tell_11 rfl (r_put hX kf_X1_19 qT (List.getElem?_set_self hq) rfl rfl rfl (Nat.le_of_ble_eq_true rfl) dX1_tell_13 ?_))
  rw [List.set_set]
  exact r_vret hX hE dX1_tell_16 (Nat.le_of_ble_eq_true rfl) (Nat.le_of_ble_eq_true rfl) ⟨rfl, rfl⟩
theorem dX1_momentSecond_v0 : (cX1_momentSecond.data.toList.drop 0).take 16 = [42, 180, 0, 9, 42, 180, 0, 19, 133, 101, 173] := by decide +kernel
theorem dX1_momentSecond_0 : decode cX1_momentSecond 0 = .ok (.aload_n 0, 1) := dk_42 (dq_lk dX1_momentSecond_v0 (r := 0) (x := 42) rfl)
theorem dX1_momentSecond_1 : decode cX1_momentSecond 1 = .ok (.getfield 9, 3) := dk_180 (dq_lk dX1_momentSecond_v0 (r := 1) (x := 180) rfl) (dq_lk dX1_momentSecond_v0 (r := 2) (x := 0) rfl) (dq_lk dX1_momentSecond_v0 (r := 3) (x := 9) rfl)
theorem dX1_momentSecond_4 : decode cX1_momentSecond 4 = .ok (.aload_n 0, 1) := dk_42 (dq_lk dX1_momentSecond_v0 (r := 4) (x := 42) rfl)
theorem dX1_momentSecond_5 : decode cX1_momentSecond 5 = .ok (.getfield 19, 3) := dk_180 (dq_lk dX1_momentSecond_v0 (r := 5) (x := 180) rfl) (dq_lk dX1_momentSecond_v0 (r := 6) (x := 0) rfl) (dq_lk dX1_momentSecond_v0 (r := 7) (x := 19) rfl)
theorem dX1_momentSecond_8 : decode cX1_momentSecond 8 = .ok (.i2l, 1) := dk_133 (dq_lk dX1_momentSecond_v0 (r := 8) (x := 133) rfl)
theorem dX1_momentSecond_9 : decode cX1_momentSecond 9 = .ok (.lsub, 1) := dk_101 (dq_lk dX1_momentSecond_v0 (r := 9) (x := 101) rfl)
theorem dX1_momentSecond_10 : decode cX1_momentSecond 10 = .ok (.lreturn, 1) := dk_173 (dq_lk dX1_momentSecond_v0 (r := 10) (x := 173) rfl)
theorem dX1_day_v0 : (cX1_day.data.toList.drop 0).take 16 = [42, 180, 0, 9, 20, 0, 22, 184, 0, 24, 136, 172] := by decide +kernel
theorem dX1_day_0 : decode cX1_day 0 = .ok (.aload_n 0, 1) := dk_42 (dq_lk dX1_day_v0 (r := 0) (x := 42) rfl)
theorem dX1_day_1 : decode cX1_day 1 = .ok (.getfield 9, 3) := dk_180 (dq_lk dX1_day_v0 (r := 1) (x := 180) rfl) (dq_lk dX1_day_v0 (r := 2) (x := 0) rfl) (dq_lk dX1_day_v0 (r := 3) (x := 9) rfl)
theorem dX1_day_4 : decode cX1_day 4 = .ok (.ldc2_w 22, 3) := dk_20 (dq_lk dX1_day_v0 (r := 4) (x := 20) rfl) (dq_lk dX1_day_v0 (r := 5) (x := 0) rfl) (dq_lk dX1_day_v0 (r := 6) (x := 22) rfl)
theorem dX1_day_7 : decode cX1_day 7 = .ok (.invokestatic 24, 3) := dk_184 (dq_lk dX1_day_v0 (r := 7) (x := 184) rfl) (dq_lk dX1_day_v0 (r := 8) (x := 0) rfl) (dq_lk dX1_day_v0 (r := 9) (x := 24) rfl)
theorem dX1_day_10 : decode cX1_day 10 = .ok (.l2i, 1) := dk_136 (dq_lk dX1_day_v0 (r := 10) (x := 136) rfl)
theorem dX1_day_11 : decode cX1_day 11 = .ok (.ireturn, 1) := dk_172 (dq_lk dX1_day_v0 (r := 11) (x := 172) rfl)
theorem dX1_beginOfDay_v0 : (cX1_beginOfDay.data.toList.drop 0).take 16 = [42, 182, 0, 30, 133, 20, 0, 22, 105, 173] := by decide +kernel
theorem dX1_beginOfDay_0 : decode cX1_beginOfDay 0 = .ok (.aload_n 0, 1) := dk_42 (dq_lk dX1_beginOfDay_v0 (r := 0) (x := 42) rfl)
theorem dX1_beginOfDay_1 : decode cX1_beginOfDay 1 = .ok (.invokevirtual 30, 3) := dk_182 (dq_lk dX1_beginOfDay_v0 (r := 1) (x := 182) rfl) (dq_lk dX1_beginOfDay_v0 (r := 2) (x := 0) rfl) (dq_lk dX1_beginOfDay_v0 (r := 3) (x := 30) rfl)
theorem dX1_beginOfDay_4 : decode cX1_beginOfDay 4 = .ok (.i2l, 1) := dk_133 (dq_lk dX1_beginOfDay_v0 (r := 4) (x := 133) rfl)
theorem dX1_beginOfDay_5 : decode cX1_beginOfDay 5 = .ok (.ldc2_w 22, 3) := dk_20 (dq_lk dX1_beginOfDay_v0 (r := 5) (x := 20) rfl) (dq_lk dX1_beginOfDay_v0 (r := 6) (x := 0) rfl) (dq_lk dX1_beginOfDay_v0 (r := 7) (x := 22) rfl)
theorem dX1_beginOfDay_8 : decode cX1_beginOfDay 8 = .ok (.lmul, 1) := dk_105 (dq_lk dX1_beginOfDay_v0 (r := 8) (x := 105) rfl)
theorem dX1_beginOfDay_9 : decode cX1_beginOfDay 9 = .ok (.lreturn, 1) := dk_173 (dq_lk dX1_beginOfDay_v0 (r := 9) (x := 173) rfl)
theorem dX1_secondOfDay_v0 : (cX1_secondOfDay.data.toList.drop 0).take 16 = [42, 180, 0, 9, 20, 0, 22, 184, 0, 45, 136, 172] := by decide +kernel
theorem dX1_secondOfDay_0 : decode cX1_secondOfDay 0 = .ok (.aload_n 0, 1) := dk_42 (dq_lk dX1_secondOfDay_v0 (r := 0) (x := 42) rfl)
theorem dX1_secondOfDay_1 : decode cX1_secondOfDay 1 = .ok (.getfield 9, 3) := dk_180 (dq_lk dX1_secondOfDay_v0 (r := 1) (x := 180) rfl) (dq_lk dX1_secondOfDay_v0 (r := 2) (x := 0) rfl) (dq_lk dX1_secondOfDay_v0 (r := 3) (x := 9) rfl)
theorem dX1_secondOfDay_4 : decode cX1_secondOfDay 4 = .ok (.ldc2_w 22, 3) := dk_20 (dq_lk dX1_secondOfDay_v0 (r := 4) (x := 20) rfl) (dq_lk dX1_secondOfDay_v0 (r := 5) (x := 0) rfl) (dq_lk dX1_secondOfDay_v0 (r := 6) (x := 22) rfl)
theorem dX1_secondOfDay_7 : decode cX1_secondOfDay 7 = .ok (.invokestatic 45, 3) := dk_184 (dq_lk dX1_secondOfDay_v0 (r := 7) (x := 184) rfl) (dq_lk dX1_secondOfDay_v0 (r := 8) (x := 0) rfl) (dq_lk dX1_secondOfDay_v0 (r := 9) (x := 45) rfl)
theorem dX1_secondOfDay_10 : decode cX1_secondOfDay 10 = .ok (.l2i, 1) := dk_136 (dq_lk dX1_secondOfDay_v0 (r := 10) (x := 136) rfl)
theorem dX1_secondOfDay_11 : decode cX1_secondOfDay 11 = .ok (.ireturn, 1) := dk_172 (dq_lk dX1_secondOfDay_v0 (r := 11) (x := 172) rfl)
theorem dX1_hour_v0 : (cX1_hour.data.toList.drop 0).take 16 = [42, 182, 0, 48, 17, 14, 16, 108, 172] := by decide +kernel
theorem dX1_hour_0 : decode cX1_hour 0 = .ok (.aload_n 0, 1) := dk_42 (dq_lk dX1_hour_v0 (r := 0) (x := 42) rfl)
theorem dX1_hour_1 : decode cX1_hour 1 = .ok (.invokevirtual 48, 3) := dk_182 (dq_lk dX1_hour_v0 (r := 1) (x := 182) rfl) (dq_lk dX1_hour_v0 (r := 2) (x := 0) rfl) (dq_lk dX1_hour_v0 (r := 3) (x := 48) rfl)
theorem dX1_hour_4 : decode cX1_hour 4 = .ok (.sipush 3600, 3) := dk_17 (dq_lk dX1_hour_v0 (r := 4) (x := 17) rfl) (dq_lk dX1_hour_v0 (r := 5) (x := 14) rfl) (dq_lk dX1_hour_v0 (r := 6) (x := 16) rfl) (by decide +kernel)
theorem dX1_hour_7 : decode cX1_hour 7 = .ok (.idiv, 1) := dk_108 (dq_lk dX1_hour_v0 (r := 7) (x := 108) rfl)
theorem dX1_hour_8 : decode cX1_hour 8 = .ok (.ireturn, 1) := dk_172 (dq_lk dX1_hour_v0 (r := 8) (x := 172) rfl)
theorem dX1_minute_v0 : (cX1_minute.data.toList.drop 0).take 16 = [42, 182, 0, 48, 16, 60, 108, 16, 60, 112, 172] := by decide +kernel
theorem dX1_minute_0 : decode cX1_minute 0 = .ok (.aload_n 0, 1) := dk_42 (dq_lk dX1_minute_v0 (r := 0) (x := 42) rfl)
theorem dX1_minute_1 : decode cX1_minute 1 = .ok (.invokevirtual 48, 3) := dk_182 (dq_lk dX1_minute_v0 (r := 1) (x := 182) rfl) (dq_lk dX1_minute_v0 (r := 2) (x := 0) rfl) (dq_lk dX1_minute_v0 (r := 3) (x := 48) rfl)
theorem dX1_minute_4 : decode cX1_minute 4 = .ok (.bipush 60, 2) := dk_16 (dq_lk dX1_minute_v0 (r := 4) (x := 16) rfl) (dq_lk dX1_minute_v0 (r := 5) (x := 60) rfl) (by decide +kernel)
theorem dX1_minute_6 : decode cX1_minute 6 = .ok (.idiv, 1) := dk_108 (dq_lk dX1_minute_v0 (r := 6) (x := 108) rfl)
theorem dX1_minute_7 : decode cX1_minute 7 = .ok (.bipush 60, 2) := dk_16 (dq_lk dX1_minute_v0 (r := 7) (x := 16) rfl) (dq_lk dX1_minute_v0 (r := 8) (x := 60) rfl) (by decide +kernel)
theorem dX1_minute_9 : decode cX1_minute 9 = .ok (.irem, 1) := dk_112 (dq_lk dX1_minute_v0 (r := 9) (x := 112) rfl)
theorem dX1_minute_10 : decode cX1_minute 10 = .ok (.ireturn, 1) := dk_172 (dq_lk dX1_minute_v0 (r := 10) (x := 172) rfl)
theorem dX1_secondOfMinute_v0 : (cX1_secondOfMinute.data.toList.drop 0).take 16 = [42, 182, 0, 48, 16, 60, 112, 172] := by decide +kernel
theorem dX1_secondOfMinute_0 : decode cX1_secondOfMinute 0 = .ok (.aload_n 0, 1) := dk_42 (dq_lk dX1_secondOfMinute_v0 (r := 0) (x := 42) rfl)
theorem dX1_secondOfMinute_1 : decode cX1_secondOfMinute 1 = .ok (.invokevirtual 48, 3) := dk_182 (dq_lk dX1_secondOfMinute_v0 (r := 1) (x := 182) rfl) (dq_lk dX1_secondOfMinute_v0 (r := 2) (x := 0) rfl) (dq_lk dX1_secondOfMinute_v0 (r := 3) (x := 48) rfl)
theorem dX1_secondOfMinute_4 : decode cX1_secondOfMinute 4 = .ok (.bipush 60, 2) := dk_16 (dq_lk dX1_secondOfMinute_v0 (r := 4) (x := 16) rfl) (dq_lk dX1_secondOfMinute_v0 (r := 5) (x := 60) rfl) (by decide +kernel)
theorem dX1_secondOfMinute_6 : decode cX1_secondOfMinute 6 = .ok (.irem, 1) := dk_112 (dq_lk dX1_secondOfMinute_v0 (r := 6) (x := 112) rfl)
theorem dX1_secondOfMinute_7 : decode cX1_secondOfMinute 7 = .ok (.ireturn, 1) := dk_172 (dq_lk dX1_secondOfMinute_v0 (r := 7) (x := 172) rfl)
theorem dX1_months_v0 : (cX1_months.data.toList.drop 0).take 16 = [42, 182, 0, 30, 184, 0, 34, 133, 20, 0, 40, 105, 42, 182, 0, 30] := by decide +kernel
theorem dX1_months_v1 : (cX1_months.data.toList.drop 16).take 16 = [184, 0, 42, 133, 97, 10, 101, 173] := by decide +kernel
theorem dX1_months_0 : decode cX1_months 0 = .ok (.aload_n 0, 1) := dk_42 (dq_lk dX1_months_v0 (r := 0) (x := 42) rfl)
theorem dX1_months_1 : decode cX1_months 1 = .ok (.invokevirtual 30, 3) := dk_182 (dq_lk dX1_months_v0 (r := 1) (x := 182) rfl) (dq_lk dX1_months_v0 (r := 2) (x := 0) rfl) (dq_lk dX1_months_v0 (r := 3) (x := 30) rfl)
theorem dX1_months_4 : decode cX1_months 4 = .ok (.invokestatic 34, 3) := dk_184 (dq_lk dX1_months_v0 (r := 4) (x := 184) rfl) (dq_lk dX1_months_v0 (r := 5) (x := 0) rfl) (dq_lk dX1_months_v0 (r := 6) (x := 34) rfl)
theorem dX1_months_7 : decode cX1_months 7 = .ok (.i2l, 1) := dk_133 (dq_lk dX1_months_v0 (r := 7) (x := 133) rfl)
theorem dX1_months_8 : decode cX1_months 8 = .ok (.ldc2_w 40, 3) := dk_20 (dq_lk dX1_months_v0 (r := 8) (x := 20) rfl) (dq_lk dX1_months_v0 (r := 9) (x := 0) rfl) (dq_lk dX1_months_v0 (r := 10) (x := 40) rfl)
theorem dX1_months_11 : decode cX1_months 11 = .ok (.lmul, 1) := dk_105 (dq_lk dX1_months_v0 (r := 11) (x := 105) rfl)
theorem dX1_months_12 : decode cX1_months 12 = .ok (.aload_n 0, 1) := dk_42 (dq_lk dX1_months_v0 (r := 12) (x := 42) rfl)
theorem dX1_months_13 : decode cX1_months 13 = .ok (.invokevirtual 30, 3) := dk_182 (dq_lk dX1_months_v0 (r := 13) (x := 182) rfl) (dq_lk dX1_months_v0 (r := 14) (x := 0) rfl) (dq_lk dX1_months_v0 (r := 15) (x := 30) rfl)
theorem dX1_months_16 : decode cX1_months 16 = .ok (.invokestatic 42, 3) := dk_184 (dq_lk dX1_months_v1 (r := 0) (x := 184) rfl) (dq_lk dX1_months_v1 (r := 1) (x := 0) rfl) (dq_lk dX1_months_v1 (r := 2) (x := 42) rfl)
theorem dX1_months_19 : decode cX1_months 19 = .ok (.i2l, 1) := dk_133 (dq_lk dX1_months_v1 (r := 3) (x := 133) rfl)
theorem dX1_months_20 : decode cX1_months 20 = .ok (.ladd, 1) := dk_97 (dq_lk dX1_months_v1 (r := 4) (x := 97) rfl)
theorem dX1_months_21 : decode cX1_months 21 = .ok (.lconst 1, 1) := dk_10 (dq_lk dX1_months_v1 (r := 5) (x := 10) rfl)
theorem dX1_months_22 : decode cX1_months 22 = .ok (.lsub, 1) := dk_101 (dq_lk dX1_months_v1 (r := 6) (x := 101) rfl)
theorem dX1_months_23 : decode cX1_months 23 = .ok (.lreturn, 1) := dk_173 (dq_lk dX1_months_v1 (r := 7) (x := 173) rfl)
theorem dX1_momentOrder_v0 : (cX1_momentOrder.data.toList.drop 0).take 16 = [42, 182, 0, 55, 43, 182, 0, 55, 184, 0, 59, 61, 28, 153, 0, 7] := by decide +kernel
theorem dX1_momentOrder_v1 : (cX1_momentOrder.data.toList.drop 16).take 16 = [28, 167, 0, 16, 42, 180, 0, 15, 133, 43, 180, 0, 15, 133, 184, 0] := by decide +kernel
theorem dX1_momentOrder_v2 : (cX1_momentOrder.data.toList.drop 32).take 16 = [59, 172] := by decide +kernel
theorem dX1_momentOrder_0 : decode cX1_momentOrder 0 = .ok (.aload_n 0, 1) := dk_42 (dq_lk dX1_momentOrder_v0 (r := 0) (x := 42) rfl)
theorem dX1_momentOrder_1 : decode cX1_momentOrder 1 = .ok (.invokevirtual 55, 3) := dk_182 (dq_lk dX1_momentOrder_v0 (r := 1) (x := 182) rfl) (dq_lk dX1_momentOrder_v0 (r := 2) (x := 0) rfl) (dq_lk dX1_momentOrder_v0 (r := 3) (x := 55) rfl)
theorem dX1_momentOrder_4 : decode cX1_momentOrder 4 = .ok (.aload_n 1, 1) := dk_43 (dq_lk dX1_momentOrder_v0 (r := 4) (x := 43) rfl)
theorem dX1_momentOrder_5 : decode cX1_momentOrder 5 = .ok (.invokevirtual 55, 3) := dk_182 (dq_lk dX1_momentOrder_v0 (r := 5) (x := 182) rfl) (dq_lk dX1_momentOrder_v0 (r := 6) (x := 0) rfl) (dq_lk dX1_momentOrder_v0 (r := 7) (x := 55) rfl)
theorem dX1_momentOrder_8 : decode cX1_momentOrder 8 = .ok (.invokestatic 59, 3) := dk_184 (dq_lk dX1_momentOrder_v0 (r := 8) (x := 184) rfl) (dq_lk dX1_momentOrder_v0 (r := 9) (x := 0) rfl) (dq_lk dX1_momentOrder_v0 (r := 10) (x := 59) rfl)
theorem dX1_momentOrder_11 : decode cX1_momentOrder 11 = .ok (.istore_n 2, 1) := dk_61 (dq_lk dX1_momentOrder_v0 (r := 11) (x := 61) rfl)
theorem dX1_momentOrder_12 : decode cX1_momentOrder 12 = .ok (.iload_n 2, 1) := dk_28 (dq_lk dX1_momentOrder_v0 (r := 12) (x := 28) rfl)
theorem dX1_momentOrder_13 : decode cX1_momentOrder 13 = .ok (.ifCond .eq 7, 3) := dk_153 (dq_lk dX1_momentOrder_v0 (r := 13) (x := 153) rfl) (dq_lk dX1_momentOrder_v0 (r := 14) (x := 0) rfl) (dq_lk dX1_momentOrder_v0 (r := 15) (x := 7) rfl) (by decide +kernel)
theorem dX1_momentOrder_16 : decode cX1_momentOrder 16 = .ok (.iload_n 2, 1) := dk_28 (dq_lk dX1_momentOrder_v1 (r := 0) (x := 28) rfl)
theorem dX1_momentOrder_17 : decode cX1_momentOrder 17 = .ok (.goto 16, 3) := dk_167 (dq_lk dX1_momentOrder_v1 (r := 1) (x := 167) rfl) (dq_lk dX1_momentOrder_v1 (r := 2) (x := 0) rfl) (dq_lk dX1_momentOrder_v1 (r := 3) (x := 16) rfl) (by decide +kernel)
theorem dX1_momentOrder_20 : decode cX1_momentOrder 20 = .ok (.aload_n 0, 1) := dk_42 (dq_lk dX1_momentOrder_v1 (r := 4) (x := 42) rfl)
theorem dX1_momentOrder_21 : decode cX1_momentOrder 21 = .ok (.getfield 15, 3) := dk_180 (dq_lk dX1_momentOrder_v1 (r := 5) (x := 180) rfl) (dq_lk dX1_momentOrder_v1 (r := 6) (x := 0) rfl) (dq_lk dX1_momentOrder_v1 (r := 7) (x := 15) rfl)
theorem dX1_momentOrder_24 : decode cX1_momentOrder 24 = .ok (.i2l, 1) := dk_133 (dq_lk dX1_momentOrder_v1 (r := 8) (x := 133) rfl)
theorem dX1_momentOrder_25 : decode cX1_momentOrder 25 = .ok (.aload_n 1, 1) := dk_43 (dq_lk dX1_momentOrder_v1 (r := 9) (x := 43) rfl)
theorem dX1_momentOrder_26 : decode cX1_momentOrder 26 = .ok (.getfield 15, 3) := dk_180 (dq_lk dX1_momentOrder_v1 (r := 10) (x := 180) rfl) (dq_lk dX1_momentOrder_v1 (r := 11) (x := 0) rfl) (dq_lk dX1_momentOrder_v1 (r := 12) (x := 15) rfl)
theorem dX1_momentOrder_29 : decode cX1_momentOrder 29 = .ok (.i2l, 1) := dk_133 (dq_lk dX1_momentOrder_v1 (r := 13) (x := 133) rfl)
theorem dX1_momentOrder_30 : decode cX1_momentOrder 30 = .ok (.invokestatic 59, 3) := dk_184 (dq_lk dX1_momentOrder_v1 (r := 14) (x := 184) rfl) (dq_lk dX1_momentOrder_v1 (r := 15) (x := 0) rfl) (dq_lk dX1_momentOrder_v2 (r := 0) (x := 59) rfl)
theorem dX1_momentOrder_33 : decode cX1_momentOrder 33 = .ok (.ireturn, 1) := dk_172 (dq_lk dX1_momentOrder_v2 (r := 1) (x := 172) rfl)
theorem dX1_isAhead_v0 : (cX1_isAhead.data.toList.drop 0).take 16 = [42, 43, 182, 0, 51, 156, 0, 7, 4, 167, 0, 4, 3, 172] := by decide +kernel
theorem dX1_isAhead_0 : decode cX1_isAhead 0 = .ok (.aload_n 0, 1) := dk_42 (dq_lk dX1_isAhead_v0 (r := 0) (x := 42) rfl)
theorem dX1_isAhead_1 : decode cX1_isAhead 1 = .ok (.aload_n 1, 1) := dk_43 (dq_lk dX1_isAhead_v0 (r := 1) (x := 43) rfl)
theorem dX1_isAhead_2 : decode cX1_isAhead 2 = .ok (.invokevirtual 51, 3) := dk_182 (dq_lk dX1_isAhead_v0 (r := 2) (x := 182) rfl) (dq_lk dX1_isAhead_v0 (r := 3) (x := 0) rfl) (dq_lk dX1_isAhead_v0 (r := 4) (x := 51) rfl)
theorem dX1_isAhead_5 : decode cX1_isAhead 5 = .ok (.ifCond .ge 7, 3) := dk_156 (dq_lk dX1_isAhead_v0 (r := 5) (x := 156) rfl) (dq_lk dX1_isAhead_v0 (r := 6) (x := 0) rfl) (dq_lk dX1_isAhead_v0 (r := 7) (x := 7) rfl) (by decide +kernel)
theorem dX1_isAhead_8 : decode cX1_isAhead 8 = .ok (.iconst 1, 1) := dk_4 (dq_lk dX1_isAhead_v0 (r := 8) (x := 4) rfl)
theorem dX1_isAhead_9 : decode cX1_isAhead 9 = .ok (.goto 4, 3) := dk_167 (dq_lk dX1_isAhead_v0 (r := 9) (x := 167) rfl) (dq_lk dX1_isAhead_v0 (r := 10) (x := 0) rfl) (dq_lk dX1_isAhead_v0 (r := 11) (x := 4) rfl) (by decide +kernel)
theorem dX1_isAhead_12 : decode cX1_isAhead 12 = .ok (.iconst 0, 1) := dk_3 (dq_lk dX1_isAhead_v0 (r := 12) (x := 3) rfl)
theorem dX1_isAhead_13 : decode cX1_isAhead 13 = .ok (.ireturn, 1) := dk_172 (dq_lk dX1_isAhead_v0 (r := 13) (x := 172) rfl)
theorem dX1_isAlike_v0 : (cX1_isAlike.data.toList.drop 0).take 16 = [42, 182, 0, 55, 43, 182, 0, 55, 148, 154, 0, 18, 42, 180, 0, 15] := by decide +kernel
theorem dX1_isAlike_v1 : (cX1_isAlike.data.toList.drop 16).take 16 = [43, 180, 0, 15, 160, 0, 7, 4, 167, 0, 4, 3, 172] := by decide +kernel
theorem dX1_isAlike_0 : decode cX1_isAlike 0 = .ok (.aload_n 0, 1) := dk_42 (dq_lk dX1_isAlike_v0 (r := 0) (x := 42) rfl)
theorem dX1_isAlike_1 : decode cX1_isAlike 1 = .ok (.invokevirtual 55, 3) := dk_182 (dq_lk dX1_isAlike_v0 (r := 1) (x := 182) rfl) (dq_lk dX1_isAlike_v0 (r := 2) (x := 0) rfl) (dq_lk dX1_isAlike_v0 (r := 3) (x := 55) rfl)
theorem dX1_isAlike_4 : decode cX1_isAlike 4 = .ok (.aload_n 1, 1) := dk_43 (dq_lk dX1_isAlike_v0 (r := 4) (x := 43) rfl)
theorem dX1_isAlike_5 : decode cX1_isAlike 5 = .ok (.invokevirtual 55, 3) := dk_182 (dq_lk dX1_isAlike_v0 (r := 5) (x := 182) rfl) (dq_lk dX1_isAlike_v0 (r := 6) (x := 0) rfl) (dq_lk dX1_isAlike_v0 (r := 7) (x := 55) rfl)
theorem dX1_isAlike_8 : decode cX1_isAlike 8 = .ok (.lcmp, 1) := dk_148 (dq_lk dX1_isAlike_v0 (r := 8) (x := 148) rfl)
theorem dX1_isAlike_9 : decode cX1_isAlike 9 = .ok (.ifCond .ne 18, 3) := dk_154 (dq_lk dX1_isAlike_v0 (r := 9) (x := 154) rfl) (dq_lk dX1_isAlike_v0 (r := 10) (x := 0) rfl) (dq_lk dX1_isAlike_v0 (r := 11) (x := 18) rfl) (by decide +kernel)
theorem dX1_isAlike_12 : decode cX1_isAlike 12 = .ok (.aload_n 0, 1) := dk_42 (dq_lk dX1_isAlike_v0 (r := 12) (x := 42) rfl)
theorem dX1_isAlike_13 : decode cX1_isAlike 13 = .ok (.getfield 15, 3) := dk_180 (dq_lk dX1_isAlike_v0 (r := 13) (x := 180) rfl) (dq_lk dX1_isAlike_v0 (r := 14) (x := 0) rfl) (dq_lk dX1_isAlike_v0 (r := 15) (x := 15) rfl)
theorem dX1_isAlike_16 : decode cX1_isAlike 16 = .ok (.aload_n 1, 1) := dk_43 (dq_lk dX1_isAlike_v1 (r := 0) (x := 43) rfl)
theorem dX1_isAlike_17 : decode cX1_isAlike 17 = .ok (.getfield 15, 3) := dk_180 (dq_lk dX1_isAlike_v1 (r := 1) (x := 180) rfl) (dq_lk dX1_isAlike_v1 (r := 2) (x := 0) rfl) (dq_lk dX1_isAlike_v1 (r := 3) (x := 15) rfl)
theorem dX1_isAlike_20 : decode cX1_isAlike 20 = .ok (.if_icmp .ne 7, 3) := dk_160 (dq_lk dX1_isAlike_v1 (r := 4) (x := 160) rfl) (dq_lk dX1_isAlike_v1 (r := 5) (x := 0) rfl) (dq_lk dX1_isAlike_v1 (r := 6) (x := 7) rfl) (by decide +kernel)
theorem dX1_isAlike_23 : decode cX1_isAlike 23 = .ok (.iconst 1, 1) := dk_4 (dq_lk dX1_isAlike_v1 (r := 7) (x := 4) rfl)
theorem dX1_isAlike_24 : decode cX1_isAlike 24 = .ok (.goto 4, 3) := dk_167 (dq_lk dX1_isAlike_v1 (r := 8) (x := 167) rfl) (dq_lk dX1_isAlike_v1 (r := 9) (x := 0) rfl) (dq_lk dX1_isAlike_v1 (r := 10) (x := 4) rfl) (by decide +kernel)
theorem dX1_isAlike_27 : decode cX1_isAlike 27 = .ok (.iconst 0, 1) := dk_3 (dq_lk dX1_isAlike_v1 (r := 11) (x := 3) rfl)
theorem dX1_isAlike_28 : decode cX1_isAlike 28 = .ok (.ireturn, 1) := dk_172 (dq_lk dX1_isAlike_v1 (r := 12) (x := 172) rfl)
theorem dX1_isSame_v0 : (cX1_isSame.data.toList.drop 0).take 16 = [42, 180, 0, 9, 43, 180, 0, 9, 148, 154, 0, 29, 42, 180, 0, 15] := by decide +kernel
theorem dX1_isSame_v1 : (cX1_isSame.data.toList.drop 16).take 16 = [43, 180, 0, 15, 160, 0, 18, 42, 180, 0, 19, 43, 180, 0, 19, 160] := by decide +kernel
theorem dX1_isSame_v2 : (cX1_isSame.data.toList.drop 32).take 16 = [0, 7, 4, 167, 0, 4, 3, 172] := by decide +kernel
theorem dX1_isSame_0 : decode cX1_isSame 0 = .ok (.aload_n 0, 1) := dk_42 (dq_lk dX1_isSame_v0 (r := 0) (x := 42) rfl)
theorem dX1_isSame_1 : decode cX1_isSame 1 = .ok (.getfield 9, 3) := dk_180 (dq_lk dX1_isSame_v0 (r := 1) (x := 180) rfl) (dq_lk dX1_isSame_v0 (r := 2) (x := 0) rfl) (dq_lk dX1_isSame_v0 (r := 3) (x := 9) rfl)
theorem dX1_isSame_4 : decode cX1_isSame 4 = .ok (.aload_n 1, 1) := dk_43 (dq_lk dX1_isSame_v0 (r := 4) (x := 43) rfl)
theorem dX1_isSame_5 : decode cX1_isSame 5 = .ok (.getfield 9, 3) := dk_180 (dq_lk dX1_isSame_v0 (r := 5) (x := 180) rfl) (dq_lk dX1_isSame_v0 (r := 6) (x := 0) rfl) (dq_lk dX1_isSame_v0 (r := 7) (x := 9) rfl)
theorem dX1_isSame_8 : decode cX1_isSame 8 = .ok (.lcmp, 1) := dk_148 (dq_lk dX1_isSame_v0 (r := 8) (x := 148) rfl)
theorem dX1_isSame_9 : decode cX1_isSame 9 = .ok (.ifCond .ne 29, 3) := dk_154 (dq_lk dX1_isSame_v0 (r := 9) (x := 154) rfl) (dq_lk dX1_isSame_v0 (r := 10) (x := 0) rfl) (dq_lk dX1_isSame_v0 (r := 11) (x := 29) rfl) (by decide +kernel)
theorem dX1_isSame_12 : decode cX1_isSame 12 = .ok (.aload_n 0, 1) := dk_42 (dq_lk dX1_isSame_v0 (r := 12) (x := 42) rfl)
theorem dX1_isSame_13 : decode cX1_isSame 13 = .ok (.getfield 15, 3) := dk_180 (dq_lk dX1_isSame_v0 (r := 13) (x := 180) rfl) (dq_lk dX1_isSame_v0 (r := 14) (x := 0) rfl) (dq_lk dX1_isSame_v0 (r := 15) (x := 15) rfl)
theorem dX1_isSame_16 : decode cX1_isSame 16 = .ok (.aload_n 1, 1) := dk_43 (dq_lk dX1_isSame_v1 (r := 0) (x := 43) rfl)
theorem dX1_isSame_17 : decode cX1_isSame 17 = .ok (.getfield 15, 3) := dk_180 (dq_lk dX1_isSame_v1 (r := 1) (x := 180) rfl) (dq_lk dX1_isSame_v1 (r := 2) (x := 0) rfl) (dq_lk dX1_isSame_v1 (r := 3) (x := 15) rfl)
theorem dX1_isSame_20 : decode cX1_isSame 20 = .ok (.if_icmp .ne 18, 3) := dk_160 (dq_lk dX1_isSame_v1 (r := 4) (x := 160) rfl) (dq_lk dX1_isSame_v1 (r := 5) (x := 0) rfl) (dq_lk dX1_isSame_v1 (r := 6) (x := 18) rfl) (by decide +kernel)
theorem dX1_isSame_23 : decode cX1_isSame 23 = .ok (.aload_n 0, 1) := dk_42 (dq_lk dX1_isSame_v1 (r := 7) (x := 42) rfl)
theorem dX1_isSame_24 : decode cX1_isSame 24 = .ok (.getfield 19, 3) := dk_180 (dq_lk dX1_isSame_v1 (r := 8) (x := 180) rfl) (dq_lk dX1_isSame_v1 (r := 9) (x := 0) rfl) (dq_lk dX1_isSame_v1 (r := 10) (x := 19) rfl)
theorem dX1_isSame_27 : decode cX1_isSame 27 = .ok (.aload_n 1, 1) := dk_43 (dq_lk dX1_isSame_v1 (r := 11) (x := 43) rfl)
theorem dX1_isSame_28 : decode cX1_isSame 28 = .ok (.getfield 19, 3) := dk_180 (dq_lk dX1_isSame_v1 (r := 12) (x := 180) rfl) (dq_lk dX1_isSame_v1 (r := 13) (x := 0) rfl) (dq_lk dX1_isSame_v1 (r := 14) (x := 19) rfl)
theorem dX1_isSame_31 : decode cX1_isSame 31 = .ok (.if_icmp .ne 7, 3) := dk_160 (dq_lk dX1_isSame_v1 (r := 15) (x := 160) rfl) (dq_lk dX1_isSame_v2 (r := 0) (x := 0) rfl) (dq_lk dX1_isSame_v2 (r := 1) (x := 7) rfl) (by decide +kernel)
theorem dX1_isSame_34 : decode cX1_isSame 34 = .ok (.iconst 1, 1) := dk_4 (dq_lk dX1_isSame_v2 (r := 2) (x := 4) rfl)
theorem dX1_isSame_35 : decode cX1_isSame 35 = .ok (.goto 4, 3) := dk_167 (dq_lk dX1_isSame_v2 (r := 3) (x := 167) rfl) (dq_lk dX1_isSame_v2 (r := 4) (x := 0) rfl) (dq_lk dX1_isSame_v2 (r := 5) (x := 4) rfl) (by decide +kernel)
theorem dX1_isSame_38 : decode cX1_isSame 38 = .ok (.iconst 0, 1) := dk_3 (dq_lk dX1_isSame_v2 (r := 6) (x := 3) rfl)
theorem dX1_isSame_39 : decode cX1_isSame 39 = .ok (.ireturn, 1) := dk_172 (dq_lk dX1_isSame_v2 (r := 7) (x := 172) rfl)
theorem dX1_orderTo_v0 : (cX1_orderTo.data.toList.drop 0).take 16 = [42, 43, 182, 0, 51, 61, 28, 153, 0, 7, 28, 167, 0, 14, 42, 180] := by decide +kernel
theorem dX1_orderTo_v1 : (cX1_orderTo.data.toList.drop 16).take 16 = [0, 9, 43, 180, 0, 9, 184, 0, 59, 172] := by decide +kernel
theorem dX1_orderTo_0 : decode cX1_orderTo 0 = .ok (.aload_n 0, 1) := dk_42 (dq_lk dX1_orderTo_v0 (r := 0) (x := 42) rfl)
theorem dX1_orderTo_1 : decode cX1_orderTo 1 = .ok (.aload_n 1, 1) := dk_43 (dq_lk dX1_orderTo_v0 (r := 1) (x := 43) rfl)
theorem dX1_orderTo_2 : decode cX1_orderTo 2 = .ok (.invokevirtual 51, 3) := dk_182 (dq_lk dX1_orderTo_v0 (r := 2) (x := 182) rfl) (dq_lk dX1_orderTo_v0 (r := 3) (x := 0) rfl) (dq_lk dX1_orderTo_v0 (r := 4) (x := 51) rfl)
theorem dX1_orderTo_5 : decode cX1_orderTo 5 = .ok (.istore_n 2, 1) := dk_61 (dq_lk dX1_orderTo_v0 (r := 5) (x := 61) rfl)
theorem dX1_orderTo_6 : decode cX1_orderTo 6 = .ok (.iload_n 2, 1) := dk_28 (dq_lk dX1_orderTo_v0 (r := 6) (x := 28) rfl)
theorem dX1_orderTo_7 : decode cX1_orderTo 7 = .ok (.ifCond .eq 7, 3) := dk_153 (dq_lk dX1_orderTo_v0 (r := 7) (x := 153) rfl) (dq_lk dX1_orderTo_v0 (r := 8) (x := 0) rfl) (dq_lk dX1_orderTo_v0 (r := 9) (x := 7) rfl) (by decide +kernel)
theorem dX1_orderTo_10 : decode cX1_orderTo 10 = .ok (.iload_n 2, 1) := dk_28 (dq_lk dX1_orderTo_v0 (r := 10) (x := 28) rfl)
theorem dX1_orderTo_11 : decode cX1_orderTo 11 = .ok (.goto 14, 3) := dk_167 (dq_lk dX1_orderTo_v0 (r := 11) (x := 167) rfl) (dq_lk dX1_orderTo_v0 (r := 12) (x := 0) rfl) (dq_lk dX1_orderTo_v0 (r := 13) (x := 14) rfl) (by decide +kernel)
theorem dX1_orderTo_14 : decode cX1_orderTo 14 = .ok (.aload_n 0, 1) := dk_42 (dq_lk dX1_orderTo_v0 (r := 14) (x := 42) rfl)
theorem dX1_orderTo_15 : decode cX1_orderTo 15 = .ok (.getfield 9, 3) := dk_180 (dq_lk dX1_orderTo_v0 (r := 15) (x := 180) rfl) (dq_lk dX1_orderTo_v1 (r := 0) (x := 0) rfl) (dq_lk dX1_orderTo_v1 (r := 1) (x := 9) rfl)
theorem dX1_orderTo_18 : decode cX1_orderTo 18 = .ok (.aload_n 1, 1) := dk_43 (dq_lk dX1_orderTo_v1 (r := 2) (x := 43) rfl)
theorem dX1_orderTo_19 : decode cX1_orderTo 19 = .ok (.getfield 9, 3) := dk_180 (dq_lk dX1_orderTo_v1 (r := 3) (x := 180) rfl) (dq_lk dX1_orderTo_v1 (r := 4) (x := 0) rfl) (dq_lk dX1_orderTo_v1 (r := 5) (x := 9) rfl)
theorem dX1_orderTo_22 : decode cX1_orderTo 22 = .ok (.invokestatic 59, 3) := dk_184 (dq_lk dX1_orderTo_v1 (r := 6) (x := 184) rfl) (dq_lk dX1_orderTo_v1 (r := 7) (x := 0) rfl) (dq_lk dX1_orderTo_v1 (r := 8) (x := 59) rfl)
theorem dX1_orderTo_25 : decode cX1_orderTo 25 = .ok (.ireturn, 1) := dk_172 (dq_lk dX1_orderTo_v1 (r := 9) (x := 172) rfl)
theorem dX2_numberOf_v0 : (cX2_numberOf.data.toList.drop 0).take 16 = [42, 182, 0, 169, 20, 0, 72, 105, 42, 180, 0, 172, 133, 97, 173] := by decide +kernel
theorem dX2_numberOf_0 : decode cX2_numberOf 0 = .ok (.aload_n 0, 1) := dk_42 (dq_lk dX2_numberOf_v0 (r := 0) (x := 42) rfl)
theorem dX2_numberOf_1 : decode cX2_numberOf 1 = .ok (.invokevirtual 169, 3) := dk_182 (dq_lk dX2_numberOf_v0 (r := 1) (x := 182) rfl) (dq_lk dX2_numberOf_v0 (r := 2) (x := 0) rfl) (dq_lk dX2_numberOf_v0 (r := 3) (x := 169) rfl)
theorem dX2_numberOf_4 : decode cX2_numberOf 4 = .ok (.ldc2_w 72, 3) := dk_20 (dq_lk dX2_numberOf_v0 (r := 4) (x := 20) rfl) (dq_lk dX2_numberOf_v0 (r := 5) (x := 0) rfl) (dq_lk dX2_numberOf_v0 (r := 6) (x := 72) rfl)
theorem dX2_numberOf_7 : decode cX2_numberOf 7 = .ok (.lmul, 1) := dk_105 (dq_lk dX2_numberOf_v0 (r := 7) (x := 105) rfl)
theorem dX2_numberOf_8 : decode cX2_numberOf 8 = .ok (.aload_n 0, 1) := dk_42 (dq_lk dX2_numberOf_v0 (r := 8) (x := 42) rfl)
theorem dX2_numberOf_9 : decode cX2_numberOf 9 = .ok (.getfield 172, 3) := dk_180 (dq_lk dX2_numberOf_v0 (r := 9) (x := 180) rfl) (dq_lk dX2_numberOf_v0 (r := 10) (x := 0) rfl) (dq_lk dX2_numberOf_v0 (r := 11) (x := 172) rfl)
theorem dX2_numberOf_12 : decode cX2_numberOf 12 = .ok (.i2l, 1) := dk_133 (dq_lk dX2_numberOf_v0 (r := 12) (x := 133) rfl)
theorem dX2_numberOf_13 : decode cX2_numberOf 13 = .ok (.ladd, 1) := dk_97 (dq_lk dX2_numberOf_v0 (r := 13) (x := 97) rfl)
theorem dX2_numberOf_14 : decode cX2_numberOf 14 = .ok (.lreturn, 1) := dk_173 (dq_lk dX2_numberOf_v0 (r := 14) (x := 173) rfl)
theorem dX2_secondsOn_w0 : (cX2_secondsOn.data.toList.drop 0).take 64 = [27, 170, 0, 0, 0, 0, 0, 65, 0, 0, 0, 2, 0, 0, 0, 6, 0, 0, 0, 35, 0, 0, 0, 45, 0, 0, 0, 51, 0, 0, 0, 57, 0, 0, 0, 63, 32, 20, 1, 46, 105, 20, 0, 130, 105, 173, 32, 20, 0, 130, 105, 173, 32, 20, 1, 48, 105, 173, 32, 20, 1, 50, 105, 173] := by decide +kernel
theorem dX2_secondsOn_w1 : (cX2_secondsOn.data.toList.drop 64).take 64 = [32, 173, 42, 180, 0, 172, 133, 32, 97, 184, 0, 96, 173] := by decide +kernel
theorem dX2_secondsOn_v0 : (cX2_secondsOn.data.toList.drop 0).take 16 = [27, 170, 0, 0, 0, 0, 0, 65, 0, 0, 0, 2, 0, 0, 0, 6] := dq_sub (n := 0) (j := 0) dX2_secondsOn_w0 (by decide) rfl
theorem dX2_secondsOn_v2 : (cX2_secondsOn.data.toList.drop 32).take 16 = [0, 0, 0, 63, 32, 20, 1, 46, 105, 20, 0, 130, 105, 173, 32, 20] := dq_sub (n := 0) (j := 32) dX2_secondsOn_w0 (by decide) rfl
theorem dX2_secondsOn_v3 : (cX2_secondsOn.data.toList.drop 48).take 16 = [0, 130, 105, 173, 32, 20, 1, 48, 105, 173, 32, 20, 1, 50, 105, 173] := dq_sub (n := 0) (j := 48) dX2_secondsOn_w0 (by decide) rfl
theorem dX2_secondsOn_v4 : (cX2_secondsOn.data.toList.drop 64).take 16 = [32, 173, 42, 180, 0, 172, 133, 32, 97, 184, 0, 96, 173] := dq_sub (n := 64) (j := 0) dX2_secondsOn_w1 (by decide) rfl
theorem dX2_secondsOn_0 : decode cX2_secondsOn 0 = .ok (.iload_n 1, 1) := dk_27 (dq_lk dX2_secondsOn_v0 (r := 0) (x := 27) rfl)
theorem dX2_secondsOn_1 : decode cX2_secondsOn 1 = .ok (.tableswitch 65 2 6 #[35, 45, 51, 57, 63], 35) := by decide +kernel
theorem dX2_secondsOn_36 : decode cX2_secondsOn 36 = .ok (.lload_n 2, 1) := dk_32 (dq_lk dX2_secondsOn_v2 (r := 4) (x := 32) rfl)
theorem dX2_secondsOn_37 : decode cX2_secondsOn 37 = .ok (.ldc2_w 302, 3) := dk_20 (dq_lk dX2_secondsOn_v2 (r := 5) (x := 20) rfl) (dq_lk dX2_secondsOn_v2 (r := 6) (x := 1) rfl) (dq_lk dX2_secondsOn_v2 (r := 7) (x := 46) rfl)
theorem dX2_secondsOn_40 : decode cX2_secondsOn 40 = .ok (.lmul, 1) := dk_105 (dq_lk dX2_secondsOn_v2 (r := 8) (x := 105) rfl)
theorem dX2_secondsOn_41 : decode cX2_secondsOn 41 = .ok (.ldc2_w 130, 3) := dk_20 (dq_lk dX2_secondsOn_v2 (r := 9) (x := 20) rfl) (dq_lk dX2_secondsOn_v2 (r := 10) (x := 0) rfl) (dq_lk dX2_secondsOn_v2 (r := 11) (x := 130) rfl)
theorem dX2_secondsOn_44 : decode cX2_secondsOn 44 = .ok (.lmul, 1) := dk_105 (dq_lk dX2_secondsOn_v2 (r := 12) (x := 105) rfl)
theorem dX2_secondsOn_45 : decode cX2_secondsOn 45 = .ok (.lreturn, 1) := dk_173 (dq_lk dX2_secondsOn_v2 (r := 13) (x := 173) rfl)
theorem dX2_secondsOn_46 : decode cX2_secondsOn 46 = .ok (.lload_n 2, 1) := dk_32 (dq_lk dX2_secondsOn_v2 (r := 14) (x := 32) rfl)
theorem dX2_secondsOn_47 : decode cX2_secondsOn 47 = .ok (.ldc2_w 130, 3) := dk_20 (dq_lk dX2_secondsOn_v2 (r := 15) (x := 20) rfl) (dq_lk dX2_secondsOn_v3 (r := 0) (x := 0) rfl) (dq_lk dX2_secondsOn_v3 (r := 1) (x := 130) rfl)
theorem dX2_secondsOn_50 : decode cX2_secondsOn 50 = .ok (.lmul, 1) := dk_105 (dq_lk dX2_secondsOn_v3 (r := 2) (x := 105) rfl)
theorem dX2_secondsOn_51 : decode cX2_secondsOn 51 = .ok (.lreturn, 1) := dk_173 (dq_lk dX2_secondsOn_v3 (r := 3) (x := 173) rfl)
theorem dX2_secondsOn_52 : decode cX2_secondsOn 52 = .ok (.lload_n 2, 1) := dk_32 (dq_lk dX2_secondsOn_v3 (r := 4) (x := 32) rfl)
theorem dX2_secondsOn_53 : decode cX2_secondsOn 53 = .ok (.ldc2_w 304, 3) := dk_20 (dq_lk dX2_secondsOn_v3 (r := 5) (x := 20) rfl) (dq_lk dX2_secondsOn_v3 (r := 6) (x := 1) rfl) (dq_lk dX2_secondsOn_v3 (r := 7) (x := 48) rfl)
theorem dX2_secondsOn_56 : decode cX2_secondsOn 56 = .ok (.lmul, 1) := dk_105 (dq_lk dX2_secondsOn_v3 (r := 8) (x := 105) rfl)
theorem dX2_secondsOn_57 : decode cX2_secondsOn 57 = .ok (.lreturn, 1) := dk_173 (dq_lk dX2_secondsOn_v3 (r := 9) (x := 173) rfl)
theorem dX2_secondsOn_58 : decode cX2_secondsOn 58 = .ok (.lload_n 2, 1) := dk_32 (dq_lk dX2_secondsOn_v3 (r := 10) (x := 32) rfl)
theorem dX2_secondsOn_59 : decode cX2_secondsOn 59 = .ok (.ldc2_w 306, 3) := dk_20 (dq_lk dX2_secondsOn_v3 (r := 11) (x := 20) rfl) (dq_lk dX2_secondsOn_v3 (r := 12) (x := 1) rfl) (dq_lk dX2_secondsOn_v3 (r := 13) (x := 50) rfl)
theorem dX2_secondsOn_62 : decode cX2_secondsOn 62 = .ok (.lmul, 1) := dk_105 (dq_lk dX2_secondsOn_v3 (r := 14) (x := 105) rfl)
theorem dX2_secondsOn_63 : decode cX2_secondsOn 63 = .ok (.lreturn, 1) := dk_173 (dq_lk dX2_secondsOn_v3 (r := 15) (x := 173) rfl)
theorem dX2_secondsOn_64 : decode cX2_secondsOn 64 = .ok (.lload_n 2, 1) := dk_32 (dq_lk dX2_secondsOn_v4 (r := 0) (x := 32) rfl)
theorem dX2_secondsOn_65 : decode cX2_secondsOn 65 = .ok (.lreturn, 1) := dk_173 (dq_lk dX2_secondsOn_v4 (r := 1) (x := 173) rfl)
theorem dX2_secondsOn_66 : decode cX2_secondsOn 66 = .ok (.aload_n 0, 1) := dk_42 (dq_lk dX2_secondsOn_v4 (r := 2) (x := 42) rfl)
theorem dX2_secondsOn_67 : decode cX2_secondsOn 67 = .ok (.getfield 172, 3) := dk_180 (dq_lk dX2_secondsOn_v4 (r := 3) (x := 180) rfl) (dq_lk dX2_secondsOn_v4 (r := 4) (x := 0) rfl) (dq_lk dX2_secondsOn_v4 (r := 5) (x := 172) rfl)
theorem dX2_secondsOn_70 : decode cX2_secondsOn 70 = .ok (.i2l, 1) := dk_133 (dq_lk dX2_secondsOn_v4 (r := 6) (x := 133) rfl)
theorem dX2_secondsOn_71 : decode cX2_secondsOn 71 = .ok (.lload_n 2, 1) := dk_32 (dq_lk dX2_secondsOn_v4 (r := 7) (x := 32) rfl)
theorem dX2_secondsOn_72 : decode cX2_secondsOn 72 = .ok (.ladd, 1) := dk_97 (dq_lk dX2_secondsOn_v4 (r := 8) (x := 97) rfl)
theorem dX2_secondsOn_73 : decode cX2_secondsOn 73 = .ok (.invokestatic 96, 3) := dk_184 (dq_lk dX2_secondsOn_v4 (r := 9) (x := 184) rfl) (dq_lk dX2_secondsOn_v4 (r := 10) (x := 0) rfl) (dq_lk dX2_secondsOn_v4 (r := 11) (x := 96) rfl)
theorem dX2_secondsOn_76 : decode cX2_secondsOn 76 = .ok (.lreturn, 1) := dk_173 (dq_lk dX2_secondsOn_v4 (r := 12) (x := 173) rfl)
theorem dX2_nanoOn_v0 : (cX2_nanoOn.data.toList.drop 0).take 16 = [27, 16, 7, 160, 0, 16, 42, 180, 0, 172, 133, 32, 97, 184, 0, 92] := by decide +kernel
theorem dX2_nanoOn_v1 : (cX2_nanoOn.data.toList.drop 16).take 16 = [167, 0, 7, 42, 180, 0, 172, 172] := by decide +kernel
theorem dX2_nanoOn_0 : decode cX2_nanoOn 0 = .ok (.iload_n 1, 1) := dk_27 (dq_lk dX2_nanoOn_v0 (r := 0) (x := 27) rfl)
theorem dX2_nanoOn_1 : decode cX2_nanoOn 1 = .ok (.bipush 7, 2) := dk_16 (dq_lk dX2_nanoOn_v0 (r := 1) (x := 16) rfl) (dq_lk dX2_nanoOn_v0 (r := 2) (x := 7) rfl) (by decide +kernel)
theorem dX2_nanoOn_3 : decode cX2_nanoOn 3 = .ok (.if_icmp .ne 16, 3) := dk_160 (dq_lk dX2_nanoOn_v0 (r := 3) (x := 160) rfl) (dq_lk dX2_nanoOn_v0 (r := 4) (x := 0) rfl) (dq_lk dX2_nanoOn_v0 (r := 5) (x := 16) rfl) (by decide +kernel)
theorem dX2_nanoOn_6 : decode cX2_nanoOn 6 = .ok (.aload_n 0, 1) := dk_42 (dq_lk dX2_nanoOn_v0 (r := 6) (x := 42) rfl)
theorem dX2_nanoOn_7 : decode cX2_nanoOn 7 = .ok (.getfield 172, 3) := dk_180 (dq_lk dX2_nanoOn_v0 (r := 7) (x := 180) rfl) (dq_lk dX2_nanoOn_v0 (r := 8) (x := 0) rfl) (dq_lk dX2_nanoOn_v0 (r := 9) (x := 172) rfl)
theorem dX2_nanoOn_10 : decode cX2_nanoOn 10 = .ok (.i2l, 1) := dk_133 (dq_lk dX2_nanoOn_v0 (r := 10) (x := 133) rfl)
theorem dX2_nanoOn_11 : decode cX2_nanoOn 11 = .ok (.lload_n 2, 1) := dk_32 (dq_lk dX2_nanoOn_v0 (r := 11) (x := 32) rfl)
theorem dX2_nanoOn_12 : decode cX2_nanoOn 12 = .ok (.ladd, 1) := dk_97 (dq_lk dX2_nanoOn_v0 (r := 12) (x := 97) rfl)
theorem dX2_nanoOn_13 : decode cX2_nanoOn 13 = .ok (.invokestatic 92, 3) := dk_184 (dq_lk dX2_nanoOn_v0 (r := 13) (x := 184) rfl) (dq_lk dX2_nanoOn_v0 (r := 14) (x := 0) rfl) (dq_lk dX2_nanoOn_v0 (r := 15) (x := 92) rfl)
theorem dX2_nanoOn_16 : decode cX2_nanoOn 16 = .ok (.goto 7, 3) := dk_167 (dq_lk dX2_nanoOn_v1 (r := 0) (x := 167) rfl) (dq_lk dX2_nanoOn_v1 (r := 1) (x := 0) rfl) (dq_lk dX2_nanoOn_v1 (r := 2) (x := 7) rfl) (by decide +kernel)
theorem dX2_nanoOn_19 : decode cX2_nanoOn 19 = .ok (.aload_n 0, 1) := dk_42 (dq_lk dX2_nanoOn_v1 (r := 3) (x := 42) rfl)
theorem dX2_nanoOn_20 : decode cX2_nanoOn 20 = .ok (.getfield 172, 3) := dk_180 (dq_lk dX2_nanoOn_v1 (r := 4) (x := 180) rfl) (dq_lk dX2_nanoOn_v1 (r := 5) (x := 0) rfl) (dq_lk dX2_nanoOn_v1 (r := 6) (x := 172) rfl)
theorem dX2_nanoOn_23 : decode cX2_nanoOn 23 = .ok (.ireturn, 1) := dk_172 (dq_lk dX2_nanoOn_v1 (r := 7) (x := 172) rfl)
theorem dX2_datePart_w0 : (cX2_datePart.data.toList.drop 0).take 64 = [42, 182, 1, 18, 61, 27, 170, 0, 0, 0, 0, 120, 0, 0, 0, 0, 0, 0, 0, 11, 0, 0, 0, 62, 0, 0, 0, 67, 0, 0, 0, 72, 0, 0, 0, 77, 0, 0, 0, 82, 0, 0, 0, 87, 0, 0, 0, 92, 0, 0, 0, 97, 0, 0, 0, 102, 0, 0, 0, 107, 0, 0, 0, 112] := by decide +kernel
theorem dX2_datePart_w1 : (cX2_datePart.data.toList.drop 64).take 64 = [0, 0, 0, 118, 28, 184, 1, 67, 172, 28, 184, 1, 70, 172, 28, 184, 1, 55, 172, 28, 184, 1, 94, 172, 42, 182, 1, 79, 172, 42, 182, 1, 86, 172, 42, 182, 1, 89, 172, 42, 180, 0, 172, 172, 28, 184, 1, 97, 172, 42, 180, 0, 158, 172, 42, 182, 0, 169, 136, 172, 28, 172, 42, 182] := by decide +kernel
theorem dX2_datePart_w2 : (cX2_datePart.data.toList.drop 128).take 64 = [1, 64, 172] := by decide +kernel
theorem dX2_datePart_v0 : (cX2_datePart.data.toList.drop 0).take 16 = [42, 182, 1, 18, 61, 27, 170, 0, 0, 0, 0, 120, 0, 0, 0, 0] := dq_sub (n := 0) (j := 0) dX2_datePart_w0 (by decide) rfl
theorem dX2_datePart_v4 : (cX2_datePart.data.toList.drop 64).take 16 = [0, 0, 0, 118, 28, 184, 1, 67, 172, 28, 184, 1, 70, 172, 28, 184] := dq_sub (n := 64) (j := 0) dX2_datePart_w1 (by decide) rfl
theorem dX2_datePart_v5 : (cX2_datePart.data.toList.drop 80).take 16 = [1, 55, 172, 28, 184, 1, 94, 172, 42, 182, 1, 79, 172, 42, 182, 1] := dq_sub (n := 64) (j := 16) dX2_datePart_w1 (by decide) rfl
theorem dX2_datePart_v6 : (cX2_datePart.data.toList.drop 96).take 16 = [86, 172, 42, 182, 1, 89, 172, 42, 180, 0, 172, 172, 28, 184, 1, 97] := dq_sub (n := 64) (j := 32) dX2_datePart_w1 (by decide) rfl
theorem dX2_datePart_v7 : (cX2_datePart.data.toList.drop 112).take 16 = [172, 42, 180, 0, 158, 172, 42, 182, 0, 169, 136, 172, 28, 172, 42, 182] := dq_sub (n := 64) (j := 48) dX2_datePart_w1 (by decide) rfl
theorem dX2_datePart_v8 : (cX2_datePart.data.toList.drop 128).take 16 = [1, 64, 172] := dq_sub (n := 128) (j := 0) dX2_datePart_w2 (by decide) rfl
theorem dX2_datePart_0 : decode cX2_datePart 0 = .ok (.aload_n 0, 1) := dk_42 (dq_lk dX2_datePart_v0 (r := 0) (x := 42) rfl)
theorem dX2_datePart_1 : decode cX2_datePart 1 = .ok (.invokevirtual 274, 3) := dk_182 (dq_lk dX2_datePart_v0 (r := 1) (x := 182) rfl) (dq_lk dX2_datePart_v0 (r := 2) (x := 1) rfl) (dq_lk dX2_datePart_v0 (r := 3) (x := 18) rfl)
theorem dX2_datePart_4 : decode cX2_datePart 4 = .ok (.istore_n 2, 1) := dk_61 (dq_lk dX2_datePart_v0 (r := 4) (x := 61) rfl)
theorem dX2_datePart_5 : decode cX2_datePart 5 = .ok (.iload_n 1, 1) := dk_27 (dq_lk dX2_datePart_v0 (r := 5) (x := 27) rfl)
theorem dX2_datePart_6 : decode cX2_datePart 6 = .ok (.tableswitch 120 0 11 #[62, 67, 72, 77, 82, 87, 92, 97, 102, 107, 112, 118], 62) := by decide +kernel
theorem dX2_datePart_68 : decode cX2_datePart 68 = .ok (.iload_n 2, 1) := dk_28 (dq_lk dX2_datePart_v4 (r := 4) (x := 28) rfl)
theorem dX2_datePart_69 : decode cX2_datePart 69 = .ok (.invokestatic 323, 3) := dk_184 (dq_lk dX2_datePart_v4 (r := 5) (x := 184) rfl) (dq_lk dX2_datePart_v4 (r := 6) (x := 1) rfl) (dq_lk dX2_datePart_v4 (r := 7) (x := 67) rfl)
theorem dX2_datePart_72 : decode cX2_datePart 72 = .ok (.ireturn, 1) := dk_172 (dq_lk dX2_datePart_v4 (r := 8) (x := 172) rfl)
theorem dX2_datePart_73 : decode cX2_datePart 73 = .ok (.iload_n 2, 1) := dk_28 (dq_lk dX2_datePart_v4 (r := 9) (x := 28) rfl)
theorem dX2_datePart_74 : decode cX2_datePart 74 = .ok (.invokestatic 326, 3) := dk_184 (dq_lk dX2_datePart_v4 (r := 10) (x := 184) rfl) (dq_lk dX2_datePart_v4 (r := 11) (x := 1) rfl) (dq_lk dX2_datePart_v4 (r := 12) (x := 70) rfl)
theorem dX2_datePart_77 : decode cX2_datePart 77 = .ok (.ireturn, 1) := dk_172 (dq_lk dX2_datePart_v4 (r := 13) (x := 172) rfl)
theorem dX2_datePart_78 : decode cX2_datePart 78 = .ok (.iload_n 2, 1) := dk_28 (dq_lk dX2_datePart_v4 (r := 14) (x := 28) rfl)
theorem dX2_datePart_79 : decode cX2_datePart 79 = .ok (.invokestatic 311, 3) := dk_184 (dq_lk dX2_datePart_v4 (r := 15) (x := 184) rfl) (dq_lk dX2_datePart_v5 (r := 0) (x := 1) rfl) (dq_lk dX2_datePart_v5 (r := 1) (x := 55) rfl)
theorem dX2_datePart_82 : decode cX2_datePart 82 = .ok (.ireturn, 1) := dk_172 (dq_lk dX2_datePart_v5 (r := 2) (x := 172) rfl)
theorem dX2_datePart_83 : decode cX2_datePart 83 = .ok (.iload_n 2, 1) := dk_28 (dq_lk dX2_datePart_v5 (r := 3) (x := 28) rfl)
theorem dX2_datePart_84 : decode cX2_datePart 84 = .ok (.invokestatic 350, 3) := dk_184 (dq_lk dX2_datePart_v5 (r := 4) (x := 184) rfl) (dq_lk dX2_datePart_v5 (r := 5) (x := 1) rfl) (dq_lk dX2_datePart_v5 (r := 6) (x := 94) rfl)
theorem dX2_datePart_87 : decode cX2_datePart 87 = .ok (.ireturn, 1) := dk_172 (dq_lk dX2_datePart_v5 (r := 7) (x := 172) rfl)
theorem dX2_datePart_88 : decode cX2_datePart 88 = .ok (.aload_n 0, 1) := dk_42 (dq_lk dX2_datePart_v5 (r := 8) (x := 42) rfl)
theorem dX2_datePart_89 : decode cX2_datePart 89 = .ok (.invokevirtual 335, 3) := dk_182 (dq_lk dX2_datePart_v5 (r := 9) (x := 182) rfl) (dq_lk dX2_datePart_v5 (r := 10) (x := 1) rfl) (dq_lk dX2_datePart_v5 (r := 11) (x := 79) rfl)
theorem dX2_datePart_92 : decode cX2_datePart 92 = .ok (.ireturn, 1) := dk_172 (dq_lk dX2_datePart_v5 (r := 12) (x := 172) rfl)
theorem dX2_datePart_93 : decode cX2_datePart 93 = .ok (.aload_n 0, 1) := dk_42 (dq_lk dX2_datePart_v5 (r := 13) (x := 42) rfl)
theorem dX2_datePart_94 : decode cX2_datePart 94 = .ok (.invokevirtual 342, 3) := dk_182 (dq_lk dX2_datePart_v5 (r := 14) (x := 182) rfl) (dq_lk dX2_datePart_v5 (r := 15) (x := 1) rfl) (dq_lk dX2_datePart_v6 (r := 0) (x := 86) rfl)
theorem dX2_datePart_97 : decode cX2_datePart 97 = .ok (.ireturn, 1) := dk_172 (dq_lk dX2_datePart_v6 (r := 1) (x := 172) rfl)
theorem dX2_datePart_98 : decode cX2_datePart 98 = .ok (.aload_n 0, 1) := dk_42 (dq_lk dX2_datePart_v6 (r := 2) (x := 42) rfl)
theorem dX2_datePart_99 : decode cX2_datePart 99 = .ok (.invokevirtual 345, 3) := dk_182 (dq_lk dX2_datePart_v6 (r := 3) (x := 182) rfl) (dq_lk dX2_datePart_v6 (r := 4) (x := 1) rfl) (dq_lk dX2_datePart_v6 (r := 5) (x := 89) rfl)
theorem dX2_datePart_102 : decode cX2_datePart 102 = .ok (.ireturn, 1) := dk_172 (dq_lk dX2_datePart_v6 (r := 6) (x := 172) rfl)
theorem dX2_datePart_103 : decode cX2_datePart 103 = .ok (.aload_n 0, 1) := dk_42 (dq_lk dX2_datePart_v6 (r := 7) (x := 42) rfl)
theorem dX2_datePart_104 : decode cX2_datePart 104 = .ok (.getfield 172, 3) := dk_180 (dq_lk dX2_datePart_v6 (r := 8) (x := 180) rfl) (dq_lk dX2_datePart_v6 (r := 9) (x := 0) rfl) (dq_lk dX2_datePart_v6 (r := 10) (x := 172) rfl)
theorem dX2_datePart_107 : decode cX2_datePart 107 = .ok (.ireturn, 1) := dk_172 (dq_lk dX2_datePart_v6 (r := 11) (x := 172) rfl)
theorem dX2_datePart_108 : decode cX2_datePart 108 = .ok (.iload_n 2, 1) := dk_28 (dq_lk dX2_datePart_v6 (r := 12) (x := 28) rfl)
theorem dX2_datePart_109 : decode cX2_datePart 109 = .ok (.invokestatic 353, 3) := dk_184 (dq_lk dX2_datePart_v6 (r := 13) (x := 184) rfl) (dq_lk dX2_datePart_v6 (r := 14) (x := 1) rfl) (dq_lk dX2_datePart_v6 (r := 15) (x := 97) rfl)
theorem dX2_datePart_112 : decode cX2_datePart 112 = .ok (.ireturn, 1) := dk_172 (dq_lk dX2_datePart_v7 (r := 0) (x := 172) rfl)
theorem dX2_datePart_113 : decode cX2_datePart 113 = .ok (.aload_n 0, 1) := dk_42 (dq_lk dX2_datePart_v7 (r := 1) (x := 42) rfl)
theorem dX2_datePart_114 : decode cX2_datePart 114 = .ok (.getfield 158, 3) := dk_180 (dq_lk dX2_datePart_v7 (r := 2) (x := 180) rfl) (dq_lk dX2_datePart_v7 (r := 3) (x := 0) rfl) (dq_lk dX2_datePart_v7 (r := 4) (x := 158) rfl)
theorem dX2_datePart_117 : decode cX2_datePart 117 = .ok (.ireturn, 1) := dk_172 (dq_lk dX2_datePart_v7 (r := 5) (x := 172) rfl)
theorem dX2_datePart_118 : decode cX2_datePart 118 = .ok (.aload_n 0, 1) := dk_42 (dq_lk dX2_datePart_v7 (r := 6) (x := 42) rfl)
theorem dX2_datePart_119 : decode cX2_datePart 119 = .ok (.invokevirtual 169, 3) := dk_182 (dq_lk dX2_datePart_v7 (r := 7) (x := 182) rfl) (dq_lk dX2_datePart_v7 (r := 8) (x := 0) rfl) (dq_lk dX2_datePart_v7 (r := 9) (x := 169) rfl)
theorem dX2_datePart_122 : decode cX2_datePart 122 = .ok (.l2i, 1) := dk_136 (dq_lk dX2_datePart_v7 (r := 10) (x := 136) rfl)
theorem dX2_datePart_123 : decode cX2_datePart 123 = .ok (.ireturn, 1) := dk_172 (dq_lk dX2_datePart_v7 (r := 11) (x := 172) rfl)
theorem dX2_datePart_124 : decode cX2_datePart 124 = .ok (.iload_n 2, 1) := dk_28 (dq_lk dX2_datePart_v7 (r := 12) (x := 28) rfl)
theorem dX2_datePart_125 : decode cX2_datePart 125 = .ok (.ireturn, 1) := dk_172 (dq_lk dX2_datePart_v7 (r := 13) (x := 172) rfl)
theorem dX2_datePart_126 : decode cX2_datePart 126 = .ok (.aload_n 0, 1) := dk_42 (dq_lk dX2_datePart_v7 (r := 14) (x := 42) rfl)
theorem dX2_datePart_127 : decode cX2_datePart 127 = .ok (.invokevirtual 320, 3) := dk_182 (dq_lk dX2_datePart_v7 (r := 15) (x := 182) rfl) (dq_lk dX2_datePart_v8 (r := 0) (x := 1) rfl) (dq_lk dX2_datePart_v8 (r := 1) (x := 64) rfl)
theorem dX2_datePart_130 : decode cX2_datePart 130 = .ok (.ireturn, 1) := dk_172 (dq_lk dX2_datePart_v8 (r := 2) (x := 172) rfl)
theorem dX2_clockPart_w0 : (cX2_clockPart.data.toList.drop 0).take 64 = [27, 170, 0, 0, 0, 0, 0, 60, 0, 0, 0, 0, 0, 0, 0, 4, 0, 0, 0, 35, 0, 0, 0, 40, 0, 0, 0, 45, 0, 0, 0, 50, 0, 0, 0, 55, 42, 182, 1, 79, 172, 42, 182, 1, 86, 172, 42, 182, 1, 89, 172, 42, 180, 0, 172, 172, 42, 180, 0, 158, 172, 42, 182, 1] := by decide +kernel
theorem dX2_clockPart_w1 : (cX2_clockPart.data.toList.drop 64).take 64 = [64, 172] := by decide +kernel
theorem dX2_clockPart_v0 : (cX2_clockPart.data.toList.drop 0).take 16 = [27, 170, 0, 0, 0, 0, 0, 60, 0, 0, 0, 0, 0, 0, 0, 4] := dq_sub (n := 0) (j := 0) dX2_clockPart_w0 (by decide) rfl
theorem dX2_clockPart_v2 : (cX2_clockPart.data.toList.drop 32).take 16 = [0, 0, 0, 55, 42, 182, 1, 79, 172, 42, 182, 1, 86, 172, 42, 182] := dq_sub (n := 0) (j := 32) dX2_clockPart_w0 (by decide) rfl
theorem dX2_clockPart_v3 : (cX2_clockPart.data.toList.drop 48).take 16 = [1, 89, 172, 42, 180, 0, 172, 172, 42, 180, 0, 158, 172, 42, 182, 1] := dq_sub (n := 0) (j := 48) dX2_clockPart_w0 (by decide) rfl
theorem dX2_clockPart_v4 : (cX2_clockPart.data.toList.drop 64).take 16 = [64, 172] := dq_sub (n := 64) (j := 0) dX2_clockPart_w1 (by decide) rfl
theorem dX2_clockPart_0 : decode cX2_clockPart 0 = .ok (.iload_n 1, 1) := dk_27 (dq_lk dX2_clockPart_v0 (r := 0) (x := 27) rfl)
theorem dX2_clockPart_1 : decode cX2_clockPart 1 = .ok (.tableswitch 60 0 4 #[35, 40, 45, 50, 55], 35) := by decide +kernel
theorem dX2_clockPart_36 : decode cX2_clockPart 36 = .ok (.aload_n 0, 1) := dk_42 (dq_lk dX2_clockPart_v2 (r := 4) (x := 42) rfl)
theorem dX2_clockPart_37 : decode cX2_clockPart 37 = .ok (.invokevirtual 335, 3) := dk_182 (dq_lk dX2_clockPart_v2 (r := 5) (x := 182) rfl) (dq_lk dX2_clockPart_v2 (r := 6) (x := 1) rfl) (dq_lk dX2_clockPart_v2 (r := 7) (x := 79) rfl)
theorem dX2_clockPart_40 : decode cX2_clockPart 40 = .ok (.ireturn, 1) := dk_172 (dq_lk dX2_clockPart_v2 (r := 8) (x := 172) rfl)
theorem dX2_clockPart_41 : decode cX2_clockPart 41 = .ok (.aload_n 0, 1) := dk_42 (dq_lk dX2_clockPart_v2 (r := 9) (x := 42) rfl)
theorem dX2_clockPart_42 : decode cX2_clockPart 42 = .ok (.invokevirtual 342, 3) := dk_182 (dq_lk dX2_clockPart_v2 (r := 10) (x := 182) rfl) (dq_lk dX2_clockPart_v2 (r := 11) (x := 1) rfl) (dq_lk dX2_clockPart_v2 (r := 12) (x := 86) rfl)
theorem dX2_clockPart_45 : decode cX2_clockPart 45 = .ok (.ireturn, 1) := dk_172 (dq_lk dX2_clockPart_v2 (r := 13) (x := 172) rfl)
theorem dX2_clockPart_46 : decode cX2_clockPart 46 = .ok (.aload_n 0, 1) := dk_42 (dq_lk dX2_clockPart_v2 (r := 14) (x := 42) rfl)
theorem dX2_clockPart_47 : decode cX2_clockPart 47 = .ok (.invokevirtual 345, 3) := dk_182 (dq_lk dX2_clockPart_v2 (r := 15) (x := 182) rfl) (dq_lk dX2_clockPart_v3 (r := 0) (x := 1) rfl) (dq_lk dX2_clockPart_v3 (r := 1) (x := 89) rfl)
theorem dX2_clockPart_50 : decode cX2_clockPart 50 = .ok (.ireturn, 1) := dk_172 (dq_lk dX2_clockPart_v3 (r := 2) (x := 172) rfl)
theorem dX2_clockPart_51 : decode cX2_clockPart 51 = .ok (.aload_n 0, 1) := dk_42 (dq_lk dX2_clockPart_v3 (r := 3) (x := 42) rfl)
theorem dX2_clockPart_52 : decode cX2_clockPart 52 = .ok (.getfield 172, 3) := dk_180 (dq_lk dX2_clockPart_v3 (r := 4) (x := 180) rfl) (dq_lk dX2_clockPart_v3 (r := 5) (x := 0) rfl) (dq_lk dX2_clockPart_v3 (r := 6) (x := 172) rfl)
theorem dX2_clockPart_55 : decode cX2_clockPart 55 = .ok (.ireturn, 1) := dk_172 (dq_lk dX2_clockPart_v3 (r := 7) (x := 172) rfl)
theorem dX2_clockPart_56 : decode cX2_clockPart 56 = .ok (.aload_n 0, 1) := dk_42 (dq_lk dX2_clockPart_v3 (r := 8) (x := 42) rfl)
theorem dX2_clockPart_57 : decode cX2_clockPart 57 = .ok (.getfield 158, 3) := dk_180 (dq_lk dX2_clockPart_v3 (r := 9) (x := 180) rfl) (dq_lk dX2_clockPart_v3 (r := 10) (x := 0) rfl) (dq_lk dX2_clockPart_v3 (r := 11) (x := 158) rfl)
theorem dX2_clockPart_60 : decode cX2_clockPart 60 = .ok (.ireturn, 1) := dk_172 (dq_lk dX2_clockPart_v3 (r := 12) (x := 172) rfl)
theorem dX2_clockPart_61 : decode cX2_clockPart 61 = .ok (.aload_n 0, 1) := dk_42 (dq_lk dX2_clockPart_v3 (r := 13) (x := 42) rfl)
theorem dX2_clockPart_62 : decode cX2_clockPart 62 = .ok (.invokevirtual 320, 3) := dk_182 (dq_lk dX2_clockPart_v3 (r := 14) (x := 182) rfl) (dq_lk dX2_clockPart_v3 (r := 15) (x := 1) rfl) (dq_lk dX2_clockPart_v4 (r := 0) (x := 64) rfl)
theorem dX2_clockPart_65 : decode cX2_clockPart 65 = .ok (.ireturn, 1) := dk_172 (dq_lk dX2_clockPart_v4 (r := 1) (x := 172) rfl)
theorem dX2_isSo_v0 : (cX2_isSo.data.toList.drop 0).take 16 = [28, 170, 0, 0, 0, 0, 0, 45, 0, 0, 0, 0, 0, 0, 0, 2] := by decide +kernel
theorem dX2_isSo_v1 : (cX2_isSo.data.toList.drop 16).take 16 = [0, 0, 0, 27, 0, 0, 0, 33, 0, 0, 0, 39, 42, 43, 182, 1] := by decide +kernel
theorem dX2_isSo_v2 : (cX2_isSo.data.toList.drop 32).take 16 = [100, 172, 43, 42, 182, 1, 100, 172, 42, 43, 182, 1, 104, 172, 42, 43] := by decide +kernel
theorem dX2_isSo_v3 : (cX2_isSo.data.toList.drop 48).take 16 = [182, 1, 107, 172] := by decide +kernel
theorem dX2_isSo_0 : decode cX2_isSo 0 = .ok (.iload_n 2, 1) := dk_28 (dq_lk dX2_isSo_v0 (r := 0) (x := 28) rfl)
theorem dX2_isSo_1 : decode cX2_isSo 1 = .ok (.tableswitch 45 0 2 #[27, 33, 39], 27) := by decide +kernel
theorem dX2_isSo_28 : decode cX2_isSo 28 = .ok (.aload_n 0, 1) := dk_42 (dq_lk dX2_isSo_v1 (r := 12) (x := 42) rfl)
theorem dX2_isSo_29 : decode cX2_isSo 29 = .ok (.aload_n 1, 1) := dk_43 (dq_lk dX2_isSo_v1 (r := 13) (x := 43) rfl)
theorem dX2_isSo_30 : decode cX2_isSo 30 = .ok (.invokevirtual 356, 3) := dk_182 (dq_lk dX2_isSo_v1 (r := 14) (x := 182) rfl) (dq_lk dX2_isSo_v1 (r := 15) (x := 1) rfl) (dq_lk dX2_isSo_v2 (r := 0) (x := 100) rfl)
theorem dX2_isSo_33 : decode cX2_isSo 33 = .ok (.ireturn, 1) := dk_172 (dq_lk dX2_isSo_v2 (r := 1) (x := 172) rfl)
theorem dX2_isSo_34 : decode cX2_isSo 34 = .ok (.aload_n 1, 1) := dk_43 (dq_lk dX2_isSo_v2 (r := 2) (x := 43) rfl)
theorem dX2_isSo_35 : decode cX2_isSo 35 = .ok (.aload_n 0, 1) := dk_42 (dq_lk dX2_isSo_v2 (r := 3) (x := 42) rfl)
theorem dX2_isSo_36 : decode cX2_isSo 36 = .ok (.invokevirtual 356, 3) := dk_182 (dq_lk dX2_isSo_v2 (r := 4) (x := 182) rfl) (dq_lk dX2_isSo_v2 (r := 5) (x := 1) rfl) (dq_lk dX2_isSo_v2 (r := 6) (x := 100) rfl)
theorem dX2_isSo_39 : decode cX2_isSo 39 = .ok (.ireturn, 1) := dk_172 (dq_lk dX2_isSo_v2 (r := 7) (x := 172) rfl)
theorem dX2_isSo_40 : decode cX2_isSo 40 = .ok (.aload_n 0, 1) := dk_42 (dq_lk dX2_isSo_v2 (r := 8) (x := 42) rfl)
theorem dX2_isSo_41 : decode cX2_isSo 41 = .ok (.aload_n 1, 1) := dk_43 (dq_lk dX2_isSo_v2 (r := 9) (x := 43) rfl)
theorem dX2_isSo_42 : decode cX2_isSo 42 = .ok (.invokevirtual 360, 3) := dk_182 (dq_lk dX2_isSo_v2 (r := 10) (x := 182) rfl) (dq_lk dX2_isSo_v2 (r := 11) (x := 1) rfl) (dq_lk dX2_isSo_v2 (r := 12) (x := 104) rfl)
theorem dX2_isSo_45 : decode cX2_isSo 45 = .ok (.ireturn, 1) := dk_172 (dq_lk dX2_isSo_v2 (r := 13) (x := 172) rfl)
theorem dX2_isSo_46 : decode cX2_isSo 46 = .ok (.aload_n 0, 1) := dk_42 (dq_lk dX2_isSo_v2 (r := 14) (x := 42) rfl)
theorem dX2_isSo_47 : decode cX2_isSo 47 = .ok (.aload_n 1, 1) := dk_43 (dq_lk dX2_isSo_v2 (r := 15) (x := 43) rfl)
theorem dX2_isSo_48 : decode cX2_isSo 48 = .ok (.invokevirtual 363, 3) := dk_182 (dq_lk dX2_isSo_v3 (r := 0) (x := 182) rfl) (dq_lk dX2_isSo_v3 (r := 1) (x := 1) rfl) (dq_lk dX2_isSo_v3 (r := 2) (x := 107) rfl)
theorem dX2_isSo_51 : decode cX2_isSo 51 = .ok (.ireturn, 1) := dk_172 (dq_lk dX2_isSo_v3 (r := 3) (x := 172) rfl)
theorem dX2_isPairSound_w0 : (cX2_isPairSound.data.toList.drop 0).take 64 = [42, 43, 182, 1, 100, 154, 0, 15, 43, 42, 182, 1, 100, 154, 0, 7, 4, 167, 0, 4, 3, 61, 42, 43, 182, 0, 179, 62, 42, 43, 182, 1, 104, 28, 160, 0, 29, 29, 43, 42, 182, 0, 179, 116, 160, 0, 19, 42, 43, 182, 1, 107, 153, 0, 7, 29, 154, 0, 7, 4, 167, 0, 4, 3] := by decide +kernel
theorem dX2_isPairSound_w1 : (cX2_isPairSound.data.toList.drop 64).take 64 = [172] := by decide +kernel
theorem dX2_isPairSound_v0 : (cX2_isPairSound.data.toList.drop 0).take 16 = [42, 43, 182, 1, 100, 154, 0, 15, 43, 42, 182, 1, 100, 154, 0, 7] := dq_sub (n := 0) (j := 0) dX2_isPairSound_w0 (by decide) rfl
theorem dX2_isPairSound_v1 : (cX2_isPairSound.data.toList.drop 16).take 16 = [4, 167, 0, 4, 3, 61, 42, 43, 182, 0, 179, 62, 42, 43, 182, 1] := dq_sub (n := 0) (j := 16) dX2_isPairSound_w0 (by decide) rfl
theorem dX2_isPairSound_v2 : (cX2_isPairSound.data.toList.drop 32).take 16 = [104, 28, 160, 0, 29, 29, 43, 42, 182, 0, 179, 116, 160, 0, 19, 42] := dq_sub (n := 0) (j := 32) dX2_isPairSound_w0 (by decide) rfl
theorem dX2_isPairSound_v3 : (cX2_isPairSound.data.toList.drop 48).take 16 = [43, 182, 1, 107, 153, 0, 7, 29, 154, 0, 7, 4, 167, 0, 4, 3] := dq_sub (n := 0) (j := 48) dX2_isPairSound_w0 (by decide) rfl
theorem dX2_isPairSound_v4 : (cX2_isPairSound.data.toList.drop 64).take 16 = [172] := dq_sub (n := 64) (j := 0) dX2_isPairSound_w1 (by decide) rfl
theorem dX2_isPairSound_0 : decode cX2_isPairSound 0 = .ok (.aload_n 0, 1) := dk_42 (dq_lk dX2_isPairSound_v0 (r := 0) (x := 42) rfl)
theorem dX2_isPairSound_1 : decode cX2_isPairSound 1 = .ok (.aload_n 1, 1) := dk_43 (dq_lk dX2_isPairSound_v0 (r := 1) (x := 43) rfl)
theorem dX2_isPairSound_2 : decode cX2_isPairSound 2 = .ok (.invokevirtual 356, 3) := dk_182 (dq_lk dX2_isPairSound_v0 (r := 2) (x := 182) rfl) (dq_lk dX2_isPairSound_v0 (r := 3) (x := 1) rfl) (dq_lk dX2_isPairSound_v0 (r := 4) (x := 100) rfl)
theorem dX2_isPairSound_5 : decode cX2_isPairSound 5 = .ok (.ifCond .ne 15, 3) := dk_154 (dq_lk dX2_isPairSound_v0 (r := 5) (x := 154) rfl) (dq_lk dX2_isPairSound_v0 (r := 6) (x := 0) rfl) (dq_lk dX2_isPairSound_v0 (r := 7) (x := 15) rfl) (by decide +kernel)
theorem dX2_isPairSound_8 : decode cX2_isPairSound 8 = .ok (.aload_n 1, 1) := dk_43 (dq_lk dX2_isPairSound_v0 (r := 8) (x := 43) rfl)
theorem dX2_isPairSound_9 : decode cX2_isPairSound 9 = .ok (.aload_n 0, 1) := dk_42 (dq_lk dX2_isPairSound_v0 (r := 9) (x := 42) rfl)
theorem dX2_isPairSound_10 : decode cX2_isPairSound 10 = .ok (.invokevirtual 356, 3) := dk_182 (dq_lk dX2_isPairSound_v0 (r := 10) (x := 182) rfl) (dq_lk dX2_isPairSound_v0 (r := 11) (x := 1) rfl) (dq_lk dX2_isPairSound_v0 (r := 12) (x := 100) rfl)
theorem dX2_isPairSound_13 : decode cX2_isPairSound 13 = .ok (.ifCond .ne 7, 3) := dk_154 (dq_lk dX2_isPairSound_v0 (r := 13) (x := 154) rfl) (dq_lk dX2_isPairSound_v0 (r := 14) (x := 0) rfl) (dq_lk dX2_isPairSound_v0 (r := 15) (x := 7) rfl) (by decide +kernel)
theorem dX2_isPairSound_16 : decode cX2_isPairSound 16 = .ok (.iconst 1, 1) := dk_4 (dq_lk dX2_isPairSound_v1 (r := 0) (x := 4) rfl)
theorem dX2_isPairSound_17 : decode cX2_isPairSound 17 = .ok (.goto 4, 3) := dk_167 (dq_lk dX2_isPairSound_v1 (r := 1) (x := 167) rfl) (dq_lk dX2_isPairSound_v1 (r := 2) (x := 0) rfl) (dq_lk dX2_isPairSound_v1 (r := 3) (x := 4) rfl) (by decide +kernel)
theorem dX2_isPairSound_20 : decode cX2_isPairSound 20 = .ok (.iconst 0, 1) := dk_3 (dq_lk dX2_isPairSound_v1 (r := 4) (x := 3) rfl)
theorem dX2_isPairSound_21 : decode cX2_isPairSound 21 = .ok (.istore_n 2, 1) := dk_61 (dq_lk dX2_isPairSound_v1 (r := 5) (x := 61) rfl)
theorem dX2_isPairSound_22 : decode cX2_isPairSound 22 = .ok (.aload_n 0, 1) := dk_42 (dq_lk dX2_isPairSound_v1 (r := 6) (x := 42) rfl)
theorem dX2_isPairSound_23 : decode cX2_isPairSound 23 = .ok (.aload_n 1, 1) := dk_43 (dq_lk dX2_isPairSound_v1 (r := 7) (x := 43) rfl)
theorem dX2_isPairSound_24 : decode cX2_isPairSound 24 = .ok (.invokevirtual 179, 3) := dk_182 (dq_lk dX2_isPairSound_v1 (r := 8) (x := 182) rfl) (dq_lk dX2_isPairSound_v1 (r := 9) (x := 0) rfl) (dq_lk dX2_isPairSound_v1 (r := 10) (x := 179) rfl)
theorem dX2_isPairSound_27 : decode cX2_isPairSound 27 = .ok (.istore_n 3, 1) := dk_62 (dq_lk dX2_isPairSound_v1 (r := 11) (x := 62) rfl)
theorem dX2_isPairSound_28 : decode cX2_isPairSound 28 = .ok (.aload_n 0, 1) := dk_42 (dq_lk dX2_isPairSound_v1 (r := 12) (x := 42) rfl)
theorem dX2_isPairSound_29 : decode cX2_isPairSound 29 = .ok (.aload_n 1, 1) := dk_43 (dq_lk dX2_isPairSound_v1 (r := 13) (x := 43) rfl)
theorem dX2_isPairSound_30 : decode cX2_isPairSound 30 = .ok (.invokevirtual 360, 3) := dk_182 (dq_lk dX2_isPairSound_v1 (r := 14) (x := 182) rfl) (dq_lk dX2_isPairSound_v1 (r := 15) (x := 1) rfl) (dq_lk dX2_isPairSound_v2 (r := 0) (x := 104) rfl)
theorem dX2_isPairSound_33 : decode cX2_isPairSound 33 = .ok (.iload_n 2, 1) := dk_28 (dq_lk dX2_isPairSound_v2 (r := 1) (x := 28) rfl)
theorem dX2_isPairSound_34 : decode cX2_isPairSound 34 = .ok (.if_icmp .ne 29, 3) := dk_160 (dq_lk dX2_isPairSound_v2 (r := 2) (x := 160) rfl) (dq_lk dX2_isPairSound_v2 (r := 3) (x := 0) rfl) (dq_lk dX2_isPairSound_v2 (r := 4) (x := 29) rfl) (by decide +kernel)
theorem dX2_isPairSound_37 : decode cX2_isPairSound 37 = .ok (.iload_n 3, 1) := dk_29 (dq_lk dX2_isPairSound_v2 (r := 5) (x := 29) rfl)
theorem dX2_isPairSound_38 : decode cX2_isPairSound 38 = .ok (.aload_n 1, 1) := dk_43 (dq_lk dX2_isPairSound_v2 (r := 6) (x := 43) rfl)
theorem dX2_isPairSound_39 : decode cX2_isPairSound 39 = .ok (.aload_n 0, 1) := dk_42 (dq_lk dX2_isPairSound_v2 (r := 7) (x := 42) rfl)
theorem dX2_isPairSound_40 : decode cX2_isPairSound 40 = .ok (.invokevirtual 179, 3) := dk_182 (dq_lk dX2_isPairSound_v2 (r := 8) (x := 182) rfl) (dq_lk dX2_isPairSound_v2 (r := 9) (x := 0) rfl) (dq_lk dX2_isPairSound_v2 (r := 10) (x := 179) rfl)
theorem dX2_isPairSound_43 : decode cX2_isPairSound 43 = .ok (.ineg, 1) := dk_116 (dq_lk dX2_isPairSound_v2 (r := 11) (x := 116) rfl)
theorem dX2_isPairSound_44 : decode cX2_isPairSound 44 = .ok (.if_icmp .ne 19, 3) := dk_160 (dq_lk dX2_isPairSound_v2 (r := 12) (x := 160) rfl) (dq_lk dX2_isPairSound_v2 (r := 13) (x := 0) rfl) (dq_lk dX2_isPairSound_v2 (r := 14) (x := 19) rfl) (by decide +kernel)
theorem dX2_isPairSound_47 : decode cX2_isPairSound 47 = .ok (.aload_n 0, 1) := dk_42 (dq_lk dX2_isPairSound_v2 (r := 15) (x := 42) rfl)
theorem dX2_isPairSound_48 : decode cX2_isPairSound 48 = .ok (.aload_n 1, 1) := dk_43 (dq_lk dX2_isPairSound_v3 (r := 0) (x := 43) rfl)
theorem dX2_isPairSound_49 : decode cX2_isPairSound 49 = .ok (.invokevirtual 363, 3) := dk_182 (dq_lk dX2_isPairSound_v3 (r := 1) (x := 182) rfl) (dq_lk dX2_isPairSound_v3 (r := 2) (x := 1) rfl) (dq_lk dX2_isPairSound_v3 (r := 3) (x := 107) rfl)
theorem dX2_isPairSound_52 : decode cX2_isPairSound 52 = .ok (.ifCond .eq 7, 3) := dk_153 (dq_lk dX2_isPairSound_v3 (r := 4) (x := 153) rfl) (dq_lk dX2_isPairSound_v3 (r := 5) (x := 0) rfl) (dq_lk dX2_isPairSound_v3 (r := 6) (x := 7) rfl) (by decide +kernel)
theorem dX2_isPairSound_55 : decode cX2_isPairSound 55 = .ok (.iload_n 3, 1) := dk_29 (dq_lk dX2_isPairSound_v3 (r := 7) (x := 29) rfl)
theorem dX2_isPairSound_56 : decode cX2_isPairSound 56 = .ok (.ifCond .ne 7, 3) := dk_154 (dq_lk dX2_isPairSound_v3 (r := 8) (x := 154) rfl) (dq_lk dX2_isPairSound_v3 (r := 9) (x := 0) rfl) (dq_lk dX2_isPairSound_v3 (r := 10) (x := 7) rfl) (by decide +kernel)
theorem dX2_isPairSound_59 : decode cX2_isPairSound 59 = .ok (.iconst 1, 1) := dk_4 (dq_lk dX2_isPairSound_v3 (r := 11) (x := 4) rfl)
theorem dX2_isPairSound_60 : decode cX2_isPairSound 60 = .ok (.goto 4, 3) := dk_167 (dq_lk dX2_isPairSound_v3 (r := 12) (x := 167) rfl) (dq_lk dX2_isPairSound_v3 (r := 13) (x := 0) rfl) (dq_lk dX2_isPairSound_v3 (r := 14) (x := 4) rfl) (by decide +kernel)
theorem dX2_isPairSound_63 : decode cX2_isPairSound 63 = .ok (.iconst 0, 1) := dk_3 (dq_lk dX2_isPairSound_v3 (r := 15) (x := 3) rfl)
theorem dX2_isPairSound_64 : decode cX2_isPairSound 64 = .ok (.ireturn, 1) := dk_172 (dq_lk dX2_isPairSound_v4 (r := 0) (x := 172) rfl)
end
