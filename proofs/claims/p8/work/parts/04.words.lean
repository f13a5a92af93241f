/-! THE TABLES' WORDS that the walks name (printed by a program of this repository out of what TURN prints). -/
/-- a static call of a method with handlers -/
def mWH (own : String) (idx : Nat) (y : MethodName) (b : ByteArray) (nL : Nat) (ret : Option FieldType) (hh : List (Nat × Nat × Nat × Nat)) (cnt : Nat) : Prop :=
  Cond.methodLink own idx y ∈ mW ∧ Cond.static y ∈ mW ∧ Cond.initialized y.cls ∈ mW ∧ Cond.codeWith y b nL ret hh ∈ mW ∧ (y.cls ≠ "java/lang/invoke/MethodHandle" ∧ y.cls ≠ "java/lang/invoke/VarHandle") ∧ (parseMethodDescriptor y.desc).map (fun d => d.parameters.length) = some cnt
theorem mtb_1 {w : Cond} (h : w ∈ tables_1_1) (g : mgood w = true) : w ∈ mW := mW_of (List.mem_append_right _ (show w ∈ tables_1 from List.mem_append_left _ h)) g
theorem mtb_2 {w : Cond} (h : w ∈ tables_1_2) (g : mgood w = true) : w ∈ mW := mW_of (List.mem_append_right _ (show w ∈ tables_1 from List.mem_append_right _ (List.mem_append_left _ h))) g
theorem mtb_3 {w : Cond} (h : w ∈ tables_1_3) (g : mgood w = true) : w ∈ mW := mW_of (List.mem_append_right _ (show w ∈ tables_1 from List.mem_append_right _ (List.mem_append_right _ (List.mem_append_left _ h)))) g
theorem mtb_4 {w : Cond} (h : w ∈ tables_1_4) (g : mgood w = true) : w ∈ mW := mW_of (List.mem_append_right _ (show w ∈ tables_1 from List.mem_append_right _ (List.mem_append_right _ (List.mem_append_right _ (List.mem_append_left _ h))))) g
theorem mtb_5 {w : Cond} (h : w ∈ tables_1_5) (g : mgood w = true) : w ∈ mW := mW_of (List.mem_append_right _ (show w ∈ tables_1 from List.mem_append_right _ (List.mem_append_right _ (List.mem_append_right _ (List.mem_append_right _ (List.mem_append_left _ h)))))) g
theorem mtb_6 {w : Cond} (h : w ∈ tables_1_6) (g : mgood w = true) : w ∈ mW := mW_of (List.mem_append_right _ (show w ∈ tables_1 from List.mem_append_right _ (List.mem_append_right _ (List.mem_append_right _ (List.mem_append_right _ (List.mem_append_right _ (h))))))) g
theorem kinX1 : ∀ w ∈ u_ws RX1 TX1 3, w ∈ mW := by
  intro w hw
  obtain ⟨k, hk0, rfl⟩ := List.mem_map.mp (show w ∈ (List.range 3).map (u_lay RX1 TX1) from hw)
  have hk := List.mem_range.mp hk0
  clear hk0 hw
  match k, hk with
  | 0, _ => exact mtb_1 (List.mem_of_getElem? (i := 45) rfl) rfl
  | 1, _ => exact mtb_1 (List.mem_of_getElem? (i := 47) rfl) rfl
  | 2, _ => exact mtb_1 (List.mem_of_getElem? (i := 49) rfl) rfl
  | k + 3, h => exact absurd h (by omega)
theorem kinX2 : ∀ w ∈ u_ws RX2 TX2 8, w ∈ mW := by
  intro w hw
  obtain ⟨k, hk0, rfl⟩ := List.mem_map.mp (show w ∈ (List.range 8).map (u_lay RX2 TX2) from hw)
  have hk := List.mem_range.mp hk0
  clear hk0 hw
  match k, hk with
  | 0, _ => exact mtb_1 (List.mem_of_getElem? (i := 62) rfl) rfl
  | 1, _ => exact mtb_1 (List.mem_of_getElem? (i := 64) rfl) rfl
  | 2, _ => exact mtb_1 (List.mem_of_getElem? (i := 66) rfl) rfl
  | 3, _ => exact mtb_1 (List.mem_of_getElem? (i := 68) rfl) rfl
  | 4, _ => exact mtb_1 (List.mem_of_getElem? (i := 70) rfl) rfl
  | 5, _ => exact mtb_1 (List.mem_of_getElem? (i := 72) rfl) rfl
  | 6, _ => exact mtb_1 (List.mem_of_getElem? (i := 74) rfl) rfl
  | 7, _ => exact mtb_1 (List.mem_of_getElem? (i := 76) rfl) rfl
  | k + 8, h => exact absurd h (by omega)
theorem kinX3 : ∀ w ∈ u_ws RX3 TX3 2, w ∈ mW := by
  intro w hw
  obtain ⟨k, hk0, rfl⟩ := List.mem_map.mp (show w ∈ (List.range 2).map (u_lay RX3 TX3) from hw)
  have hk := List.mem_range.mp hk0
  clear hk0 hw
  match k, hk with
  | 0, _ => exact mtb_2 (List.mem_of_getElem? (i := 147) rfl) rfl
  | 1, _ => exact mtb_2 (List.mem_of_getElem? (i := 149) rfl) rfl
  | k + 2, h => exact absurd h (by omega)
theorem kinX4 : ∀ w ∈ u_ws RX4 TX4 9, w ∈ mW := by
  intro w hw
  obtain ⟨k, hk0, rfl⟩ := List.mem_map.mp (show w ∈ (List.range 9).map (u_lay RX4 TX4) from hw)
  have hk := List.mem_range.mp hk0
  clear hk0 hw
  match k, hk with
  | 0, _ => exact mtb_5 (List.mem_of_getElem? (i := 62) rfl) rfl
  | 1, _ => exact mtb_5 (List.mem_of_getElem? (i := 64) rfl) rfl
  | 2, _ => exact mtb_5 (List.mem_of_getElem? (i := 66) rfl) rfl
  | 3, _ => exact mtb_5 (List.mem_of_getElem? (i := 68) rfl) rfl
  | 4, _ => exact mtb_5 (List.mem_of_getElem? (i := 70) rfl) rfl
  | 5, _ => exact mtb_5 (List.mem_of_getElem? (i := 72) rfl) rfl
  | 6, _ => exact mtb_5 (List.mem_of_getElem? (i := 74) rfl) rfl
  | 7, _ => exact mtb_5 (List.mem_of_getElem? (i := 76) rfl) rfl
  | 8, _ => exact mtb_5 (List.mem_of_getElem? (i := 78) rfl) rfl
  | k + 9, h => exact absurd h (by omega)
set_option maxRecDepth 20000 in
theorem kw_39 : (Cond.initialized RL) ∈ mW := mtb_1 (List.mem_of_getElem? (i := 0) rfl) rfl
set_option maxRecDepth 20000 in
theorem kw_40 : (Cond.initialized RX2) ∈ mW := mtb_1 (List.mem_of_getElem? (i := 1) rfl) rfl
set_option maxRecDepth 20000 in
theorem kw_41 : (Cond.initialized RX1) ∈ mW := mtb_1 (List.mem_of_getElem? (i := 2) rfl) rfl
set_option maxRecDepth 20000 in
theorem kw_42 : (Cond.initialized RX4) ∈ mW := mtb_1 (List.mem_of_getElem? (i := 3) rfl) rfl
set_option maxRecDepth 20000 in
theorem kw_43 : (Cond.initialized RX3) ∈ mW := mtb_1 (List.mem_of_getElem? (i := 4) rfl) rfl
set_option maxRecDepth 20000 in
theorem kw_47 : (Cond.initialized "java/lang/IndexOutOfBoundsException") ∈ mW := mtb_1 (List.mem_of_getElem? (i := 8) rfl) rfl
set_option maxRecDepth 20000 in
theorem kw_48 : (Cond.initialized "java/lang/IllegalArgumentException") ∈ mW := mtb_1 (List.mem_of_getElem? (i := 9) rfl) rfl
set_option maxRecDepth 20000 in
theorem kw_49 : (Cond.initialized RJ9) ∈ mW := mtb_1 (List.mem_of_getElem? (i := 10) rfl) rfl
set_option maxRecDepth 20000 in
theorem kw_62 : (Cond.initialized RX0) ∈ mW := mtb_1 (List.mem_of_getElem? (i := 23) rfl) rfl
set_option maxRecDepth 20000 in
theorem kw_63 : (Cond.classLink RL 8 RX2) ∈ mW := mtb_1 (List.mem_of_getElem? (i := 24) rfl) rfl
set_option maxRecDepth 20000 in
theorem kw_64 : (Cond.instantiable RX2 8) ∈ mW := mtb_1 (List.mem_of_getElem? (i := 25) rfl) rfl
set_option maxRecDepth 20000 in
theorem kw_71 : (Cond.classLink RX2 17 RX1) ∈ mW := mtb_1 (List.mem_of_getElem? (i := 32) rfl) rfl
set_option maxRecDepth 20000 in
theorem kw_73 : (Cond.instantiable RX1 3) ∈ mW := mtb_1 (List.mem_of_getElem? (i := 34) rfl) rfl
set_option maxRecDepth 20000 in
theorem kw_78 : (Cond.fieldLink RX1 9 "Momentdesk$Local" "second" "J") ∈ mW := mtb_1 (List.mem_of_getElem? (i := 39) rfl) rfl
set_option maxRecDepth 20000 in
theorem kw_79 : (Cond.fieldLinkNest RX2 146 "Momentdesk$Local" "second" "J" RX2) ∈ mW := mtb_1 (List.mem_of_getElem? (i := 40) rfl) rfl
set_option maxRecDepth 20000 in
theorem kw_80 : (Cond.fieldLink RX1 15 "Momentdesk$Local" "nano" "I") ∈ mW := mtb_1 (List.mem_of_getElem? (i := 41) rfl) rfl
set_option maxRecDepth 20000 in
theorem kw_81 : (Cond.fieldLinkNest RX2 172 "Momentdesk$Local" "nano" "I" RX2) ∈ mW := mtb_1 (List.mem_of_getElem? (i := 42) rfl) rfl
set_option maxRecDepth 20000 in
theorem kw_82 : (Cond.fieldLink RX1 19 "Momentdesk$Local" "offset" "I") ∈ mW := mtb_1 (List.mem_of_getElem? (i := 43) rfl) rfl
set_option maxRecDepth 20000 in
theorem kw_83 : (Cond.fieldLinkNest RX2 158 "Momentdesk$Local" "offset" "I" RX2) ∈ mW := mtb_1 (List.mem_of_getElem? (i := 44) rfl) rfl
set_option maxRecDepth 20000 in
theorem kw_93 : (Cond.fieldLink RX2 9 "Momentdesk" "offsets" "[I") ∈ mW := mtb_1 (List.mem_of_getElem? (i := 54) rfl) rfl
set_option maxRecDepth 20000 in
theorem kw_94 : (Cond.fieldLink RX2 13 "Momentdesk" "numbers" "[J") ∈ mW := mtb_1 (List.mem_of_getElem? (i := 55) rfl) rfl
set_option maxRecDepth 20000 in
theorem kw_95 : (Cond.fieldLink RX2 20 "Momentdesk" "dates" "[LMomentdesk$Local;") ∈ mW := mtb_1 (List.mem_of_getElem? (i := 56) rfl) rfl
set_option maxRecDepth 20000 in
theorem kw_96 : (Cond.fieldLink RX2 24 "Momentdesk" "clocks" "[LMomentdesk$Local;") ∈ mW := mtb_1 (List.mem_of_getElem? (i := 57) rfl) rfl
set_option maxRecDepth 20000 in
theorem kw_97 : (Cond.fieldLink RX2 27 "Momentdesk" "triedDated" "LMomentdesk$Local;") ∈ mW := mtb_1 (List.mem_of_getElem? (i := 58) rfl) rfl
set_option maxRecDepth 20000 in
theorem kw_98 : (Cond.fieldLink RX2 31 "Momentdesk" "triedClock" "LMomentdesk$Local;") ∈ mW := mtb_1 (List.mem_of_getElem? (i := 59) rfl) rfl
set_option maxRecDepth 20000 in
theorem kw_99 : (Cond.fieldLink RX2 196 "Momentdesk" "knocks" "I") ∈ mW := mtb_1 (List.mem_of_getElem? (i := 60) rfl) rfl
set_option maxRecDepth 20000 in
theorem kw_100 : (Cond.fieldLink RX2 199 "Momentdesk" "refusals" "I") ∈ mW := mtb_1 (List.mem_of_getElem? (i := 61) rfl) rfl
set_option maxRecDepth 20000 in
theorem kw_121 : (Cond.code yX2_knock cX2_knock 1 (some .int)) ∈ mW := mtb_1 (List.mem_of_getElem? (i := 82) rfl) rfl
set_option maxRecDepth 20000 in
theorem kw_118 : (Cond.methodLink RL 241 yX2_knock) ∈ mW := mtb_1 (List.mem_of_getElem? (i := 79) rfl) rfl
set_option maxRecDepth 20000 in
theorem kw_119 : (Cond.instanceMethod yX2_knock) ∈ mW := mtb_1 (List.mem_of_getElem? (i := 80) rfl) rfl
set_option maxRecDepth 20000 in
theorem kw_120 : (Cond.selects RX2 yX2_knock yX2_knock) ∈ mW := mtb_1 (List.mem_of_getElem? (i := 81) rfl) rfl
set_option maxRecDepth 20000 in
theorem kw_125 : (Cond.code yX2_isSound cX2_isSound 1 (some .boolean)) ∈ mW := mtb_1 (List.mem_of_getElem? (i := 86) rfl) rfl
set_option maxRecDepth 20000 in
theorem kw_122 : (Cond.methodLink RL 248 yX2_isSound) ∈ mW := mtb_1 (List.mem_of_getElem? (i := 83) rfl) rfl
set_option maxRecDepth 20000 in
theorem kw_123 : (Cond.instanceMethod yX2_isSound) ∈ mW := mtb_1 (List.mem_of_getElem? (i := 84) rfl) rfl
set_option maxRecDepth 20000 in
theorem kw_124 : (Cond.selects RX2 yX2_isSound yX2_isSound) ∈ mW := mtb_1 (List.mem_of_getElem? (i := 85) rfl) rfl
set_option maxRecDepth 20000 in
theorem kw_129 : (Cond.code yX2_areMomentsSound cX2_areMomentsSound 5 (some .boolean)) ∈ mW := mtb_1 (List.mem_of_getElem? (i := 90) rfl) rfl
set_option maxRecDepth 20000 in
theorem kw_126 : (Cond.methodLink RX2 208 yX2_areMomentsSound) ∈ mW := mtb_1 (List.mem_of_getElem? (i := 87) rfl) rfl
set_option maxRecDepth 20000 in
theorem kw_128 : (Cond.instanceMethod yX2_areMomentsSound) ∈ mW := mtb_1 (List.mem_of_getElem? (i := 89) rfl) rfl
set_option maxRecDepth 20000 in
theorem kw_0 : (Cond.selects RX2 yX2_areMomentsSound yX2_areMomentsSound) ∈ mW := mW_at 0 rfl rfl
set_option maxRecDepth 20000 in
theorem kw_132 : (Cond.code yX2_secondOf cX2_secondOf 2 (some .long)) ∈ mW := mtb_1 (List.mem_of_getElem? (i := 93) rfl) rfl
set_option maxRecDepth 20000 in
theorem kw_130 : (Cond.methodLink RX2 96 yX2_secondOf) ∈ mW := mtb_1 (List.mem_of_getElem? (i := 91) rfl) rfl
set_option maxRecDepth 20000 in
theorem kw_131 : (Cond.static yX2_secondOf) ∈ mW := mtb_1 (List.mem_of_getElem? (i := 92) rfl) rfl
set_option maxRecDepth 20000 in
theorem kw_133 : (Cond.constantLong RX2 72 (1000000000)) ∈ mW := mtb_1 (List.mem_of_getElem? (i := 94) rfl) rfl
set_option maxRecDepth 20000 in
theorem kw_136 : (Cond.code yJ9_floorDiv_f86c9 cJ9_floorDiv_f86c9 6 (some .long)) ∈ mW := mtb_1 (List.mem_of_getElem? (i := 97) rfl) rfl
set_option maxRecDepth 20000 in
theorem kw_134 : (Cond.methodLink RX2 100 yJ9_floorDiv_f86c9) ∈ mW := mtb_1 (List.mem_of_getElem? (i := 95) rfl) rfl
set_option maxRecDepth 20000 in
theorem kw_135 : (Cond.static yJ9_floorDiv_f86c9) ∈ mW := mtb_1 (List.mem_of_getElem? (i := 96) rfl) rfl
set_option maxRecDepth 20000 in
theorem kw_139 : (Cond.code yX2_nanoOf cX2_nanoOf 2 (some .int)) ∈ mW := mtb_1 (List.mem_of_getElem? (i := 100) rfl) rfl
set_option maxRecDepth 20000 in
theorem kw_137 : (Cond.methodLink RX2 92 yX2_nanoOf) ∈ mW := mtb_1 (List.mem_of_getElem? (i := 98) rfl) rfl
set_option maxRecDepth 20000 in
theorem kw_138 : (Cond.static yX2_nanoOf) ∈ mW := mtb_1 (List.mem_of_getElem? (i := 99) rfl) rfl
set_option maxRecDepth 20000 in
theorem kw_142 : (Cond.code yJ9_floorMod_f86c9 cJ9_floorMod_f86c9 6 (some .long)) ∈ mW := mtb_1 (List.mem_of_getElem? (i := 103) rfl) rfl
set_option maxRecDepth 20000 in
theorem kw_140 : (Cond.methodLink RX2 277 yJ9_floorMod_f86c9) ∈ mW := mtb_1 (List.mem_of_getElem? (i := 101) rfl) rfl
set_option maxRecDepth 20000 in
theorem kw_141 : (Cond.static yJ9_floorMod_f86c9) ∈ mW := mtb_1 (List.mem_of_getElem? (i := 102) rfl) rfl
set_option maxRecDepth 20000 in
theorem kw_146 : (Cond.code yX1_tell cX1_tell 5 none) ∈ mW := mtb_1 (List.mem_of_getElem? (i := 107) rfl) rfl
set_option maxRecDepth 20000 in
theorem kw_143 : (Cond.methodLink RX2 270 yX1_tell) ∈ mW := mtb_1 (List.mem_of_getElem? (i := 104) rfl) rfl
set_option maxRecDepth 20000 in
theorem kw_144 : (Cond.instanceMethod yX1_tell) ∈ mW := mtb_1 (List.mem_of_getElem? (i := 105) rfl) rfl
set_option maxRecDepth 20000 in
theorem kw_145 : (Cond.selects RX1 yX1_tell yX1_tell) ∈ mW := mtb_1 (List.mem_of_getElem? (i := 106) rfl) rfl
set_option maxRecDepth 20000 in
theorem kw_149 : (Cond.code yX2_numberOf cX2_numberOf 1 (some .long)) ∈ mW := mtb_1 (List.mem_of_getElem? (i := 110) rfl) rfl
set_option maxRecDepth 20000 in
theorem kw_147 : (Cond.methodLink RX2 88 yX2_numberOf) ∈ mW := mtb_1 (List.mem_of_getElem? (i := 108) rfl) rfl
set_option maxRecDepth 20000 in
theorem kw_148 : (Cond.static yX2_numberOf) ∈ mW := mtb_1 (List.mem_of_getElem? (i := 109) rfl) rfl
set_option maxRecDepth 20000 in
theorem kw_153 : (Cond.code yX1_momentSecond cX1_momentSecond 1 (some .long)) ∈ mW := mtb_1 (List.mem_of_getElem? (i := 114) rfl) rfl
set_option maxRecDepth 20000 in
theorem kw_150 : (Cond.methodLink RX2 169 yX1_momentSecond) ∈ mW := mtb_1 (List.mem_of_getElem? (i := 111) rfl) rfl
set_option maxRecDepth 20000 in
theorem kw_151 : (Cond.instanceMethod yX1_momentSecond) ∈ mW := mtb_1 (List.mem_of_getElem? (i := 112) rfl) rfl
set_option maxRecDepth 20000 in
theorem kw_152 : (Cond.selects RX1 yX1_momentSecond yX1_momentSecond) ∈ mW := mtb_1 (List.mem_of_getElem? (i := 113) rfl) rfl
set_option maxRecDepth 20000 in
theorem kw_157 : (Cond.code yX2_areDatesToldAnewSound cX2_areDatesToldAnewSound 3 (some .boolean)) ∈ mW := mtb_1 (List.mem_of_getElem? (i := 118) rfl) rfl
set_option maxRecDepth 20000 in
theorem kw_154 : (Cond.methodLink RX2 212 yX2_areDatesToldAnewSound) ∈ mW := mtb_1 (List.mem_of_getElem? (i := 115) rfl) rfl
set_option maxRecDepth 20000 in
theorem kw_156 : (Cond.instanceMethod yX2_areDatesToldAnewSound) ∈ mW := mtb_1 (List.mem_of_getElem? (i := 117) rfl) rfl
set_option maxRecDepth 20000 in
theorem kw_1 : (Cond.selects RX2 yX2_areDatesToldAnewSound yX2_areDatesToldAnewSound) ∈ mW := mW_at 1 rfl rfl
set_option maxRecDepth 20000 in
theorem kw_160 : (Cond.code yX2_at cX2_at 2 (some (.object "Momentdesk$Local"))) ∈ mW := mtb_1 (List.mem_of_getElem? (i := 121) rfl) rfl
set_option maxRecDepth 20000 in
theorem kw_158 : (Cond.methodLink RX2 84 yX2_at) ∈ mW := mtb_1 (List.mem_of_getElem? (i := 119) rfl) rfl
set_option maxRecDepth 20000 in
theorem kw_159 : (Cond.static yX2_at) ∈ mW := mtb_1 (List.mem_of_getElem? (i := 120) rfl) rfl
set_option maxRecDepth 20000 in
theorem kw_161 : (Cond.classLink RX2 250 "java/lang/IndexOutOfBoundsException") ∈ mW := mtb_1 (List.mem_of_getElem? (i := 122) rfl) rfl
set_option maxRecDepth 20000 in
theorem kw_231 : (Cond.code yX2_isToldAnewSound cX2_isToldAnewSound 6 (some .boolean)) ∈ mW := mtb_1 (List.mem_of_getElem? (i := 192) rfl) rfl
set_option maxRecDepth 20000 in
theorem kw_228 : (Cond.methodLink RX2 366 yX2_isToldAnewSound) ∈ mW := mtb_1 (List.mem_of_getElem? (i := 189) rfl) rfl
set_option maxRecDepth 20000 in
theorem kw_230 : (Cond.instanceMethod yX2_isToldAnewSound) ∈ mW := mtb_1 (List.mem_of_getElem? (i := 191) rfl) rfl
set_option maxRecDepth 20000 in
theorem kw_3 : (Cond.selects RX2 yX2_isToldAnewSound yX2_isToldAnewSound) ∈ mW := mW_at 3 rfl rfl
set_option maxRecDepth 20000 in
theorem kw_232 : (Cond.constantLong RX2 266 (-1893456000)) ∈ mW := mtb_1 (List.mem_of_getElem? (i := 193) rfl) rfl
set_option maxRecDepth 20000 in
theorem kw_233 : (Cond.constantLong RX2 268 (1924991999)) ∈ mW := mtb_1 (List.mem_of_getElem? (i := 194) rfl) rfl
set_option maxRecDepth 20000 in
theorem kw_236 : (Cond.code yX2_isWithin cX2_isWithin 6 (some .boolean)) ∈ mW := mtb_1 (List.mem_of_getElem? (i := 197) rfl) rfl
set_option maxRecDepth 20000 in
theorem kw_234 : (Cond.methodLink RX2 48 yX2_isWithin) ∈ mW := mtb_1 (List.mem_of_getElem? (i := 195) rfl) rfl
set_option maxRecDepth 20000 in
theorem kw_235 : (Cond.static yX2_isWithin) ∈ mW := mtb_1 (List.mem_of_getElem? (i := 196) rfl) rfl
set_option maxRecDepth 20000 in
theorem kw_240 : (Cond.code yX1_isAlike cX1_isAlike 2 (some .boolean)) ∈ mW := mtb_1 (List.mem_of_getElem? (i := 201) rfl) rfl
set_option maxRecDepth 20000 in
theorem kw_237 : (Cond.methodLink RX2 360 yX1_isAlike) ∈ mW := mtb_1 (List.mem_of_getElem? (i := 198) rfl) rfl
set_option maxRecDepth 20000 in
theorem kw_238 : (Cond.instanceMethod yX1_isAlike) ∈ mW := mtb_1 (List.mem_of_getElem? (i := 199) rfl) rfl
set_option maxRecDepth 20000 in
theorem kw_239 : (Cond.selects RX1 yX1_isAlike yX1_isAlike) ∈ mW := mtb_1 (List.mem_of_getElem? (i := 200) rfl) rfl
set_option maxRecDepth 20000 in
theorem kw_241 : (Cond.methodLink RX1 55 yX1_momentSecond) ∈ mW := mtb_1 (List.mem_of_getElem? (i := 202) rfl) rfl
set_option maxRecDepth 20000 in
theorem kw_245 : (Cond.code yX1_isSame cX1_isSame 2 (some .boolean)) ∈ mW := mtb_1 (List.mem_of_getElem? (i := 206) rfl) rfl
set_option maxRecDepth 20000 in
theorem kw_242 : (Cond.methodLink RX2 363 yX1_isSame) ∈ mW := mtb_1 (List.mem_of_getElem? (i := 203) rfl) rfl
set_option maxRecDepth 20000 in
theorem kw_243 : (Cond.instanceMethod yX1_isSame) ∈ mW := mtb_1 (List.mem_of_getElem? (i := 204) rfl) rfl
set_option maxRecDepth 20000 in
theorem kw_244 : (Cond.selects RX1 yX1_isSame yX1_isSame) ∈ mW := mtb_1 (List.mem_of_getElem? (i := 205) rfl) rfl
set_option maxRecDepth 20000 in
theorem kw_249 : (Cond.code yX2_arePairsSound cX2_arePairsSound 3 (some .boolean)) ∈ mW := mtb_1 (List.mem_of_getElem? (i := 210) rfl) rfl
set_option maxRecDepth 20000 in
theorem kw_246 : (Cond.methodLink RX2 215 yX2_arePairsSound) ∈ mW := mtb_1 (List.mem_of_getElem? (i := 207) rfl) rfl
set_option maxRecDepth 20000 in
theorem kw_248 : (Cond.instanceMethod yX2_arePairsSound) ∈ mW := mtb_1 (List.mem_of_getElem? (i := 209) rfl) rfl
set_option maxRecDepth 20000 in
theorem kw_4 : (Cond.selects RX2 yX2_arePairsSound yX2_arePairsSound) ∈ mW := mW_at 4 rfl rfl
set_option maxRecDepth 20000 in
theorem kw_252 : (Cond.code yX2_isPairSound cX2_isPairSound 4 (some .boolean)) ∈ mW := mtb_1 (List.mem_of_getElem? (i := 213) rfl) rfl
set_option maxRecDepth 20000 in
theorem kw_250 : (Cond.methodLink RX2 370 yX2_isPairSound) ∈ mW := mtb_1 (List.mem_of_getElem? (i := 211) rfl) rfl
set_option maxRecDepth 20000 in
theorem kw_251 : (Cond.static yX2_isPairSound) ∈ mW := mtb_1 (List.mem_of_getElem? (i := 212) rfl) rfl
set_option maxRecDepth 20000 in
theorem kw_256 : (Cond.code yX1_isAhead cX1_isAhead 2 (some .boolean)) ∈ mW := mtb_1 (List.mem_of_getElem? (i := 217) rfl) rfl
set_option maxRecDepth 20000 in
theorem kw_253 : (Cond.methodLink RX2 356 yX1_isAhead) ∈ mW := mtb_1 (List.mem_of_getElem? (i := 214) rfl) rfl
set_option maxRecDepth 20000 in
theorem kw_254 : (Cond.instanceMethod yX1_isAhead) ∈ mW := mtb_1 (List.mem_of_getElem? (i := 215) rfl) rfl
set_option maxRecDepth 20000 in
theorem kw_255 : (Cond.selects RX1 yX1_isAhead yX1_isAhead) ∈ mW := mtb_1 (List.mem_of_getElem? (i := 216) rfl) rfl
set_option maxRecDepth 20000 in
theorem kw_260 : (Cond.code yX1_momentOrder cX1_momentOrder 3 (some .int)) ∈ mW := mtb_1 (List.mem_of_getElem? (i := 221) rfl) rfl
set_option maxRecDepth 20000 in
theorem kw_257 : (Cond.methodLink RX1 51 yX1_momentOrder) ∈ mW := mtb_1 (List.mem_of_getElem? (i := 218) rfl) rfl
set_option maxRecDepth 20000 in
theorem kw_258 : (Cond.instanceMethod yX1_momentOrder) ∈ mW := mtb_1 (List.mem_of_getElem? (i := 219) rfl) rfl
set_option maxRecDepth 20000 in
theorem kw_259 : (Cond.selects RX1 yX1_momentOrder yX1_momentOrder) ∈ mW := mtb_1 (List.mem_of_getElem? (i := 220) rfl) rfl
set_option maxRecDepth 20000 in
theorem kw_261 : (Cond.methodLinkNest RX1 59 yX2_compared RX2) ∈ mW := mtb_1 (List.mem_of_getElem? (i := 222) rfl) rfl
set_option maxRecDepth 20000 in
theorem kw_262 : (Cond.static yX2_compared) ∈ mW := mtb_1 (List.mem_of_getElem? (i := 223) rfl) rfl
set_option maxRecDepth 20000 in
theorem kw_263 : (Cond.code yX2_compared cX2_compared 4 (some .int)) ∈ mW := mtb_1 (List.mem_of_getElem? (i := 224) rfl) rfl
set_option maxRecDepth 20000 in
theorem kw_267 : (Cond.code yX1_orderTo cX1_orderTo 3 (some .int)) ∈ mW := mtb_1 (List.mem_of_getElem? (i := 228) rfl) rfl
set_option maxRecDepth 20000 in
theorem kw_264 : (Cond.methodLink RX2 179 yX1_orderTo) ∈ mW := mtb_1 (List.mem_of_getElem? (i := 225) rfl) rfl
set_option maxRecDepth 20000 in
theorem kw_265 : (Cond.instanceMethod yX1_orderTo) ∈ mW := mtb_1 (List.mem_of_getElem? (i := 226) rfl) rfl
set_option maxRecDepth 20000 in
theorem kw_266 : (Cond.selects RX1 yX1_orderTo yX1_orderTo) ∈ mW := mtb_1 (List.mem_of_getElem? (i := 227) rfl) rfl
set_option maxRecDepth 20000 in
theorem kw_271 : (Cond.code yX2_areStrikesSound cX2_areStrikesSound 3 (some .boolean)) ∈ mW := mtb_1 (List.mem_of_getElem? (i := 232) rfl) rfl
set_option maxRecDepth 20000 in
theorem kw_268 : (Cond.methodLink RX2 218 yX2_areStrikesSound) ∈ mW := mtb_1 (List.mem_of_getElem? (i := 229) rfl) rfl
set_option maxRecDepth 20000 in
theorem kw_270 : (Cond.instanceMethod yX2_areStrikesSound) ∈ mW := mtb_1 (List.mem_of_getElem? (i := 231) rfl) rfl
set_option maxRecDepth 20000 in
theorem kw_5 : (Cond.selects RX2 yX2_areStrikesSound yX2_areStrikesSound) ∈ mW := mW_at 5 rfl rfl
set_option maxRecDepth 20000 in
theorem kw_275 : (Cond.code yX1_secondOfDay cX1_secondOfDay 1 (some .int)) ∈ mW := mtb_1 (List.mem_of_getElem? (i := 236) rfl) rfl
set_option maxRecDepth 20000 in
theorem kw_272 : (Cond.methodLink RX2 320 yX1_secondOfDay) ∈ mW := mtb_1 (List.mem_of_getElem? (i := 233) rfl) rfl
set_option maxRecDepth 20000 in
theorem kw_273 : (Cond.instanceMethod yX1_secondOfDay) ∈ mW := mtb_1 (List.mem_of_getElem? (i := 234) rfl) rfl
set_option maxRecDepth 20000 in
theorem kw_274 : (Cond.selects RX1 yX1_secondOfDay yX1_secondOfDay) ∈ mW := mtb_1 (List.mem_of_getElem? (i := 235) rfl) rfl
set_option maxRecDepth 20000 in
theorem kw_276 : (Cond.constantLong RX1 22 (86400)) ∈ mW := mtb_1 (List.mem_of_getElem? (i := 237) rfl) rfl
set_option maxRecDepth 20000 in
theorem kw_277 : (Cond.methodLink RX1 45 yJ9_floorMod_f86c9) ∈ mW := mtb_1 (List.mem_of_getElem? (i := 238) rfl) rfl
set_option maxRecDepth 20000 in
theorem kw_281 : (Cond.code yX1_beginOfDay cX1_beginOfDay 1 (some .long)) ∈ mW := mtb_2 (List.mem_of_getElem? (i := 2) rfl) rfl
set_option maxRecDepth 20000 in
theorem kw_278 : (Cond.methodLink RX2 190 yX1_beginOfDay) ∈ mW := mtb_1 (List.mem_of_getElem? (i := 239) rfl) rfl
set_option maxRecDepth 20000 in
theorem kw_279 : (Cond.instanceMethod yX1_beginOfDay) ∈ mW := mtb_2 (List.mem_of_getElem? (i := 0) rfl) rfl
set_option maxRecDepth 20000 in
theorem kw_280 : (Cond.selects RX1 yX1_beginOfDay yX1_beginOfDay) ∈ mW := mtb_2 (List.mem_of_getElem? (i := 1) rfl) rfl
set_option maxRecDepth 20000 in
theorem kw_285 : (Cond.code yX1_day cX1_day 1 (some .int)) ∈ mW := mtb_2 (List.mem_of_getElem? (i := 6) rfl) rfl
set_option maxRecDepth 20000 in
theorem kw_282 : (Cond.methodLink RX1 30 yX1_day) ∈ mW := mtb_2 (List.mem_of_getElem? (i := 3) rfl) rfl
set_option maxRecDepth 20000 in
theorem kw_283 : (Cond.instanceMethod yX1_day) ∈ mW := mtb_2 (List.mem_of_getElem? (i := 4) rfl) rfl
set_option maxRecDepth 20000 in
theorem kw_284 : (Cond.selects RX1 yX1_day yX1_day) ∈ mW := mtb_2 (List.mem_of_getElem? (i := 5) rfl) rfl
set_option maxRecDepth 20000 in
theorem kw_286 : (Cond.methodLink RX1 24 yJ9_floorDiv_f86c9) ∈ mW := mtb_2 (List.mem_of_getElem? (i := 7) rfl) rfl
set_option maxRecDepth 20000 in
theorem kw_290 : (Cond.code yX2_digest cX2_digest 3 (some .long)) ∈ mW := mtb_2 (List.mem_of_getElem? (i := 11) rfl) rfl
set_option maxRecDepth 20000 in
theorem kw_287 : (Cond.methodLink RL 253 yX2_digest) ∈ mW := mtb_2 (List.mem_of_getElem? (i := 8) rfl) rfl
set_option maxRecDepth 20000 in
theorem kw_288 : (Cond.instanceMethod yX2_digest) ∈ mW := mtb_2 (List.mem_of_getElem? (i := 9) rfl) rfl
set_option maxRecDepth 20000 in
theorem kw_289 : (Cond.selects RX2 yX2_digest yX2_digest) ∈ mW := mtb_2 (List.mem_of_getElem? (i := 10) rfl) rfl
set_option maxRecDepth 20000 in
theorem kw_291 : (Cond.constantLong RX2 221 (6199)) ∈ mW := mtb_2 (List.mem_of_getElem? (i := 12) rfl) rfl
set_option maxRecDepth 20000 in
theorem kw_295 : (Cond.code yX2_withOffsets cX2_withOffsets 6 (some .long)) ∈ mW := mtb_2 (List.mem_of_getElem? (i := 16) rfl) rfl
set_option maxRecDepth 20000 in
theorem kw_292 : (Cond.methodLink RX2 223 yX2_withOffsets) ∈ mW := mtb_2 (List.mem_of_getElem? (i := 13) rfl) rfl
set_option maxRecDepth 20000 in
theorem kw_294 : (Cond.instanceMethod yX2_withOffsets) ∈ mW := mtb_2 (List.mem_of_getElem? (i := 15) rfl) rfl
set_option maxRecDepth 20000 in
theorem kw_6 : (Cond.selects RX2 yX2_withOffsets yX2_withOffsets) ∈ mW := mW_at 6 rfl rfl
set_option maxRecDepth 20000 in
theorem kw_299 : (Cond.code yX2_seconds cX2_seconds 2 (some .int)) ∈ mW := mtb_2 (List.mem_of_getElem? (i := 20) rfl) rfl
set_option maxRecDepth 20000 in
theorem kw_296 : (Cond.methodLink RX2 64 yX2_seconds) ∈ mW := mtb_2 (List.mem_of_getElem? (i := 17) rfl) rfl
set_option maxRecDepth 20000 in
theorem kw_297 : (Cond.instanceMethod yX2_seconds) ∈ mW := mtb_2 (List.mem_of_getElem? (i := 18) rfl) rfl
set_option maxRecDepth 20000 in
theorem kw_298 : (Cond.selects RX2 yX2_seconds yX2_seconds) ∈ mW := mtb_2 (List.mem_of_getElem? (i := 19) rfl) rfl
set_option maxRecDepth 20000 in
theorem kw_302 : (Cond.code yX2_requireOne cX2_requireOne 2 none) ∈ mW := mtb_2 (List.mem_of_getElem? (i := 23) rfl) rfl
set_option maxRecDepth 20000 in
theorem kw_300 : (Cond.methodLink RX2 34 yX2_requireOne) ∈ mW := mtb_2 (List.mem_of_getElem? (i := 21) rfl) rfl
set_option maxRecDepth 20000 in
theorem kw_301 : (Cond.static yX2_requireOne) ∈ mW := mtb_2 (List.mem_of_getElem? (i := 22) rfl) rfl
set_option maxRecDepth 20000 in
theorem kw_305 : (Cond.code yX2_added cX2_added 4 (some .long)) ∈ mW := mtb_2 (List.mem_of_getElem? (i := 26) rfl) rfl
set_option maxRecDepth 20000 in
theorem kw_303 : (Cond.methodLink RX2 247 yX2_added) ∈ mW := mtb_2 (List.mem_of_getElem? (i := 24) rfl) rfl
set_option maxRecDepth 20000 in
theorem kw_304 : (Cond.static yX2_added) ∈ mW := mtb_2 (List.mem_of_getElem? (i := 25) rfl) rfl
set_option maxRecDepth 20000 in
theorem kw_306 : (Cond.constantLong RX2 374 (31)) ∈ mW := mtb_2 (List.mem_of_getElem? (i := 27) rfl) rfl
set_option maxRecDepth 20000 in
theorem kw_310 : (Cond.code yX2_withMoments cX2_withMoments 6 (some .long)) ∈ mW := mtb_2 (List.mem_of_getElem? (i := 31) rfl) rfl
set_option maxRecDepth 20000 in
theorem kw_307 : (Cond.methodLink RX2 226 yX2_withMoments) ∈ mW := mtb_2 (List.mem_of_getElem? (i := 28) rfl) rfl
set_option maxRecDepth 20000 in
theorem kw_309 : (Cond.instanceMethod yX2_withMoments) ∈ mW := mtb_2 (List.mem_of_getElem? (i := 30) rfl) rfl
set_option maxRecDepth 20000 in
theorem kw_7 : (Cond.selects RX2 yX2_withMoments yX2_withMoments) ∈ mW := mW_at 7 rfl rfl
set_option maxRecDepth 20000 in
theorem kw_314 : (Cond.code yX2_ofMoment cX2_ofMoment 3 (some .int)) ∈ mW := mtb_2 (List.mem_of_getElem? (i := 35) rfl) rfl
set_option maxRecDepth 20000 in
theorem kw_311 : (Cond.methodLink RX2 376 yX2_ofMoment) ∈ mW := mtb_2 (List.mem_of_getElem? (i := 32) rfl) rfl
set_option maxRecDepth 20000 in
theorem kw_312 : (Cond.instanceMethod yX2_ofMoment) ∈ mW := mtb_2 (List.mem_of_getElem? (i := 33) rfl) rfl
set_option maxRecDepth 20000 in
theorem kw_313 : (Cond.selects RX2 yX2_ofMoment yX2_ofMoment) ∈ mW := mtb_2 (List.mem_of_getElem? (i := 34) rfl) rfl
set_option maxRecDepth 20000 in
theorem kw_318 : (Cond.code yX2_withDates cX2_withDates 7 (some .long)) ∈ mW := mtb_2 (List.mem_of_getElem? (i := 39) rfl) rfl
set_option maxRecDepth 20000 in
theorem kw_315 : (Cond.methodLink RX2 229 yX2_withDates) ∈ mW := mtb_2 (List.mem_of_getElem? (i := 36) rfl) rfl
set_option maxRecDepth 20000 in
theorem kw_317 : (Cond.instanceMethod yX2_withDates) ∈ mW := mtb_2 (List.mem_of_getElem? (i := 38) rfl) rfl
set_option maxRecDepth 20000 in
theorem kw_8 : (Cond.selects RX2 yX2_withDates yX2_withDates) ∈ mW := mW_at 8 rfl rfl
set_option maxRecDepth 20000 in
theorem kw_321 : (Cond.code yX2_datePart cX2_datePart 3 (some .int)) ∈ mW := mtb_2 (List.mem_of_getElem? (i := 42) rfl) rfl
set_option maxRecDepth 20000 in
theorem kw_319 : (Cond.methodLink RX2 175 yX2_datePart) ∈ mW := mtb_2 (List.mem_of_getElem? (i := 40) rfl) rfl
set_option maxRecDepth 20000 in
theorem kw_320 : (Cond.static yX2_datePart) ∈ mW := mtb_2 (List.mem_of_getElem? (i := 41) rfl) rfl
set_option maxRecDepth 20000 in
theorem kw_322 : (Cond.methodLink RX2 274 yX1_day) ∈ mW := mtb_2 (List.mem_of_getElem? (i := 43) rfl) rfl
set_option maxRecDepth 20000 in
theorem kw_325 : (Cond.code yX0_yearOf cX0_yearOf 2 (some .int)) ∈ mW := mtb_2 (List.mem_of_getElem? (i := 46) rfl) rfl
set_option maxRecDepth 20000 in
theorem kw_323 : (Cond.methodLink RX2 323 yX0_yearOf) ∈ mW := mtb_2 (List.mem_of_getElem? (i := 44) rfl) rfl
set_option maxRecDepth 20000 in
theorem kw_324 : (Cond.static yX0_yearOf) ∈ mW := mtb_2 (List.mem_of_getElem? (i := 45) rfl) rfl
set_option maxRecDepth 20000 in
theorem kw_328 : (Cond.code yX0_firstDayOf cX0_firstDayOf 2 (some .int)) ∈ mW := mtb_2 (List.mem_of_getElem? (i := 49) rfl) rfl
set_option maxRecDepth 20000 in
theorem kw_326 : (Cond.methodLink RX0 26 yX0_firstDayOf) ∈ mW := mtb_2 (List.mem_of_getElem? (i := 47) rfl) rfl
set_option maxRecDepth 20000 in
theorem kw_327 : (Cond.static yX0_firstDayOf) ∈ mW := mtb_2 (List.mem_of_getElem? (i := 48) rfl) rfl
set_option maxRecDepth 20000 in
theorem kw_329 : (Cond.constant RX0 25 (719162)) ∈ mW := mtb_2 (List.mem_of_getElem? (i := 50) rfl) rfl
set_option maxRecDepth 20000 in
theorem kw_332 : (Cond.code yX0_monthOf cX0_monthOf 4 (some .int)) ∈ mW := mtb_2 (List.mem_of_getElem? (i := 53) rfl) rfl
set_option maxRecDepth 20000 in
theorem kw_330 : (Cond.methodLink RX2 326 yX0_monthOf) ∈ mW := mtb_2 (List.mem_of_getElem? (i := 51) rfl) rfl
set_option maxRecDepth 20000 in
theorem kw_331 : (Cond.static yX0_monthOf) ∈ mW := mtb_2 (List.mem_of_getElem? (i := 52) rfl) rfl
set_option maxRecDepth 20000 in
theorem kw_333 : (Cond.methodLink RX0 33 yX0_yearOf) ∈ mW := mtb_2 (List.mem_of_getElem? (i := 54) rfl) rfl
set_option maxRecDepth 20000 in
theorem kw_336 : (Cond.code yX0_daysBeforeMonth cX0_daysBeforeMonth 3 (some .int)) ∈ mW := mtb_2 (List.mem_of_getElem? (i := 57) rfl) rfl
set_option maxRecDepth 20000 in
theorem kw_334 : (Cond.methodLink RX0 30 yX0_daysBeforeMonth) ∈ mW := mtb_2 (List.mem_of_getElem? (i := 55) rfl) rfl
set_option maxRecDepth 20000 in
theorem kw_335 : (Cond.static yX0_daysBeforeMonth) ∈ mW := mtb_2 (List.mem_of_getElem? (i := 56) rfl) rfl
set_option maxRecDepth 20000 in
theorem kw_339 : (Cond.code yX0_isLeap cX0_isLeap 1 (some .boolean)) ∈ mW := mtb_2 (List.mem_of_getElem? (i := 60) rfl) rfl
set_option maxRecDepth 20000 in
theorem kw_337 : (Cond.methodLink RX0 9 yX0_isLeap) ∈ mW := mtb_2 (List.mem_of_getElem? (i := 58) rfl) rfl
set_option maxRecDepth 20000 in
theorem kw_338 : (Cond.static yX0_isLeap) ∈ mW := mtb_2 (List.mem_of_getElem? (i := 59) rfl) rfl
set_option maxRecDepth 20000 in
theorem kw_342 : (Cond.code yX0_dayOfMonth cX0_dayOfMonth 1 (some .int)) ∈ mW := mtb_2 (List.mem_of_getElem? (i := 63) rfl) rfl
set_option maxRecDepth 20000 in
theorem kw_340 : (Cond.methodLink RX2 311 yX0_dayOfMonth) ∈ mW := mtb_2 (List.mem_of_getElem? (i := 61) rfl) rfl
set_option maxRecDepth 20000 in
theorem kw_341 : (Cond.static yX0_dayOfMonth) ∈ mW := mtb_2 (List.mem_of_getElem? (i := 62) rfl) rfl
set_option maxRecDepth 20000 in
theorem kw_345 : (Cond.code yX0_dayOfYear cX0_dayOfYear 1 (some .int)) ∈ mW := mtb_2 (List.mem_of_getElem? (i := 66) rfl) rfl
set_option maxRecDepth 20000 in
theorem kw_343 : (Cond.methodLink RX0 36 yX0_dayOfYear) ∈ mW := mtb_2 (List.mem_of_getElem? (i := 64) rfl) rfl
set_option maxRecDepth 20000 in
theorem kw_344 : (Cond.static yX0_dayOfYear) ∈ mW := mtb_2 (List.mem_of_getElem? (i := 65) rfl) rfl
set_option maxRecDepth 20000 in
theorem kw_346 : (Cond.methodLink RX0 39 yX0_monthOf) ∈ mW := mtb_2 (List.mem_of_getElem? (i := 67) rfl) rfl
set_option maxRecDepth 20000 in
theorem kw_347 : (Cond.methodLink RX2 350 yX0_dayOfYear) ∈ mW := mtb_2 (List.mem_of_getElem? (i := 68) rfl) rfl
set_option maxRecDepth 20000 in
theorem kw_351 : (Cond.code yX1_hour cX1_hour 1 (some .int)) ∈ mW := mtb_2 (List.mem_of_getElem? (i := 72) rfl) rfl
set_option maxRecDepth 20000 in
theorem kw_348 : (Cond.methodLink RX2 335 yX1_hour) ∈ mW := mtb_2 (List.mem_of_getElem? (i := 69) rfl) rfl
set_option maxRecDepth 20000 in
theorem kw_349 : (Cond.instanceMethod yX1_hour) ∈ mW := mtb_2 (List.mem_of_getElem? (i := 70) rfl) rfl
set_option maxRecDepth 20000 in
theorem kw_350 : (Cond.selects RX1 yX1_hour yX1_hour) ∈ mW := mtb_2 (List.mem_of_getElem? (i := 71) rfl) rfl
set_option maxRecDepth 20000 in
theorem kw_352 : (Cond.methodLink RX1 48 yX1_secondOfDay) ∈ mW := mtb_2 (List.mem_of_getElem? (i := 73) rfl) rfl
set_option maxRecDepth 20000 in
theorem kw_356 : (Cond.code yX1_minute cX1_minute 1 (some .int)) ∈ mW := mtb_2 (List.mem_of_getElem? (i := 77) rfl) rfl
set_option maxRecDepth 20000 in
theorem kw_353 : (Cond.methodLink RX2 342 yX1_minute) ∈ mW := mtb_2 (List.mem_of_getElem? (i := 74) rfl) rfl
set_option maxRecDepth 20000 in
theorem kw_354 : (Cond.instanceMethod yX1_minute) ∈ mW := mtb_2 (List.mem_of_getElem? (i := 75) rfl) rfl
set_option maxRecDepth 20000 in
theorem kw_355 : (Cond.selects RX1 yX1_minute yX1_minute) ∈ mW := mtb_2 (List.mem_of_getElem? (i := 76) rfl) rfl
set_option maxRecDepth 20000 in
theorem kw_360 : (Cond.code yX1_secondOfMinute cX1_secondOfMinute 1 (some .int)) ∈ mW := mtb_2 (List.mem_of_getElem? (i := 81) rfl) rfl
set_option maxRecDepth 20000 in
theorem kw_357 : (Cond.methodLink RX2 345 yX1_secondOfMinute) ∈ mW := mtb_2 (List.mem_of_getElem? (i := 78) rfl) rfl
set_option maxRecDepth 20000 in
theorem kw_358 : (Cond.instanceMethod yX1_secondOfMinute) ∈ mW := mtb_2 (List.mem_of_getElem? (i := 79) rfl) rfl
set_option maxRecDepth 20000 in
theorem kw_359 : (Cond.selects RX1 yX1_secondOfMinute yX1_secondOfMinute) ∈ mW := mtb_2 (List.mem_of_getElem? (i := 80) rfl) rfl
set_option maxRecDepth 20000 in
theorem kw_363 : (Cond.code yX0_dayOfWeek cX0_dayOfWeek 1 (some .int)) ∈ mW := mtb_2 (List.mem_of_getElem? (i := 84) rfl) rfl
set_option maxRecDepth 20000 in
theorem kw_361 : (Cond.methodLink RX2 353 yX0_dayOfWeek) ∈ mW := mtb_2 (List.mem_of_getElem? (i := 82) rfl) rfl
set_option maxRecDepth 20000 in
theorem kw_362 : (Cond.static yX0_dayOfWeek) ∈ mW := mtb_2 (List.mem_of_getElem? (i := 83) rfl) rfl
set_option maxRecDepth 20000 in
theorem kw_366 : (Cond.code yJ9_floorMod_7cf53 cJ9_floorMod_7cf53 3 (some .int)) ∈ mW := mtb_2 (List.mem_of_getElem? (i := 87) rfl) rfl
set_option maxRecDepth 20000 in
theorem kw_364 : (Cond.methodLink RX0 42 yJ9_floorMod_7cf53) ∈ mW := mtb_2 (List.mem_of_getElem? (i := 85) rfl) rfl
set_option maxRecDepth 20000 in
theorem kw_365 : (Cond.static yJ9_floorMod_7cf53) ∈ mW := mtb_2 (List.mem_of_getElem? (i := 86) rfl) rfl
set_option maxRecDepth 20000 in
theorem kw_370 : (Cond.code yX2_withClocks cX2_withClocks 7 (some .long)) ∈ mW := mtb_2 (List.mem_of_getElem? (i := 91) rfl) rfl
set_option maxRecDepth 20000 in
theorem kw_367 : (Cond.methodLink RX2 232 yX2_withClocks) ∈ mW := mtb_2 (List.mem_of_getElem? (i := 88) rfl) rfl
set_option maxRecDepth 20000 in
theorem kw_369 : (Cond.instanceMethod yX2_withClocks) ∈ mW := mtb_2 (List.mem_of_getElem? (i := 90) rfl) rfl
set_option maxRecDepth 20000 in
theorem kw_9 : (Cond.selects RX2 yX2_withClocks yX2_withClocks) ∈ mW := mW_at 9 rfl rfl
set_option maxRecDepth 20000 in
theorem kw_373 : (Cond.code yX2_clockPart cX2_clockPart 2 (some .int)) ∈ mW := mtb_2 (List.mem_of_getElem? (i := 94) rfl) rfl
set_option maxRecDepth 20000 in
theorem kw_371 : (Cond.methodLink RX2 193 yX2_clockPart) ∈ mW := mtb_2 (List.mem_of_getElem? (i := 92) rfl) rfl
set_option maxRecDepth 20000 in
theorem kw_372 : (Cond.static yX2_clockPart) ∈ mW := mtb_2 (List.mem_of_getElem? (i := 93) rfl) rfl
set_option maxRecDepth 20000 in
theorem kw_377 : (Cond.code yX2_withDatePairs cX2_withDatePairs 7 (some .long)) ∈ mW := mtb_2 (List.mem_of_getElem? (i := 98) rfl) rfl
set_option maxRecDepth 20000 in
theorem kw_374 : (Cond.methodLink RX2 235 yX2_withDatePairs) ∈ mW := mtb_2 (List.mem_of_getElem? (i := 95) rfl) rfl
set_option maxRecDepth 20000 in
theorem kw_376 : (Cond.instanceMethod yX2_withDatePairs) ∈ mW := mtb_2 (List.mem_of_getElem? (i := 97) rfl) rfl
set_option maxRecDepth 20000 in
theorem kw_10 : (Cond.selects RX2 yX2_withDatePairs yX2_withDatePairs) ∈ mW := mW_at 10 rfl rfl
set_option maxRecDepth 20000 in
theorem kw_381 : (Cond.code yX2_withClockPairs cX2_withClockPairs 7 (some .long)) ∈ mW := mtb_2 (List.mem_of_getElem? (i := 102) rfl) rfl
set_option maxRecDepth 20000 in
theorem kw_378 : (Cond.methodLink RX2 238 yX2_withClockPairs) ∈ mW := mtb_2 (List.mem_of_getElem? (i := 99) rfl) rfl
set_option maxRecDepth 20000 in
theorem kw_380 : (Cond.instanceMethod yX2_withClockPairs) ∈ mW := mtb_2 (List.mem_of_getElem? (i := 101) rfl) rfl
set_option maxRecDepth 20000 in
theorem kw_11 : (Cond.selects RX2 yX2_withClockPairs yX2_withClockPairs) ∈ mW := mW_at 11 rfl rfl
set_option maxRecDepth 20000 in
theorem kw_385 : (Cond.code yX2_withHouse cX2_withHouse 6 (some .long)) ∈ mW := mtb_2 (List.mem_of_getElem? (i := 106) rfl) rfl
set_option maxRecDepth 20000 in
theorem kw_382 : (Cond.methodLink RX2 241 yX2_withHouse) ∈ mW := mtb_2 (List.mem_of_getElem? (i := 103) rfl) rfl
set_option maxRecDepth 20000 in
theorem kw_384 : (Cond.instanceMethod yX2_withHouse) ∈ mW := mtb_2 (List.mem_of_getElem? (i := 105) rfl) rfl
set_option maxRecDepth 20000 in
theorem kw_12 : (Cond.selects RX2 yX2_withHouse yX2_withHouse) ∈ mW := mW_at 12 rfl rfl
set_option maxRecDepth 20000 in
theorem kw_389 : (Cond.code yX2_house cX2_house 2 (some .int)) ∈ mW := mtb_2 (List.mem_of_getElem? (i := 110) rfl) rfl
set_option maxRecDepth 20000 in
theorem kw_386 : (Cond.methodLink RX2 380 yX2_house) ∈ mW := mtb_2 (List.mem_of_getElem? (i := 107) rfl) rfl
set_option maxRecDepth 20000 in
theorem kw_387 : (Cond.instanceMethod yX2_house) ∈ mW := mtb_2 (List.mem_of_getElem? (i := 108) rfl) rfl
set_option maxRecDepth 20000 in
theorem kw_388 : (Cond.selects RX2 yX2_house yX2_house) ∈ mW := mtb_2 (List.mem_of_getElem? (i := 109) rfl) rfl
set_option maxRecDepth 20000 in
theorem kw_392 : (Cond.code yX2_requireWithin cX2_requireWithin 3 none) ∈ mW := mtb_2 (List.mem_of_getElem? (i := 113) rfl) rfl
set_option maxRecDepth 20000 in
theorem kw_390 : (Cond.methodLink RX2 40 yX2_requireWithin) ∈ mW := mtb_2 (List.mem_of_getElem? (i := 111) rfl) rfl
set_option maxRecDepth 20000 in
theorem kw_391 : (Cond.static yX2_requireWithin) ∈ mW := mtb_2 (List.mem_of_getElem? (i := 112) rfl) rfl
set_option maxRecDepth 20000 in
theorem kw_393 : (Cond.classLink RX2 257 "java/lang/IllegalArgumentException") ∈ mW := mtb_2 (List.mem_of_getElem? (i := 114) rfl) rfl
set_option maxRecDepth 20000 in
theorem kw_412 : (Cond.code yX2_firstDated cX2_firstDated 3 (some .int)) ∈ mW := mtb_2 (List.mem_of_getElem? (i := 133) rfl) rfl
set_option maxRecDepth 20000 in
theorem kw_409 : (Cond.methodLink RX2 202 yX2_firstDated) ∈ mW := mtb_2 (List.mem_of_getElem? (i := 130) rfl) rfl
set_option maxRecDepth 20000 in
theorem kw_411 : (Cond.instanceMethod yX2_firstDated) ∈ mW := mtb_2 (List.mem_of_getElem? (i := 132) rfl) rfl
set_option maxRecDepth 20000 in
theorem kw_13 : (Cond.selects RX2 yX2_firstDated yX2_firstDated) ∈ mW := mW_at 13 rfl rfl
set_option maxRecDepth 20000 in
theorem kw_416 : (Cond.code yX2_firstMoment cX2_firstMoment 3 (some .int)) ∈ mW := mtb_2 (List.mem_of_getElem? (i := 137) rfl) rfl
set_option maxRecDepth 20000 in
theorem kw_413 : (Cond.methodLink RX2 205 yX2_firstMoment) ∈ mW := mtb_2 (List.mem_of_getElem? (i := 134) rfl) rfl
set_option maxRecDepth 20000 in
theorem kw_415 : (Cond.instanceMethod yX2_firstMoment) ∈ mW := mtb_2 (List.mem_of_getElem? (i := 136) rfl) rfl
set_option maxRecDepth 20000 in
theorem kw_14 : (Cond.selects RX2 yX2_firstMoment yX2_firstMoment) ∈ mW := mW_at 14 rfl rfl
set_option maxRecDepth 20000 in
theorem kw_417 : (Cond.methodLink RX2 244 yX2_isSound) ∈ mW := mtb_2 (List.mem_of_getElem? (i := 138) rfl) rfl
set_option maxRecDepth 20000 in
theorem kw_418 : (Cond.classLink RL 14 RX3) ∈ mW := mtb_2 (List.mem_of_getElem? (i := 139) rfl) rfl
set_option maxRecDepth 20000 in
theorem kw_419 : (Cond.instantiable RX3 2) ∈ mW := mtb_2 (List.mem_of_getElem? (i := 140) rfl) rfl
set_option maxRecDepth 20000 in
theorem kw_424 : (Cond.fieldLinkNest RL 13 "MomentdeskLaw$Out" "n" "J" RL) ∈ mW := mtb_2 (List.mem_of_getElem? (i := 145) rfl) rfl
set_option maxRecDepth 20000 in
theorem kw_425 : (Cond.fieldLinkNest RL 56 "MomentdeskLaw$Out" "s" "Ljava/lang/String;" RL) ∈ mW := mtb_2 (List.mem_of_getElem? (i := 146) rfl) rfl
set_option maxRecDepth 20000 in
theorem kw_433 : (Cond.codeWith yL_offset cL_offset 5 (some .int) [(0, 11, 14, 19), (0, 11, 18, 21)]) ∈ mW := mtb_2 (List.mem_of_getElem? (i := 154) rfl) rfl
set_option maxRecDepth 20000 in
theorem kw_431 : (Cond.methodLink RL 134 yL_offset) ∈ mW := mtb_2 (List.mem_of_getElem? (i := 152) rfl) rfl
set_option maxRecDepth 20000 in
theorem kw_432 : (Cond.static yL_offset) ∈ mW := mtb_2 (List.mem_of_getElem? (i := 153) rfl) rfl
set_option maxRecDepth 20000 in
theorem kw_434 : (Cond.classLink RL 19 "java/lang/IndexOutOfBoundsException") ∈ mW := mtb_2 (List.mem_of_getElem? (i := 155) rfl) rfl
set_option maxRecDepth 20000 in
theorem kw_435 : (Cond.classLink RL 21 "java/lang/IllegalArgumentException") ∈ mW := mtb_2 (List.mem_of_getElem? (i := 156) rfl) rfl
set_option maxRecDepth 20000 in
theorem kw_439 : (Cond.code yX2_offset cX2_offset 4 (some .int)) ∈ mW := mtb_2 (List.mem_of_getElem? (i := 160) rfl) rfl
set_option maxRecDepth 20000 in
theorem kw_436 : (Cond.methodLink RL 7 yX2_offset) ∈ mW := mtb_2 (List.mem_of_getElem? (i := 157) rfl) rfl
set_option maxRecDepth 20000 in
theorem kw_437 : (Cond.instanceMethod yX2_offset) ∈ mW := mtb_2 (List.mem_of_getElem? (i := 158) rfl) rfl
set_option maxRecDepth 20000 in
theorem kw_438 : (Cond.selects RX2 yX2_offset yX2_offset) ∈ mW := mtb_2 (List.mem_of_getElem? (i := 159) rfl) rfl
set_option maxRecDepth 20000 in
theorem kw_440 : (Cond.constant RX2 38 (-64800)) ∈ mW := mtb_2 (List.mem_of_getElem? (i := 161) rfl) rfl
set_option maxRecDepth 20000 in
theorem kw_441 : (Cond.constant RX2 39 (64800)) ∈ mW := mtb_2 (List.mem_of_getElem? (i := 162) rfl) rfl
set_option maxRecDepth 20000 in
theorem kw_444 : (Cond.codeWith yL_offsetOf cL_offsetOf 7 (some .int) [(0, 15, 18, 19)]) ∈ mW := mtb_2 (List.mem_of_getElem? (i := 165) rfl) rfl
set_option maxRecDepth 20000 in
theorem kw_442 : (Cond.methodLink RL 140 yL_offsetOf) ∈ mW := mtb_2 (List.mem_of_getElem? (i := 163) rfl) rfl
set_option maxRecDepth 20000 in
theorem kw_443 : (Cond.static yL_offsetOf) ∈ mW := mtb_2 (List.mem_of_getElem? (i := 164) rfl) rfl
set_option maxRecDepth 20000 in
theorem kw_448 : (Cond.code yX2_offsetOf cX2_offsetOf 8 (some .int)) ∈ mW := mtb_2 (List.mem_of_getElem? (i := 169) rfl) rfl
set_option maxRecDepth 20000 in
theorem kw_445 : (Cond.methodLink RL 23 yX2_offsetOf) ∈ mW := mtb_2 (List.mem_of_getElem? (i := 166) rfl) rfl
set_option maxRecDepth 20000 in
theorem kw_446 : (Cond.instanceMethod yX2_offsetOf) ∈ mW := mtb_2 (List.mem_of_getElem? (i := 167) rfl) rfl
set_option maxRecDepth 20000 in
theorem kw_447 : (Cond.selects RX2 yX2_offsetOf yX2_offsetOf) ∈ mW := mtb_2 (List.mem_of_getElem? (i := 168) rfl) rfl
set_option maxRecDepth 20000 in
theorem kw_449 : (Cond.constantLong RX2 44 (-18)) ∈ mW := mtb_2 (List.mem_of_getElem? (i := 170) rfl) rfl
set_option maxRecDepth 20000 in
theorem kw_450 : (Cond.constantLong RX2 46 (18)) ∈ mW := mtb_2 (List.mem_of_getElem? (i := 171) rfl) rfl
set_option maxRecDepth 20000 in
theorem kw_451 : (Cond.constantLong RX2 52 (-59)) ∈ mW := mtb_2 (List.mem_of_getElem? (i := 172) rfl) rfl
set_option maxRecDepth 20000 in
theorem kw_452 : (Cond.constantLong RX2 54 (59)) ∈ mW := mtb_2 (List.mem_of_getElem? (i := 173) rfl) rfl
set_option maxRecDepth 20000 in
theorem kw_456 : (Cond.code yX2_refused cX2_refused 1 (some .int)) ∈ mW := mtb_2 (List.mem_of_getElem? (i := 177) rfl) rfl
set_option maxRecDepth 20000 in
theorem kw_453 : (Cond.methodLink RX2 56 yX2_refused) ∈ mW := mtb_2 (List.mem_of_getElem? (i := 174) rfl) rfl
set_option maxRecDepth 20000 in
theorem kw_455 : (Cond.instanceMethod yX2_refused) ∈ mW := mtb_2 (List.mem_of_getElem? (i := 176) rfl) rfl
set_option maxRecDepth 20000 in
theorem kw_15 : (Cond.selects RX2 yX2_refused yX2_refused) ∈ mW := mW_at 15 rfl rfl
set_option maxRecDepth 20000 in
theorem kw_457 : (Cond.constantLong RX2 60 (-64800)) ∈ mW := mtb_2 (List.mem_of_getElem? (i := 178) rfl) rfl
set_option maxRecDepth 20000 in
theorem kw_458 : (Cond.constantLong RX2 62 (64800)) ∈ mW := mtb_2 (List.mem_of_getElem? (i := 179) rfl) rfl
set_option maxRecDepth 20000 in
theorem kw_461 : (Cond.codeWith yL_seconds cL_seconds 4 (some .int) [(0, 10, 13, 19)]) ∈ mW := mtb_2 (List.mem_of_getElem? (i := 182) rfl) rfl
set_option maxRecDepth 20000 in
theorem kw_459 : (Cond.methodLink RL 144 yL_seconds) ∈ mW := mtb_2 (List.mem_of_getElem? (i := 180) rfl) rfl
set_option maxRecDepth 20000 in
theorem kw_460 : (Cond.static yL_seconds) ∈ mW := mtb_2 (List.mem_of_getElem? (i := 181) rfl) rfl
set_option maxRecDepth 20000 in
theorem kw_462 : (Cond.methodLink RL 27 yX2_seconds) ∈ mW := mtb_2 (List.mem_of_getElem? (i := 183) rfl) rfl
set_option maxRecDepth 20000 in
theorem kw_465 : (Cond.codeWith yL_orderOffset cL_orderOffset 5 (some .int) [(0, 11, 14, 19)]) ∈ mW := mtb_2 (List.mem_of_getElem? (i := 186) rfl) rfl
set_option maxRecDepth 20000 in
theorem kw_463 : (Cond.methodLink RL 148 yL_orderOffset) ∈ mW := mtb_2 (List.mem_of_getElem? (i := 184) rfl) rfl
set_option maxRecDepth 20000 in
theorem kw_464 : (Cond.static yL_orderOffset) ∈ mW := mtb_2 (List.mem_of_getElem? (i := 185) rfl) rfl
set_option maxRecDepth 20000 in
theorem kw_469 : (Cond.code yX2_orderOffset cX2_orderOffset 3 (some .int)) ∈ mW := mtb_2 (List.mem_of_getElem? (i := 190) rfl) rfl
set_option maxRecDepth 20000 in
theorem kw_466 : (Cond.methodLink RL 31 yX2_orderOffset) ∈ mW := mtb_2 (List.mem_of_getElem? (i := 187) rfl) rfl
set_option maxRecDepth 20000 in
theorem kw_467 : (Cond.instanceMethod yX2_orderOffset) ∈ mW := mtb_2 (List.mem_of_getElem? (i := 188) rfl) rfl
set_option maxRecDepth 20000 in
theorem kw_468 : (Cond.selects RX2 yX2_orderOffset yX2_orderOffset) ∈ mW := mtb_2 (List.mem_of_getElem? (i := 189) rfl) rfl
set_option maxRecDepth 20000 in
theorem kw_470 : (Cond.methodLink RX2 68 yX2_compared) ∈ mW := mtb_2 (List.mem_of_getElem? (i := 191) rfl) rfl
set_option maxRecDepth 20000 in
theorem kw_473 : (Cond.codeWith yL_moment cL_moment 6 (some .int) [(0, 13, 16, 19)]) ∈ mW := mtb_2 (List.mem_of_getElem? (i := 194) rfl) rfl
set_option maxRecDepth 20000 in
theorem kw_471 : (Cond.methodLink RL 151 yL_moment) ∈ mW := mtb_2 (List.mem_of_getElem? (i := 192) rfl) rfl
set_option maxRecDepth 20000 in
theorem kw_472 : (Cond.static yL_moment) ∈ mW := mtb_2 (List.mem_of_getElem? (i := 193) rfl) rfl
set_option maxRecDepth 20000 in
theorem kw_477 : (Cond.code yX2_moment cX2_moment 4 (some .int)) ∈ mW := mtb_2 (List.mem_of_getElem? (i := 198) rfl) rfl
set_option maxRecDepth 20000 in
theorem kw_474 : (Cond.methodLink RL 34 yX2_moment) ∈ mW := mtb_2 (List.mem_of_getElem? (i := 195) rfl) rfl
set_option maxRecDepth 20000 in
theorem kw_475 : (Cond.instanceMethod yX2_moment) ∈ mW := mtb_2 (List.mem_of_getElem? (i := 196) rfl) rfl
set_option maxRecDepth 20000 in
theorem kw_476 : (Cond.selects RX2 yX2_moment yX2_moment) ∈ mW := mtb_2 (List.mem_of_getElem? (i := 197) rfl) rfl
set_option maxRecDepth 20000 in
theorem kw_481 : (Cond.code yX2_putNumber cX2_putNumber 4 (some .int)) ∈ mW := mtb_2 (List.mem_of_getElem? (i := 202) rfl) rfl
set_option maxRecDepth 20000 in
theorem kw_478 : (Cond.methodLink RX2 74 yX2_putNumber) ∈ mW := mtb_2 (List.mem_of_getElem? (i := 199) rfl) rfl
set_option maxRecDepth 20000 in
theorem kw_480 : (Cond.instanceMethod yX2_putNumber) ∈ mW := mtb_2 (List.mem_of_getElem? (i := 201) rfl) rfl
set_option maxRecDepth 20000 in
theorem kw_16 : (Cond.selects RX2 yX2_putNumber yX2_putNumber) ∈ mW := mW_at 16 rfl rfl
set_option maxRecDepth 20000 in
theorem kw_482 : (Cond.constantLong RX2 262 (-1800000000000000000)) ∈ mW := mtb_2 (List.mem_of_getElem? (i := 203) rfl) rfl
set_option maxRecDepth 20000 in
theorem kw_483 : (Cond.constantLong RX2 264 (1800000000999999999)) ∈ mW := mtb_2 (List.mem_of_getElem? (i := 204) rfl) rfl
set_option maxRecDepth 20000 in
theorem kw_486 : (Cond.codeWith yL_milli cL_milli 6 (some .int) [(0, 13, 16, 19)]) ∈ mW := mtb_2 (List.mem_of_getElem? (i := 207) rfl) rfl
set_option maxRecDepth 20000 in
theorem kw_484 : (Cond.methodLink RL 155 yL_milli) ∈ mW := mtb_2 (List.mem_of_getElem? (i := 205) rfl) rfl
set_option maxRecDepth 20000 in
theorem kw_485 : (Cond.static yL_milli) ∈ mW := mtb_2 (List.mem_of_getElem? (i := 206) rfl) rfl
set_option maxRecDepth 20000 in
theorem kw_490 : (Cond.code yX2_milli cX2_milli 4 (some .int)) ∈ mW := mtb_2 (List.mem_of_getElem? (i := 211) rfl) rfl
set_option maxRecDepth 20000 in
theorem kw_487 : (Cond.methodLink RL 38 yX2_milli) ∈ mW := mtb_2 (List.mem_of_getElem? (i := 208) rfl) rfl
set_option maxRecDepth 20000 in
theorem kw_488 : (Cond.instanceMethod yX2_milli) ∈ mW := mtb_2 (List.mem_of_getElem? (i := 209) rfl) rfl
set_option maxRecDepth 20000 in
theorem kw_489 : (Cond.selects RX2 yX2_milli yX2_milli) ∈ mW := mtb_2 (List.mem_of_getElem? (i := 210) rfl) rfl
set_option maxRecDepth 20000 in
theorem kw_491 : (Cond.constantLong RX2 78 (1000000)) ∈ mW := mtb_2 (List.mem_of_getElem? (i := 212) rfl) rfl
set_option maxRecDepth 20000 in
theorem kw_494 : (Cond.codeWith yL_move cL_move 7 (some .int) [(0, 15, 18, 19), (0, 15, 22, 21)]) ∈ mW := mtb_2 (List.mem_of_getElem? (i := 215) rfl) rfl
set_option maxRecDepth 20000 in
theorem kw_492 : (Cond.methodLink RL 158 yL_move) ∈ mW := mtb_2 (List.mem_of_getElem? (i := 213) rfl) rfl
set_option maxRecDepth 20000 in
theorem kw_493 : (Cond.static yL_move) ∈ mW := mtb_2 (List.mem_of_getElem? (i := 214) rfl) rfl
set_option maxRecDepth 20000 in
theorem kw_498 : (Cond.code yX2_move cX2_move 7 (some .int)) ∈ mW := mtb_2 (List.mem_of_getElem? (i := 219) rfl) rfl
set_option maxRecDepth 20000 in
theorem kw_495 : (Cond.methodLink RL 41 yX2_move) ∈ mW := mtb_2 (List.mem_of_getElem? (i := 216) rfl) rfl
set_option maxRecDepth 20000 in
theorem kw_496 : (Cond.instanceMethod yX2_move) ∈ mW := mtb_2 (List.mem_of_getElem? (i := 217) rfl) rfl
set_option maxRecDepth 20000 in
theorem kw_497 : (Cond.selects RX2 yX2_move yX2_move) ∈ mW := mtb_2 (List.mem_of_getElem? (i := 218) rfl) rfl
set_option maxRecDepth 20000 in
theorem kw_501 : (Cond.code yX2_signed cX2_signed 2 (some .long)) ∈ mW := mtb_2 (List.mem_of_getElem? (i := 222) rfl) rfl
set_option maxRecDepth 20000 in
theorem kw_499 : (Cond.methodLink RX2 80 yX2_signed) ∈ mW := mtb_2 (List.mem_of_getElem? (i := 220) rfl) rfl
set_option maxRecDepth 20000 in
theorem kw_500 : (Cond.static yX2_signed) ∈ mW := mtb_2 (List.mem_of_getElem? (i := 221) rfl) rfl
set_option maxRecDepth 20000 in
theorem kw_504 : (Cond.codeWith yL_momentOf cL_momentOf 5 (some .int) [(0, 11, 14, 19)]) ∈ mW := mtb_2 (List.mem_of_getElem? (i := 225) rfl) rfl
set_option maxRecDepth 20000 in
theorem kw_502 : (Cond.methodLink RL 166 yL_momentOf) ∈ mW := mtb_2 (List.mem_of_getElem? (i := 223) rfl) rfl
set_option maxRecDepth 20000 in
theorem kw_503 : (Cond.static yL_momentOf) ∈ mW := mtb_2 (List.mem_of_getElem? (i := 224) rfl) rfl
set_option maxRecDepth 20000 in
theorem kw_508 : (Cond.code yX2_momentOf cX2_momentOf 3 (some .int)) ∈ mW := mtb_2 (List.mem_of_getElem? (i := 229) rfl) rfl
set_option maxRecDepth 20000 in
theorem kw_505 : (Cond.methodLink RL 45 yX2_momentOf) ∈ mW := mtb_2 (List.mem_of_getElem? (i := 226) rfl) rfl
set_option maxRecDepth 20000 in
theorem kw_506 : (Cond.instanceMethod yX2_momentOf) ∈ mW := mtb_2 (List.mem_of_getElem? (i := 227) rfl) rfl
set_option maxRecDepth 20000 in
theorem kw_507 : (Cond.selects RX2 yX2_momentOf yX2_momentOf) ∈ mW := mtb_2 (List.mem_of_getElem? (i := 228) rfl) rfl
set_option maxRecDepth 20000 in
theorem kw_511 : (Cond.codeWith yL_ofMoment cL_ofMoment 5 (some .int) [(0, 11, 14, 19)]) ∈ mW := mtb_2 (List.mem_of_getElem? (i := 232) rfl) rfl
set_option maxRecDepth 20000 in
theorem kw_509 : (Cond.methodLink RL 169 yL_ofMoment) ∈ mW := mtb_2 (List.mem_of_getElem? (i := 230) rfl) rfl
set_option maxRecDepth 20000 in
theorem kw_510 : (Cond.static yL_ofMoment) ∈ mW := mtb_2 (List.mem_of_getElem? (i := 231) rfl) rfl
set_option maxRecDepth 20000 in
theorem kw_512 : (Cond.methodLink RL 48 yX2_ofMoment) ∈ mW := mtb_2 (List.mem_of_getElem? (i := 233) rfl) rfl
set_option maxRecDepth 20000 in
theorem kw_515 : (Cond.codeWith yL_millis cL_millis 4 (some .int) [(0, 9, 12, 19)]) ∈ mW := mtb_2 (List.mem_of_getElem? (i := 236) rfl) rfl
set_option maxRecDepth 20000 in
theorem kw_513 : (Cond.methodLink RL 173 yL_millis) ∈ mW := mtb_2 (List.mem_of_getElem? (i := 234) rfl) rfl
set_option maxRecDepth 20000 in
theorem kw_514 : (Cond.static yL_millis) ∈ mW := mtb_2 (List.mem_of_getElem? (i := 235) rfl) rfl
set_option maxRecDepth 20000 in
theorem kw_519 : (Cond.code yX2_millis cX2_millis 2 (some (.object "java/lang/String"))) ∈ mW := mtb_3 (List.mem_of_getElem? (i := 0) rfl) rfl
set_option maxRecDepth 20000 in
theorem kw_516 : (Cond.methodLink RL 52 yX2_millis) ∈ mW := mtb_2 (List.mem_of_getElem? (i := 237) rfl) rfl
set_option maxRecDepth 20000 in
theorem kw_517 : (Cond.instanceMethod yX2_millis) ∈ mW := mtb_2 (List.mem_of_getElem? (i := 238) rfl) rfl
set_option maxRecDepth 20000 in
theorem kw_518 : (Cond.selects RX2 yX2_millis yX2_millis) ∈ mW := mtb_2 (List.mem_of_getElem? (i := 239) rfl) rfl
set_option maxRecDepth 20000 in
theorem kw_522 : (Cond.code yX2_textOf cX2_textOf 6 (some (.object "java/lang/String"))) ∈ mW := mtb_3 (List.mem_of_getElem? (i := 3) rfl) rfl
set_option maxRecDepth 20000 in
theorem kw_520 : (Cond.methodLink RX2 106 yX2_textOf) ∈ mW := mtb_3 (List.mem_of_getElem? (i := 1) rfl) rfl
set_option maxRecDepth 20000 in
theorem kw_521 : (Cond.static yX2_textOf) ∈ mW := mtb_3 (List.mem_of_getElem? (i := 2) rfl) rfl
set_option maxRecDepth 20000 in
theorem kw_523 : (Cond.classLink RX2 280 "java/lang/StringBuilder") ∈ mW := mtb_3 (List.mem_of_getElem? (i := 4) rfl) rfl
set_option maxRecDepth 20000 in
theorem kw_557 : (Cond.constantLong RX2 286 (48)) ∈ mW := mtb_3 (List.mem_of_getElem? (i := 38) rfl) rfl
set_option maxRecDepth 20000 in
theorem kw_558 : (Cond.constantLong RX2 288 (10)) ∈ mW := mtb_3 (List.mem_of_getElem? (i := 39) rfl) rfl
set_option maxRecDepth 20000 in
theorem kw_825 : (Cond.codeWith yL_orderMoment cL_orderMoment 5 (some .int) [(0, 11, 14, 19)]) ∈ mW := mtb_4 (List.mem_of_getElem? (i := 66) rfl) rfl
set_option maxRecDepth 20000 in
theorem kw_823 : (Cond.methodLink RL 176 yL_orderMoment) ∈ mW := mtb_4 (List.mem_of_getElem? (i := 64) rfl) rfl
set_option maxRecDepth 20000 in
theorem kw_824 : (Cond.static yL_orderMoment) ∈ mW := mtb_4 (List.mem_of_getElem? (i := 65) rfl) rfl
set_option maxRecDepth 20000 in
theorem kw_829 : (Cond.code yX2_orderMoment cX2_orderMoment 3 (some .int)) ∈ mW := mtb_4 (List.mem_of_getElem? (i := 70) rfl) rfl
set_option maxRecDepth 20000 in
theorem kw_826 : (Cond.methodLink RL 60 yX2_orderMoment) ∈ mW := mtb_4 (List.mem_of_getElem? (i := 67) rfl) rfl
set_option maxRecDepth 20000 in
theorem kw_827 : (Cond.instanceMethod yX2_orderMoment) ∈ mW := mtb_4 (List.mem_of_getElem? (i := 68) rfl) rfl
set_option maxRecDepth 20000 in
theorem kw_828 : (Cond.selects RX2 yX2_orderMoment yX2_orderMoment) ∈ mW := mtb_4 (List.mem_of_getElem? (i := 69) rfl) rfl
set_option maxRecDepth 20000 in
theorem kw_832 : (Cond.codeWith yL_isMoment cL_isMoment 6 (some .int) [(0, 20, 23, 19), (0, 20, 27, 21)]) ∈ mW := mtb_4 (List.mem_of_getElem? (i := 73) rfl) rfl
set_option maxRecDepth 20000 in
theorem kw_830 : (Cond.methodLink RL 179 yL_isMoment) ∈ mW := mtb_4 (List.mem_of_getElem? (i := 71) rfl) rfl
set_option maxRecDepth 20000 in
theorem kw_831 : (Cond.static yL_isMoment) ∈ mW := mtb_4 (List.mem_of_getElem? (i := 72) rfl) rfl
set_option maxRecDepth 20000 in
theorem kw_836 : (Cond.code yX2_isMoment cX2_isMoment 5 (some .boolean)) ∈ mW := mtb_4 (List.mem_of_getElem? (i := 77) rfl) rfl
set_option maxRecDepth 20000 in
theorem kw_833 : (Cond.methodLink RL 63 yX2_isMoment) ∈ mW := mtb_4 (List.mem_of_getElem? (i := 74) rfl) rfl
set_option maxRecDepth 20000 in
theorem kw_834 : (Cond.instanceMethod yX2_isMoment) ∈ mW := mtb_4 (List.mem_of_getElem? (i := 75) rfl) rfl
set_option maxRecDepth 20000 in
theorem kw_835 : (Cond.selects RX2 yX2_isMoment yX2_isMoment) ∈ mW := mtb_4 (List.mem_of_getElem? (i := 76) rfl) rfl
set_option maxRecDepth 20000 in
theorem kw_837 : (Cond.methodLink RX2 110 yX2_orderMoment) ∈ mW := mtb_4 (List.mem_of_getElem? (i := 78) rfl) rfl
set_option maxRecDepth 20000 in
theorem kw_840 : (Cond.codeWith yL_copyMoment cL_copyMoment 5 (some .int) [(0, 11, 14, 19)]) ∈ mW := mtb_4 (List.mem_of_getElem? (i := 81) rfl) rfl
set_option maxRecDepth 20000 in
theorem kw_838 : (Cond.methodLink RL 182 yL_copyMoment) ∈ mW := mtb_4 (List.mem_of_getElem? (i := 79) rfl) rfl
set_option maxRecDepth 20000 in
theorem kw_839 : (Cond.static yL_copyMoment) ∈ mW := mtb_4 (List.mem_of_getElem? (i := 80) rfl) rfl
set_option maxRecDepth 20000 in
theorem kw_844 : (Cond.code yX2_copyMoment cX2_copyMoment 3 (some .int)) ∈ mW := mtb_4 (List.mem_of_getElem? (i := 85) rfl) rfl
set_option maxRecDepth 20000 in
theorem kw_841 : (Cond.methodLink RL 67 yX2_copyMoment) ∈ mW := mtb_4 (List.mem_of_getElem? (i := 82) rfl) rfl
set_option maxRecDepth 20000 in
theorem kw_842 : (Cond.instanceMethod yX2_copyMoment) ∈ mW := mtb_4 (List.mem_of_getElem? (i := 83) rfl) rfl
set_option maxRecDepth 20000 in
theorem kw_843 : (Cond.selects RX2 yX2_copyMoment yX2_copyMoment) ∈ mW := mtb_4 (List.mem_of_getElem? (i := 84) rfl) rfl
set_option maxRecDepth 20000 in
theorem kw_847 : (Cond.codeWith yL_date cL_date 9 (some .int) [(0, 19, 22, 19), (0, 19, 26, 21)]) ∈ mW := mtb_4 (List.mem_of_getElem? (i := 88) rfl) rfl
set_option maxRecDepth 20000 in
theorem kw_845 : (Cond.methodLink RL 185 yL_date) ∈ mW := mtb_4 (List.mem_of_getElem? (i := 86) rfl) rfl
set_option maxRecDepth 20000 in
theorem kw_846 : (Cond.static yL_date) ∈ mW := mtb_4 (List.mem_of_getElem? (i := 87) rfl) rfl
set_option maxRecDepth 20000 in
theorem kw_851 : (Cond.code yX2_date cX2_date 11 (some .int)) ∈ mW := mtb_4 (List.mem_of_getElem? (i := 92) rfl) rfl
set_option maxRecDepth 20000 in
theorem kw_848 : (Cond.methodLink RL 70 yX2_date) ∈ mW := mtb_4 (List.mem_of_getElem? (i := 89) rfl) rfl
set_option maxRecDepth 20000 in
theorem kw_849 : (Cond.instanceMethod yX2_date) ∈ mW := mtb_4 (List.mem_of_getElem? (i := 90) rfl) rfl
set_option maxRecDepth 20000 in
theorem kw_850 : (Cond.selects RX2 yX2_date yX2_date) ∈ mW := mtb_4 (List.mem_of_getElem? (i := 91) rfl) rfl
set_option maxRecDepth 20000 in
theorem kw_852 : (Cond.constant RX2 114 (86399)) ∈ mW := mtb_4 (List.mem_of_getElem? (i := 93) rfl) rfl
set_option maxRecDepth 20000 in
theorem kw_853 : (Cond.constant RX2 115 (999999999)) ∈ mW := mtb_4 (List.mem_of_getElem? (i := 94) rfl) rfl
set_option maxRecDepth 20000 in
theorem kw_854 : (Cond.constantLong RX2 116 (1910)) ∈ mW := mtb_4 (List.mem_of_getElem? (i := 95) rfl) rfl
set_option maxRecDepth 20000 in
theorem kw_855 : (Cond.constantLong RX2 118 (2030)) ∈ mW := mtb_4 (List.mem_of_getElem? (i := 96) rfl) rfl
set_option maxRecDepth 20000 in
theorem kw_858 : (Cond.code yX0_isDay cX0_isDay 3 (some .boolean)) ∈ mW := mtb_4 (List.mem_of_getElem? (i := 99) rfl) rfl
set_option maxRecDepth 20000 in
theorem kw_856 : (Cond.methodLink RX2 120 yX0_isDay) ∈ mW := mtb_4 (List.mem_of_getElem? (i := 97) rfl) rfl
set_option maxRecDepth 20000 in
theorem kw_857 : (Cond.static yX0_isDay) ∈ mW := mtb_4 (List.mem_of_getElem? (i := 98) rfl) rfl
set_option maxRecDepth 20000 in
theorem kw_859 : (Cond.constantLong RX0 15 (12)) ∈ mW := mtb_4 (List.mem_of_getElem? (i := 100) rfl) rfl
set_option maxRecDepth 20000 in
theorem kw_860 : (Cond.methodLinkNest RX0 17 yX2_isWithin RX2) ∈ mW := mtb_4 (List.mem_of_getElem? (i := 101) rfl) rfl
set_option maxRecDepth 20000 in
theorem kw_863 : (Cond.code yX0_lengthOfMonth cX0_lengthOfMonth 2 (some .int)) ∈ mW := mtb_4 (List.mem_of_getElem? (i := 104) rfl) rfl
set_option maxRecDepth 20000 in
theorem kw_861 : (Cond.methodLink RX0 21 yX0_lengthOfMonth) ∈ mW := mtb_4 (List.mem_of_getElem? (i := 102) rfl) rfl
set_option maxRecDepth 20000 in
theorem kw_862 : (Cond.static yX0_lengthOfMonth) ∈ mW := mtb_4 (List.mem_of_getElem? (i := 103) rfl) rfl
set_option maxRecDepth 20000 in
theorem kw_866 : (Cond.code yX0_dayOf cX0_dayOf 3 (some .int)) ∈ mW := mtb_4 (List.mem_of_getElem? (i := 107) rfl) rfl
set_option maxRecDepth 20000 in
theorem kw_864 : (Cond.methodLink RX2 126 yX0_dayOf) ∈ mW := mtb_4 (List.mem_of_getElem? (i := 105) rfl) rfl
set_option maxRecDepth 20000 in
theorem kw_865 : (Cond.static yX0_dayOf) ∈ mW := mtb_4 (List.mem_of_getElem? (i := 106) rfl) rfl
set_option maxRecDepth 20000 in
theorem kw_867 : (Cond.constantLong RX2 130 (86400)) ∈ mW := mtb_4 (List.mem_of_getElem? (i := 108) rfl) rfl
set_option maxRecDepth 20000 in
theorem kw_871 : (Cond.code yX2_putLocal cX2_putLocal 6 (some .int)) ∈ mW := mtb_4 (List.mem_of_getElem? (i := 112) rfl) rfl
set_option maxRecDepth 20000 in
theorem kw_868 : (Cond.methodLink RX2 132 yX2_putLocal) ∈ mW := mtb_4 (List.mem_of_getElem? (i := 109) rfl) rfl
set_option maxRecDepth 20000 in
theorem kw_870 : (Cond.instanceMethod yX2_putLocal) ∈ mW := mtb_4 (List.mem_of_getElem? (i := 111) rfl) rfl
set_option maxRecDepth 20000 in
theorem kw_17 : (Cond.selects RX2 yX2_putLocal yX2_putLocal) ∈ mW := mW_at 17 rfl rfl
set_option maxRecDepth 20000 in
theorem kw_874 : (Cond.codeWith yL_dateOf cL_dateOf 6 (some .int) [(0, 13, 16, 19)]) ∈ mW := mtb_4 (List.mem_of_getElem? (i := 115) rfl) rfl
set_option maxRecDepth 20000 in
theorem kw_872 : (Cond.methodLink RL 189 yL_dateOf) ∈ mW := mtb_4 (List.mem_of_getElem? (i := 113) rfl) rfl
set_option maxRecDepth 20000 in
theorem kw_873 : (Cond.static yL_dateOf) ∈ mW := mtb_4 (List.mem_of_getElem? (i := 114) rfl) rfl
set_option maxRecDepth 20000 in
theorem kw_878 : (Cond.code yX2_dateOf cX2_dateOf 8 (some .int)) ∈ mW := mtb_4 (List.mem_of_getElem? (i := 119) rfl) rfl
set_option maxRecDepth 20000 in
theorem kw_875 : (Cond.methodLink RL 74 yX2_dateOf) ∈ mW := mtb_4 (List.mem_of_getElem? (i := 116) rfl) rfl
set_option maxRecDepth 20000 in
theorem kw_876 : (Cond.instanceMethod yX2_dateOf) ∈ mW := mtb_4 (List.mem_of_getElem? (i := 117) rfl) rfl
set_option maxRecDepth 20000 in
theorem kw_877 : (Cond.selects RX2 yX2_dateOf yX2_dateOf) ∈ mW := mtb_4 (List.mem_of_getElem? (i := 118) rfl) rfl
set_option maxRecDepth 20000 in
theorem kw_881 : (Cond.codeWith yL_moveDate cL_moveDate 7 (some .int) [(0, 15, 18, 19), (0, 15, 22, 21)]) ∈ mW := mtb_4 (List.mem_of_getElem? (i := 122) rfl) rfl
set_option maxRecDepth 20000 in
theorem kw_879 : (Cond.methodLink RL 192 yL_moveDate) ∈ mW := mtb_4 (List.mem_of_getElem? (i := 120) rfl) rfl
set_option maxRecDepth 20000 in
theorem kw_880 : (Cond.static yL_moveDate) ∈ mW := mtb_4 (List.mem_of_getElem? (i := 121) rfl) rfl
set_option maxRecDepth 20000 in
theorem kw_885 : (Cond.code yX2_moveDate cX2_moveDate 8 (some .int)) ∈ mW := mtb_4 (List.mem_of_getElem? (i := 126) rfl) rfl
set_option maxRecDepth 20000 in
theorem kw_882 : (Cond.methodLink RL 77 yX2_moveDate) ∈ mW := mtb_4 (List.mem_of_getElem? (i := 123) rfl) rfl
set_option maxRecDepth 20000 in
theorem kw_883 : (Cond.instanceMethod yX2_moveDate) ∈ mW := mtb_4 (List.mem_of_getElem? (i := 124) rfl) rfl
set_option maxRecDepth 20000 in
theorem kw_884 : (Cond.selects RX2 yX2_moveDate yX2_moveDate) ∈ mW := mtb_4 (List.mem_of_getElem? (i := 125) rfl) rfl
set_option maxRecDepth 20000 in
theorem kw_889 : (Cond.code yX1_months cX1_months 1 (some .long)) ∈ mW := mtb_4 (List.mem_of_getElem? (i := 130) rfl) rfl
set_option maxRecDepth 20000 in
theorem kw_886 : (Cond.methodLink RX2 136 yX1_months) ∈ mW := mtb_4 (List.mem_of_getElem? (i := 127) rfl) rfl
set_option maxRecDepth 20000 in
theorem kw_887 : (Cond.instanceMethod yX1_months) ∈ mW := mtb_4 (List.mem_of_getElem? (i := 128) rfl) rfl
set_option maxRecDepth 20000 in
theorem kw_888 : (Cond.selects RX1 yX1_months yX1_months) ∈ mW := mtb_4 (List.mem_of_getElem? (i := 129) rfl) rfl
set_option maxRecDepth 20000 in
theorem kw_890 : (Cond.methodLink RX1 34 yX0_yearOf) ∈ mW := mtb_4 (List.mem_of_getElem? (i := 131) rfl) rfl
set_option maxRecDepth 20000 in
theorem kw_891 : (Cond.constantLong RX1 40 (12)) ∈ mW := mtb_4 (List.mem_of_getElem? (i := 132) rfl) rfl
set_option maxRecDepth 20000 in
theorem kw_892 : (Cond.methodLink RX1 42 yX0_monthOf) ∈ mW := mtb_4 (List.mem_of_getElem? (i := 133) rfl) rfl
set_option maxRecDepth 20000 in
theorem kw_893 : (Cond.constantLong RX2 140 (12)) ∈ mW := mtb_4 (List.mem_of_getElem? (i := 134) rfl) rfl
set_option maxRecDepth 20000 in
theorem kw_897 : (Cond.code yX2_putMonths cX2_putMonths 9 (some .int)) ∈ mW := mtb_4 (List.mem_of_getElem? (i := 138) rfl) rfl
set_option maxRecDepth 20000 in
theorem kw_894 : (Cond.methodLink RX2 142 yX2_putMonths) ∈ mW := mtb_4 (List.mem_of_getElem? (i := 135) rfl) rfl
set_option maxRecDepth 20000 in
theorem kw_896 : (Cond.instanceMethod yX2_putMonths) ∈ mW := mtb_4 (List.mem_of_getElem? (i := 137) rfl) rfl
set_option maxRecDepth 20000 in
theorem kw_18 : (Cond.selects RX2 yX2_putMonths yX2_putMonths) ∈ mW := mW_at 18 rfl rfl
set_option maxRecDepth 20000 in
theorem kw_898 : (Cond.methodLink RX2 308 yX0_lengthOfMonth) ∈ mW := mtb_4 (List.mem_of_getElem? (i := 139) rfl) rfl
set_option maxRecDepth 20000 in
theorem kw_597 : (Cond.code yJ9_min_7cf53 cJ9_min_7cf53 2 (some .int)) ∈ mW := mtb_3 (List.mem_of_getElem? (i := 78) rfl) rfl
set_option maxRecDepth 20000 in
theorem kw_899 : (Cond.methodLink RX2 314 yJ9_min_7cf53) ∈ mW := mtb_4 (List.mem_of_getElem? (i := 140) rfl) rfl
set_option maxRecDepth 20000 in
theorem kw_596 : (Cond.static yJ9_min_7cf53) ∈ mW := mtb_3 (List.mem_of_getElem? (i := 77) rfl) rfl
set_option maxRecDepth 20000 in
theorem kw_903 : (Cond.code yX2_putDay cX2_putDay 3 (some .int)) ∈ mW := mtb_4 (List.mem_of_getElem? (i := 144) rfl) rfl
set_option maxRecDepth 20000 in
theorem kw_900 : (Cond.methodLink RX2 317 yX2_putDay) ∈ mW := mtb_4 (List.mem_of_getElem? (i := 141) rfl) rfl
set_option maxRecDepth 20000 in
theorem kw_902 : (Cond.instanceMethod yX2_putDay) ∈ mW := mtb_4 (List.mem_of_getElem? (i := 143) rfl) rfl
set_option maxRecDepth 20000 in
theorem kw_19 : (Cond.selects RX2 yX2_putDay yX2_putDay) ∈ mW := mW_at 19 rfl rfl
set_option maxRecDepth 20000 in
theorem kw_906 : (Cond.code yX2_secondsOn cX2_secondsOn 4 (some .long)) ∈ mW := mtb_4 (List.mem_of_getElem? (i := 147) rfl) rfl
set_option maxRecDepth 20000 in
theorem kw_904 : (Cond.methodLink RX2 150 yX2_secondsOn) ∈ mW := mtb_4 (List.mem_of_getElem? (i := 145) rfl) rfl
set_option maxRecDepth 20000 in
theorem kw_905 : (Cond.static yX2_secondsOn) ∈ mW := mtb_4 (List.mem_of_getElem? (i := 146) rfl) rfl
set_option maxRecDepth 20000 in
theorem kw_907 : (Cond.constantLong RX2 302 (7)) ∈ mW := mtb_4 (List.mem_of_getElem? (i := 148) rfl) rfl
set_option maxRecDepth 20000 in
theorem kw_908 : (Cond.constantLong RX2 304 (3600)) ∈ mW := mtb_4 (List.mem_of_getElem? (i := 149) rfl) rfl
set_option maxRecDepth 20000 in
theorem kw_909 : (Cond.constantLong RX2 306 (60)) ∈ mW := mtb_4 (List.mem_of_getElem? (i := 150) rfl) rfl
set_option maxRecDepth 20000 in
theorem kw_912 : (Cond.code yX2_nanoOn cX2_nanoOn 4 (some .int)) ∈ mW := mtb_4 (List.mem_of_getElem? (i := 153) rfl) rfl
set_option maxRecDepth 20000 in
theorem kw_910 : (Cond.methodLink RX2 154 yX2_nanoOn) ∈ mW := mtb_4 (List.mem_of_getElem? (i := 151) rfl) rfl
set_option maxRecDepth 20000 in
theorem kw_911 : (Cond.static yX2_nanoOn) ∈ mW := mtb_4 (List.mem_of_getElem? (i := 152) rfl) rfl
set_option maxRecDepth 20000 in
theorem kw_915 : (Cond.codeWith yL_set cL_set 6 (some .int) [(0, 13, 16, 19), (0, 13, 20, 21)]) ∈ mW := mtb_4 (List.mem_of_getElem? (i := 156) rfl) rfl
set_option maxRecDepth 20000 in
theorem kw_913 : (Cond.methodLink RL 195 yL_set) ∈ mW := mtb_4 (List.mem_of_getElem? (i := 154) rfl) rfl
set_option maxRecDepth 20000 in
theorem kw_914 : (Cond.static yL_set) ∈ mW := mtb_4 (List.mem_of_getElem? (i := 155) rfl) rfl
set_option maxRecDepth 20000 in
theorem kw_919 : (Cond.code yX2_set cX2_set 5 (some .int)) ∈ mW := mtb_4 (List.mem_of_getElem? (i := 160) rfl) rfl
set_option maxRecDepth 20000 in
theorem kw_916 : (Cond.methodLink RL 80 yX2_set) ∈ mW := mtb_4 (List.mem_of_getElem? (i := 157) rfl) rfl
set_option maxRecDepth 20000 in
theorem kw_917 : (Cond.instanceMethod yX2_set) ∈ mW := mtb_4 (List.mem_of_getElem? (i := 158) rfl) rfl
set_option maxRecDepth 20000 in
theorem kw_918 : (Cond.selects RX2 yX2_set yX2_set) ∈ mW := mtb_4 (List.mem_of_getElem? (i := 159) rfl) rfl
set_option maxRecDepth 20000 in
theorem kw_923 : (Cond.code yX2_setOfDay cX2_setOfDay 6 (some .int)) ∈ mW := mtb_4 (List.mem_of_getElem? (i := 164) rfl) rfl
set_option maxRecDepth 20000 in
theorem kw_920 : (Cond.methodLink RX2 162 yX2_setOfDay) ∈ mW := mtb_4 (List.mem_of_getElem? (i := 161) rfl) rfl
set_option maxRecDepth 20000 in
theorem kw_922 : (Cond.instanceMethod yX2_setOfDay) ∈ mW := mtb_4 (List.mem_of_getElem? (i := 163) rfl) rfl
set_option maxRecDepth 20000 in
theorem kw_20 : (Cond.selects RX2 yX2_setOfDay yX2_setOfDay) ∈ mW := mW_at 20 rfl rfl
set_option maxRecDepth 20000 in
theorem kw_926 : (Cond.code yX0_lengthOfYear cX0_lengthOfYear 1 (some .int)) ∈ mW := mtb_4 (List.mem_of_getElem? (i := 167) rfl) rfl
set_option maxRecDepth 20000 in
theorem kw_924 : (Cond.methodLink RX2 329 yX0_lengthOfYear) ∈ mW := mtb_4 (List.mem_of_getElem? (i := 165) rfl) rfl
set_option maxRecDepth 20000 in
theorem kw_925 : (Cond.static yX0_lengthOfYear) ∈ mW := mtb_4 (List.mem_of_getElem? (i := 166) rfl) rfl
set_option maxRecDepth 20000 in
theorem kw_927 : (Cond.methodLink RX2 332 yX0_firstDayOf) ∈ mW := mtb_4 (List.mem_of_getElem? (i := 168) rfl) rfl
set_option maxRecDepth 20000 in
theorem kw_931 : (Cond.code yX2_setOfTime cX2_setOfTime 4 (some .int)) ∈ mW := mtb_4 (List.mem_of_getElem? (i := 172) rfl) rfl
set_option maxRecDepth 20000 in
theorem kw_928 : (Cond.methodLink RX2 166 yX2_setOfTime) ∈ mW := mtb_4 (List.mem_of_getElem? (i := 169) rfl) rfl
set_option maxRecDepth 20000 in
theorem kw_930 : (Cond.instanceMethod yX2_setOfTime) ∈ mW := mtb_4 (List.mem_of_getElem? (i := 171) rfl) rfl
set_option maxRecDepth 20000 in
theorem kw_21 : (Cond.selects RX2 yX2_setOfTime yX2_setOfTime) ∈ mW := mW_at 21 rfl rfl
set_option maxRecDepth 20000 in
theorem kw_935 : (Cond.code yX2_setPart cX2_setPart 7 (some .int)) ∈ mW := mtb_4 (List.mem_of_getElem? (i := 176) rfl) rfl
set_option maxRecDepth 20000 in
theorem kw_932 : (Cond.methodLink RX2 338 yX2_setPart) ∈ mW := mtb_4 (List.mem_of_getElem? (i := 173) rfl) rfl
set_option maxRecDepth 20000 in
theorem kw_934 : (Cond.instanceMethod yX2_setPart) ∈ mW := mtb_4 (List.mem_of_getElem? (i := 175) rfl) rfl
set_option maxRecDepth 20000 in
theorem kw_22 : (Cond.selects RX2 yX2_setPart yX2_setPart) ∈ mW := mW_at 22 rfl rfl
set_option maxRecDepth 20000 in
theorem kw_936 : (Cond.constantLong RX2 348 (999999999)) ∈ mW := mtb_4 (List.mem_of_getElem? (i := 177) rfl) rfl
set_option maxRecDepth 20000 in
theorem kw_939 : (Cond.codeWith yL_anew cL_anew 6 (some .int) [(0, 13, 16, 19)]) ∈ mW := mtb_4 (List.mem_of_getElem? (i := 180) rfl) rfl
set_option maxRecDepth 20000 in
theorem kw_937 : (Cond.methodLink RL 198 yL_anew) ∈ mW := mtb_4 (List.mem_of_getElem? (i := 178) rfl) rfl
set_option maxRecDepth 20000 in
theorem kw_938 : (Cond.static yL_anew) ∈ mW := mtb_4 (List.mem_of_getElem? (i := 179) rfl) rfl
set_option maxRecDepth 20000 in
theorem kw_943 : (Cond.code yX2_anew cX2_anew 8 (some .int)) ∈ mW := mtb_4 (List.mem_of_getElem? (i := 184) rfl) rfl
set_option maxRecDepth 20000 in
theorem kw_940 : (Cond.methodLink RL 83 yX2_anew) ∈ mW := mtb_4 (List.mem_of_getElem? (i := 181) rfl) rfl
set_option maxRecDepth 20000 in
theorem kw_941 : (Cond.instanceMethod yX2_anew) ∈ mW := mtb_4 (List.mem_of_getElem? (i := 182) rfl) rfl
set_option maxRecDepth 20000 in
theorem kw_942 : (Cond.selects RX2 yX2_anew yX2_anew) ∈ mW := mtb_4 (List.mem_of_getElem? (i := 183) rfl) rfl
set_option maxRecDepth 20000 in
theorem kw_946 : (Cond.codeWith yL_copy cL_copy 5 (some .int) [(0, 11, 14, 19)]) ∈ mW := mtb_4 (List.mem_of_getElem? (i := 187) rfl) rfl
set_option maxRecDepth 20000 in
theorem kw_944 : (Cond.methodLink RL 202 yL_copy) ∈ mW := mtb_4 (List.mem_of_getElem? (i := 185) rfl) rfl
set_option maxRecDepth 20000 in
theorem kw_945 : (Cond.static yL_copy) ∈ mW := mtb_4 (List.mem_of_getElem? (i := 186) rfl) rfl
set_option maxRecDepth 20000 in
theorem kw_950 : (Cond.code yX2_copy cX2_copy 5 (some .int)) ∈ mW := mtb_4 (List.mem_of_getElem? (i := 191) rfl) rfl
set_option maxRecDepth 20000 in
theorem kw_947 : (Cond.methodLink RL 87 yX2_copy) ∈ mW := mtb_4 (List.mem_of_getElem? (i := 188) rfl) rfl
set_option maxRecDepth 20000 in
theorem kw_948 : (Cond.instanceMethod yX2_copy) ∈ mW := mtb_4 (List.mem_of_getElem? (i := 189) rfl) rfl
set_option maxRecDepth 20000 in
theorem kw_949 : (Cond.selects RX2 yX2_copy yX2_copy) ∈ mW := mtb_4 (List.mem_of_getElem? (i := 190) rfl) rfl
set_option maxRecDepth 20000 in
theorem kw_953 : (Cond.codeWith yL_ofDate cL_ofDate 5 (some .int) [(0, 11, 14, 19), (0, 11, 18, 21)]) ∈ mW := mtb_4 (List.mem_of_getElem? (i := 194) rfl) rfl
set_option maxRecDepth 20000 in
theorem kw_951 : (Cond.methodLink RL 205 yL_ofDate) ∈ mW := mtb_4 (List.mem_of_getElem? (i := 192) rfl) rfl
set_option maxRecDepth 20000 in
theorem kw_952 : (Cond.static yL_ofDate) ∈ mW := mtb_4 (List.mem_of_getElem? (i := 193) rfl) rfl
set_option maxRecDepth 20000 in
theorem kw_957 : (Cond.code yX2_ofDate cX2_ofDate 4 (some .int)) ∈ mW := mtb_4 (List.mem_of_getElem? (i := 198) rfl) rfl
set_option maxRecDepth 20000 in
theorem kw_954 : (Cond.methodLink RL 90 yX2_ofDate) ∈ mW := mtb_4 (List.mem_of_getElem? (i := 195) rfl) rfl
set_option maxRecDepth 20000 in
theorem kw_955 : (Cond.instanceMethod yX2_ofDate) ∈ mW := mtb_4 (List.mem_of_getElem? (i := 196) rfl) rfl
set_option maxRecDepth 20000 in
theorem kw_956 : (Cond.selects RX2 yX2_ofDate yX2_ofDate) ∈ mW := mtb_4 (List.mem_of_getElem? (i := 197) rfl) rfl
set_option maxRecDepth 20000 in
theorem kw_960 : (Cond.codeWith yL_orderDate cL_orderDate 5 (some .int) [(0, 11, 14, 19)]) ∈ mW := mtb_4 (List.mem_of_getElem? (i := 201) rfl) rfl
set_option maxRecDepth 20000 in
theorem kw_958 : (Cond.methodLink RL 208 yL_orderDate) ∈ mW := mtb_4 (List.mem_of_getElem? (i := 199) rfl) rfl
set_option maxRecDepth 20000 in
theorem kw_959 : (Cond.static yL_orderDate) ∈ mW := mtb_4 (List.mem_of_getElem? (i := 200) rfl) rfl
set_option maxRecDepth 20000 in
theorem kw_964 : (Cond.code yX2_orderDate cX2_orderDate 3 (some .int)) ∈ mW := mtb_4 (List.mem_of_getElem? (i := 205) rfl) rfl
set_option maxRecDepth 20000 in
theorem kw_961 : (Cond.methodLink RL 93 yX2_orderDate) ∈ mW := mtb_4 (List.mem_of_getElem? (i := 202) rfl) rfl
set_option maxRecDepth 20000 in
theorem kw_962 : (Cond.instanceMethod yX2_orderDate) ∈ mW := mtb_4 (List.mem_of_getElem? (i := 203) rfl) rfl
set_option maxRecDepth 20000 in
theorem kw_963 : (Cond.selects RX2 yX2_orderDate yX2_orderDate) ∈ mW := mtb_4 (List.mem_of_getElem? (i := 204) rfl) rfl
set_option maxRecDepth 20000 in
theorem kw_967 : (Cond.codeWith yL_isDate cL_isDate 6 (some .int) [(0, 20, 23, 19), (0, 20, 27, 21)]) ∈ mW := mtb_4 (List.mem_of_getElem? (i := 208) rfl) rfl
set_option maxRecDepth 20000 in
theorem kw_965 : (Cond.methodLink RL 211 yL_isDate) ∈ mW := mtb_4 (List.mem_of_getElem? (i := 206) rfl) rfl
set_option maxRecDepth 20000 in
theorem kw_966 : (Cond.static yL_isDate) ∈ mW := mtb_4 (List.mem_of_getElem? (i := 207) rfl) rfl
set_option maxRecDepth 20000 in
theorem kw_971 : (Cond.code yX2_isDate cX2_isDate 6 (some .boolean)) ∈ mW := mtb_4 (List.mem_of_getElem? (i := 212) rfl) rfl
set_option maxRecDepth 20000 in
theorem kw_968 : (Cond.methodLink RL 96 yX2_isDate) ∈ mW := mtb_4 (List.mem_of_getElem? (i := 209) rfl) rfl
set_option maxRecDepth 20000 in
theorem kw_969 : (Cond.instanceMethod yX2_isDate) ∈ mW := mtb_4 (List.mem_of_getElem? (i := 210) rfl) rfl
set_option maxRecDepth 20000 in
theorem kw_970 : (Cond.selects RX2 yX2_isDate yX2_isDate) ∈ mW := mtb_4 (List.mem_of_getElem? (i := 211) rfl) rfl
set_option maxRecDepth 20000 in
theorem kw_974 : (Cond.code yX2_isSo cX2_isSo 3 (some .boolean)) ∈ mW := mtb_4 (List.mem_of_getElem? (i := 215) rfl) rfl
set_option maxRecDepth 20000 in
theorem kw_972 : (Cond.methodLink RX2 183 yX2_isSo) ∈ mW := mtb_4 (List.mem_of_getElem? (i := 213) rfl) rfl
set_option maxRecDepth 20000 in
theorem kw_973 : (Cond.static yX2_isSo) ∈ mW := mtb_4 (List.mem_of_getElem? (i := 214) rfl) rfl
set_option maxRecDepth 20000 in
theorem kw_977 : (Cond.codeWith yL_clock cL_clock 7 (some .int) [(0, 15, 18, 19), (0, 15, 22, 21)]) ∈ mW := mtb_4 (List.mem_of_getElem? (i := 218) rfl) rfl
set_option maxRecDepth 20000 in
theorem kw_975 : (Cond.methodLink RL 214 yL_clock) ∈ mW := mtb_4 (List.mem_of_getElem? (i := 216) rfl) rfl
set_option maxRecDepth 20000 in
theorem kw_976 : (Cond.static yL_clock) ∈ mW := mtb_4 (List.mem_of_getElem? (i := 217) rfl) rfl
set_option maxRecDepth 20000 in
theorem kw_981 : (Cond.code yX2_clock cX2_clock 7 (some .int)) ∈ mW := mtb_4 (List.mem_of_getElem? (i := 222) rfl) rfl
set_option maxRecDepth 20000 in
theorem kw_978 : (Cond.methodLink RL 99 yX2_clock) ∈ mW := mtb_4 (List.mem_of_getElem? (i := 219) rfl) rfl
set_option maxRecDepth 20000 in
theorem kw_979 : (Cond.instanceMethod yX2_clock) ∈ mW := mtb_4 (List.mem_of_getElem? (i := 220) rfl) rfl
set_option maxRecDepth 20000 in
theorem kw_980 : (Cond.selects RX2 yX2_clock yX2_clock) ∈ mW := mtb_4 (List.mem_of_getElem? (i := 221) rfl) rfl
set_option maxRecDepth 20000 in
theorem kw_985 : (Cond.code yX2_putClock cX2_putClock 6 (some .int)) ∈ mW := mtb_4 (List.mem_of_getElem? (i := 226) rfl) rfl
set_option maxRecDepth 20000 in
theorem kw_982 : (Cond.methodLink RX2 187 yX2_putClock) ∈ mW := mtb_4 (List.mem_of_getElem? (i := 223) rfl) rfl
set_option maxRecDepth 20000 in
theorem kw_984 : (Cond.instanceMethod yX2_putClock) ∈ mW := mtb_4 (List.mem_of_getElem? (i := 225) rfl) rfl
set_option maxRecDepth 20000 in
theorem kw_23 : (Cond.selects RX2 yX2_putClock yX2_putClock) ∈ mW := mW_at 23 rfl rfl
set_option maxRecDepth 20000 in
theorem kw_988 : (Cond.codeWith yL_clockOf cL_clockOf 5 (some .int) [(0, 11, 14, 19)]) ∈ mW := mtb_4 (List.mem_of_getElem? (i := 229) rfl) rfl
set_option maxRecDepth 20000 in
theorem kw_986 : (Cond.methodLink RL 217 yL_clockOf) ∈ mW := mtb_4 (List.mem_of_getElem? (i := 227) rfl) rfl
set_option maxRecDepth 20000 in
theorem kw_987 : (Cond.static yL_clockOf) ∈ mW := mtb_4 (List.mem_of_getElem? (i := 228) rfl) rfl
set_option maxRecDepth 20000 in
theorem kw_992 : (Cond.code yX2_clockOf cX2_clockOf 5 (some .int)) ∈ mW := mtb_4 (List.mem_of_getElem? (i := 233) rfl) rfl
set_option maxRecDepth 20000 in
theorem kw_989 : (Cond.methodLink RL 102 yX2_clockOf) ∈ mW := mtb_4 (List.mem_of_getElem? (i := 230) rfl) rfl
set_option maxRecDepth 20000 in
theorem kw_990 : (Cond.instanceMethod yX2_clockOf) ∈ mW := mtb_4 (List.mem_of_getElem? (i := 231) rfl) rfl
set_option maxRecDepth 20000 in
theorem kw_991 : (Cond.selects RX2 yX2_clockOf yX2_clockOf) ∈ mW := mtb_4 (List.mem_of_getElem? (i := 232) rfl) rfl
set_option maxRecDepth 20000 in
theorem kw_995 : (Cond.codeWith yL_strike cL_strike 5 (some .int) [(0, 11, 14, 19)]) ∈ mW := mtb_4 (List.mem_of_getElem? (i := 236) rfl) rfl
set_option maxRecDepth 20000 in
theorem kw_993 : (Cond.methodLink RL 220 yL_strike) ∈ mW := mtb_4 (List.mem_of_getElem? (i := 234) rfl) rfl
set_option maxRecDepth 20000 in
theorem kw_994 : (Cond.static yL_strike) ∈ mW := mtb_4 (List.mem_of_getElem? (i := 235) rfl) rfl
set_option maxRecDepth 20000 in
theorem kw_999 : (Cond.code yX2_strike cX2_strike 5 (some .int)) ∈ mW := mtb_5 (List.mem_of_getElem? (i := 0) rfl) rfl
set_option maxRecDepth 20000 in
theorem kw_996 : (Cond.methodLink RL 105 yX2_strike) ∈ mW := mtb_4 (List.mem_of_getElem? (i := 237) rfl) rfl
set_option maxRecDepth 20000 in
theorem kw_997 : (Cond.instanceMethod yX2_strike) ∈ mW := mtb_4 (List.mem_of_getElem? (i := 238) rfl) rfl
set_option maxRecDepth 20000 in
theorem kw_998 : (Cond.selects RX2 yX2_strike yX2_strike) ∈ mW := mtb_4 (List.mem_of_getElem? (i := 239) rfl) rfl
set_option maxRecDepth 20000 in
theorem kw_1002 : (Cond.codeWith yL_moveClock cL_moveClock 7 (some .int) [(0, 15, 18, 19), (0, 15, 22, 21)]) ∈ mW := mtb_5 (List.mem_of_getElem? (i := 3) rfl) rfl
set_option maxRecDepth 20000 in
theorem kw_1000 : (Cond.methodLink RL 223 yL_moveClock) ∈ mW := mtb_5 (List.mem_of_getElem? (i := 1) rfl) rfl
set_option maxRecDepth 20000 in
theorem kw_1001 : (Cond.static yL_moveClock) ∈ mW := mtb_5 (List.mem_of_getElem? (i := 2) rfl) rfl
set_option maxRecDepth 20000 in
theorem kw_1006 : (Cond.code yX2_moveClock cX2_moveClock 8 (some .int)) ∈ mW := mtb_5 (List.mem_of_getElem? (i := 7) rfl) rfl
set_option maxRecDepth 20000 in
theorem kw_1003 : (Cond.methodLink RL 108 yX2_moveClock) ∈ mW := mtb_5 (List.mem_of_getElem? (i := 4) rfl) rfl
set_option maxRecDepth 20000 in
theorem kw_1004 : (Cond.instanceMethod yX2_moveClock) ∈ mW := mtb_5 (List.mem_of_getElem? (i := 5) rfl) rfl
set_option maxRecDepth 20000 in
theorem kw_1005 : (Cond.selects RX2 yX2_moveClock yX2_moveClock) ∈ mW := mtb_5 (List.mem_of_getElem? (i := 6) rfl) rfl
set_option maxRecDepth 20000 in
theorem kw_1009 : (Cond.codeWith yL_anewClock cL_anewClock 6 (some .int) [(0, 13, 16, 19)]) ∈ mW := mtb_5 (List.mem_of_getElem? (i := 10) rfl) rfl
set_option maxRecDepth 20000 in
theorem kw_1007 : (Cond.methodLink RL 226 yL_anewClock) ∈ mW := mtb_5 (List.mem_of_getElem? (i := 8) rfl) rfl
set_option maxRecDepth 20000 in
theorem kw_1008 : (Cond.static yL_anewClock) ∈ mW := mtb_5 (List.mem_of_getElem? (i := 9) rfl) rfl
set_option maxRecDepth 20000 in
theorem kw_1013 : (Cond.code yX2_anewClock cX2_anewClock 8 (some .int)) ∈ mW := mtb_5 (List.mem_of_getElem? (i := 14) rfl) rfl
set_option maxRecDepth 20000 in
theorem kw_1010 : (Cond.methodLink RL 111 yX2_anewClock) ∈ mW := mtb_5 (List.mem_of_getElem? (i := 11) rfl) rfl
set_option maxRecDepth 20000 in
theorem kw_1011 : (Cond.instanceMethod yX2_anewClock) ∈ mW := mtb_5 (List.mem_of_getElem? (i := 12) rfl) rfl
set_option maxRecDepth 20000 in
theorem kw_1012 : (Cond.selects RX2 yX2_anewClock yX2_anewClock) ∈ mW := mtb_5 (List.mem_of_getElem? (i := 13) rfl) rfl
set_option maxRecDepth 20000 in
theorem kw_1016 : (Cond.codeWith yL_copyClock cL_copyClock 5 (some .int) [(0, 11, 14, 19)]) ∈ mW := mtb_5 (List.mem_of_getElem? (i := 17) rfl) rfl
set_option maxRecDepth 20000 in
theorem kw_1014 : (Cond.methodLink RL 229 yL_copyClock) ∈ mW := mtb_5 (List.mem_of_getElem? (i := 15) rfl) rfl
set_option maxRecDepth 20000 in
theorem kw_1015 : (Cond.static yL_copyClock) ∈ mW := mtb_5 (List.mem_of_getElem? (i := 16) rfl) rfl
set_option maxRecDepth 20000 in
theorem kw_1020 : (Cond.code yX2_copyClock cX2_copyClock 5 (some .int)) ∈ mW := mtb_5 (List.mem_of_getElem? (i := 21) rfl) rfl
set_option maxRecDepth 20000 in
theorem kw_1017 : (Cond.methodLink RL 114 yX2_copyClock) ∈ mW := mtb_5 (List.mem_of_getElem? (i := 18) rfl) rfl
set_option maxRecDepth 20000 in
theorem kw_1018 : (Cond.instanceMethod yX2_copyClock) ∈ mW := mtb_5 (List.mem_of_getElem? (i := 19) rfl) rfl
set_option maxRecDepth 20000 in
theorem kw_1019 : (Cond.selects RX2 yX2_copyClock yX2_copyClock) ∈ mW := mtb_5 (List.mem_of_getElem? (i := 20) rfl) rfl
set_option maxRecDepth 20000 in
theorem kw_1023 : (Cond.codeWith yL_ofClock cL_ofClock 5 (some .int) [(0, 11, 14, 19), (0, 11, 18, 21)]) ∈ mW := mtb_5 (List.mem_of_getElem? (i := 24) rfl) rfl
set_option maxRecDepth 20000 in
theorem kw_1021 : (Cond.methodLink RL 232 yL_ofClock) ∈ mW := mtb_5 (List.mem_of_getElem? (i := 22) rfl) rfl
set_option maxRecDepth 20000 in
theorem kw_1022 : (Cond.static yL_ofClock) ∈ mW := mtb_5 (List.mem_of_getElem? (i := 23) rfl) rfl
set_option maxRecDepth 20000 in
theorem kw_1027 : (Cond.code yX2_ofClock cX2_ofClock 4 (some .int)) ∈ mW := mtb_5 (List.mem_of_getElem? (i := 28) rfl) rfl
set_option maxRecDepth 20000 in
theorem kw_1024 : (Cond.methodLink RL 117 yX2_ofClock) ∈ mW := mtb_5 (List.mem_of_getElem? (i := 25) rfl) rfl
set_option maxRecDepth 20000 in
theorem kw_1025 : (Cond.instanceMethod yX2_ofClock) ∈ mW := mtb_5 (List.mem_of_getElem? (i := 26) rfl) rfl
set_option maxRecDepth 20000 in
theorem kw_1026 : (Cond.selects RX2 yX2_ofClock yX2_ofClock) ∈ mW := mtb_5 (List.mem_of_getElem? (i := 27) rfl) rfl
set_option maxRecDepth 20000 in
theorem kw_1030 : (Cond.codeWith yL_orderClock cL_orderClock 5 (some .int) [(0, 11, 14, 19)]) ∈ mW := mtb_5 (List.mem_of_getElem? (i := 31) rfl) rfl
set_option maxRecDepth 20000 in
theorem kw_1028 : (Cond.methodLink RL 235 yL_orderClock) ∈ mW := mtb_5 (List.mem_of_getElem? (i := 29) rfl) rfl
set_option maxRecDepth 20000 in
theorem kw_1029 : (Cond.static yL_orderClock) ∈ mW := mtb_5 (List.mem_of_getElem? (i := 30) rfl) rfl
set_option maxRecDepth 20000 in
theorem kw_1034 : (Cond.code yX2_orderClock cX2_orderClock 3 (some .int)) ∈ mW := mtb_5 (List.mem_of_getElem? (i := 35) rfl) rfl
set_option maxRecDepth 20000 in
theorem kw_1031 : (Cond.methodLink RL 120 yX2_orderClock) ∈ mW := mtb_5 (List.mem_of_getElem? (i := 32) rfl) rfl
set_option maxRecDepth 20000 in
theorem kw_1032 : (Cond.instanceMethod yX2_orderClock) ∈ mW := mtb_5 (List.mem_of_getElem? (i := 33) rfl) rfl
set_option maxRecDepth 20000 in
theorem kw_1033 : (Cond.selects RX2 yX2_orderClock yX2_orderClock) ∈ mW := mtb_5 (List.mem_of_getElem? (i := 34) rfl) rfl
set_option maxRecDepth 20000 in
theorem kw_1037 : (Cond.codeWith yL_isClock cL_isClock 6 (some .int) [(0, 20, 23, 19), (0, 20, 27, 21)]) ∈ mW := mtb_5 (List.mem_of_getElem? (i := 38) rfl) rfl
set_option maxRecDepth 20000 in
theorem kw_1035 : (Cond.methodLink RL 238 yL_isClock) ∈ mW := mtb_5 (List.mem_of_getElem? (i := 36) rfl) rfl
set_option maxRecDepth 20000 in
theorem kw_1036 : (Cond.static yL_isClock) ∈ mW := mtb_5 (List.mem_of_getElem? (i := 37) rfl) rfl
set_option maxRecDepth 20000 in
theorem kw_1041 : (Cond.code yX2_isClock cX2_isClock 6 (some .boolean)) ∈ mW := mtb_5 (List.mem_of_getElem? (i := 42) rfl) rfl
set_option maxRecDepth 20000 in
theorem kw_1038 : (Cond.methodLink RL 123 yX2_isClock) ∈ mW := mtb_5 (List.mem_of_getElem? (i := 39) rfl) rfl
set_option maxRecDepth 20000 in
theorem kw_1039 : (Cond.instanceMethod yX2_isClock) ∈ mW := mtb_5 (List.mem_of_getElem? (i := 40) rfl) rfl
set_option maxRecDepth 20000 in
theorem kw_1040 : (Cond.selects RX2 yX2_isClock yX2_isClock) ∈ mW := mtb_5 (List.mem_of_getElem? (i := 41) rfl) rfl
set_option maxRecDepth 20000 in
theorem kw_1044 : (Cond.codeWith yL_house cL_house 4 (some .int) [(0, 10, 13, 21)]) ∈ mW := mtb_5 (List.mem_of_getElem? (i := 45) rfl) rfl
set_option maxRecDepth 20000 in
theorem kw_1042 : (Cond.methodLink RL 245 yL_house) ∈ mW := mtb_5 (List.mem_of_getElem? (i := 43) rfl) rfl
set_option maxRecDepth 20000 in
theorem kw_1043 : (Cond.static yL_house) ∈ mW := mtb_5 (List.mem_of_getElem? (i := 44) rfl) rfl
set_option maxRecDepth 20000 in
theorem kw_1045 : (Cond.methodLink RL 126 yX2_house) ∈ mW := mtb_5 (List.mem_of_getElem? (i := 46) rfl) rfl
set_option maxRecDepth 20000 in
theorem kw_1046 : (Cond.classLink RL 130 RX4) ∈ mW := mtb_5 (List.mem_of_getElem? (i := 47) rfl) rfl
set_option maxRecDepth 20000 in
theorem kw_1047 : (Cond.instantiable RX4 9) ∈ mW := mtb_5 (List.mem_of_getElem? (i := 48) rfl) rfl
set_option maxRecDepth 20000 in
theorem kw_1052 : (Cond.fieldLink RX4 29 "MomentdeskModel" "thrown" "I") ∈ mW := mtb_5 (List.mem_of_getElem? (i := 53) rfl) rfl
set_option maxRecDepth 20000 in
theorem kw_1053 : (Cond.fieldLink RX4 219 "MomentdeskModel" "knocks" "I") ∈ mW := mtb_5 (List.mem_of_getElem? (i := 54) rfl) rfl
set_option maxRecDepth 20000 in
theorem kw_1054 : (Cond.fieldLink RX4 33 "MomentdeskModel" "refusals" "I") ∈ mW := mtb_5 (List.mem_of_getElem? (i := 55) rfl) rfl
set_option maxRecDepth 20000 in
theorem kw_1055 : (Cond.fieldLink RX4 7 "MomentdeskModel" "offsets" "[I") ∈ mW := mtb_5 (List.mem_of_getElem? (i := 56) rfl) rfl
set_option maxRecDepth 20000 in
theorem kw_1056 : (Cond.fieldLink RX4 13 "MomentdeskModel" "moments" "[J") ∈ mW := mtb_5 (List.mem_of_getElem? (i := 57) rfl) rfl
set_option maxRecDepth 20000 in
theorem kw_1057 : (Cond.fieldLink RX4 17 "MomentdeskModel" "days" "[I") ∈ mW := mtb_5 (List.mem_of_getElem? (i := 58) rfl) rfl
set_option maxRecDepth 20000 in
theorem kw_1058 : (Cond.fieldLink RX4 20 "MomentdeskModel" "seconds" "[I") ∈ mW := mtb_5 (List.mem_of_getElem? (i := 59) rfl) rfl
set_option maxRecDepth 20000 in
theorem kw_1059 : (Cond.fieldLink RX4 23 "MomentdeskModel" "nanos" "[I") ∈ mW := mtb_5 (List.mem_of_getElem? (i := 60) rfl) rfl
set_option maxRecDepth 20000 in
theorem kw_1060 : (Cond.fieldLink RX4 26 "MomentdeskModel" "owns" "[I") ∈ mW := mtb_5 (List.mem_of_getElem? (i := 61) rfl) rfl
set_option maxRecDepth 20000 in
theorem kw_1083 : (Cond.code yX4_thrown cX4_thrown 1 (some .int)) ∈ mW := mtb_5 (List.mem_of_getElem? (i := 84) rfl) rfl
set_option maxRecDepth 20000 in
theorem kw_1080 : (Cond.methodLink RL 162 yX4_thrown) ∈ mW := mtb_5 (List.mem_of_getElem? (i := 81) rfl) rfl
set_option maxRecDepth 20000 in
theorem kw_1081 : (Cond.instanceMethod yX4_thrown) ∈ mW := mtb_5 (List.mem_of_getElem? (i := 82) rfl) rfl
set_option maxRecDepth 20000 in
theorem kw_1082 : (Cond.selects RX4 yX4_thrown yX4_thrown) ∈ mW := mtb_5 (List.mem_of_getElem? (i := 83) rfl) rfl
set_option maxRecDepth 20000 in
theorem kw_1087 : (Cond.code yX4_offset cX4_offset 4 (some .int)) ∈ mW := mtb_5 (List.mem_of_getElem? (i := 88) rfl) rfl
set_option maxRecDepth 20000 in
theorem kw_1084 : (Cond.methodLink RL 139 yX4_offset) ∈ mW := mtb_5 (List.mem_of_getElem? (i := 85) rfl) rfl
set_option maxRecDepth 20000 in
theorem kw_1085 : (Cond.instanceMethod yX4_offset) ∈ mW := mtb_5 (List.mem_of_getElem? (i := 86) rfl) rfl
set_option maxRecDepth 20000 in
theorem kw_1086 : (Cond.selects RX4 yX4_offset yX4_offset) ∈ mW := mtb_5 (List.mem_of_getElem? (i := 87) rfl) rfl
set_option maxRecDepth 20000 in
theorem kw_1090 : (Cond.code yX4_isNone cX4_isNone 1 (some .boolean)) ∈ mW := mtb_5 (List.mem_of_getElem? (i := 91) rfl) rfl
set_option maxRecDepth 20000 in
theorem kw_1088 : (Cond.methodLink RX4 61 yX4_isNone) ∈ mW := mtb_5 (List.mem_of_getElem? (i := 89) rfl) rfl
set_option maxRecDepth 20000 in
theorem kw_1089 : (Cond.static yX4_isNone) ∈ mW := mtb_5 (List.mem_of_getElem? (i := 90) rfl) rfl
set_option maxRecDepth 20000 in
theorem kw_1091 : (Cond.constantLong RX4 36 (3)) ∈ mW := mtb_5 (List.mem_of_getElem? (i := 92) rfl) rfl
set_option maxRecDepth 20000 in
theorem kw_1094 : (Cond.code yX4_isIn cX4_isIn 6 (some .boolean)) ∈ mW := mtb_5 (List.mem_of_getElem? (i := 95) rfl) rfl
set_option maxRecDepth 20000 in
theorem kw_1092 : (Cond.methodLink RX4 38 yX4_isIn) ∈ mW := mtb_5 (List.mem_of_getElem? (i := 93) rfl) rfl
set_option maxRecDepth 20000 in
theorem kw_1093 : (Cond.static yX4_isIn) ∈ mW := mtb_5 (List.mem_of_getElem? (i := 94) rfl) rfl
set_option maxRecDepth 20000 in
theorem kw_1095 : (Cond.constantLong RX4 64 (-64800)) ∈ mW := mtb_5 (List.mem_of_getElem? (i := 96) rfl) rfl
set_option maxRecDepth 20000 in
theorem kw_1096 : (Cond.constantLong RX4 66 (64800)) ∈ mW := mtb_5 (List.mem_of_getElem? (i := 97) rfl) rfl
set_option maxRecDepth 20000 in
theorem kw_1100 : (Cond.code yX4_isStopped cX4_isStopped 3 (some .boolean)) ∈ mW := mtb_5 (List.mem_of_getElem? (i := 101) rfl) rfl
set_option maxRecDepth 20000 in
theorem kw_1097 : (Cond.methodLink RX4 68 yX4_isStopped) ∈ mW := mtb_5 (List.mem_of_getElem? (i := 98) rfl) rfl
set_option maxRecDepth 20000 in
theorem kw_1099 : (Cond.instanceMethod yX4_isStopped) ∈ mW := mtb_5 (List.mem_of_getElem? (i := 100) rfl) rfl
set_option maxRecDepth 20000 in
theorem kw_24 : (Cond.selects RX4 yX4_isStopped yX4_isStopped) ∈ mW := mW_at 24 rfl rfl
set_option maxRecDepth 20000 in
theorem kw_1104 : (Cond.code yX4_offsetOf cX4_offsetOf 7 (some .int)) ∈ mW := mtb_5 (List.mem_of_getElem? (i := 105) rfl) rfl
set_option maxRecDepth 20000 in
theorem kw_1101 : (Cond.methodLink RL 143 yX4_offsetOf) ∈ mW := mtb_5 (List.mem_of_getElem? (i := 102) rfl) rfl
set_option maxRecDepth 20000 in
theorem kw_1102 : (Cond.instanceMethod yX4_offsetOf) ∈ mW := mtb_5 (List.mem_of_getElem? (i := 103) rfl) rfl
set_option maxRecDepth 20000 in
theorem kw_1103 : (Cond.selects RX4 yX4_offsetOf yX4_offsetOf) ∈ mW := mtb_5 (List.mem_of_getElem? (i := 104) rfl) rfl
set_option maxRecDepth 20000 in
theorem kw_1105 : (Cond.constantLong RX4 72 (-18)) ∈ mW := mtb_5 (List.mem_of_getElem? (i := 106) rfl) rfl
set_option maxRecDepth 20000 in
theorem kw_1106 : (Cond.constantLong RX4 74 (18)) ∈ mW := mtb_5 (List.mem_of_getElem? (i := 107) rfl) rfl
set_option maxRecDepth 20000 in
theorem kw_1107 : (Cond.constantLong RX4 76 (-59)) ∈ mW := mtb_5 (List.mem_of_getElem? (i := 108) rfl) rfl
set_option maxRecDepth 20000 in
theorem kw_1108 : (Cond.constantLong RX4 78 (59)) ∈ mW := mtb_5 (List.mem_of_getElem? (i := 109) rfl) rfl
set_option maxRecDepth 20000 in
theorem kw_1112 : (Cond.code yX4_no cX4_no 1 (some .int)) ∈ mW := mtb_5 (List.mem_of_getElem? (i := 113) rfl) rfl
set_option maxRecDepth 20000 in
theorem kw_1109 : (Cond.methodLink RX4 80 yX4_no) ∈ mW := mtb_5 (List.mem_of_getElem? (i := 110) rfl) rfl
set_option maxRecDepth 20000 in
theorem kw_1111 : (Cond.instanceMethod yX4_no) ∈ mW := mtb_5 (List.mem_of_getElem? (i := 112) rfl) rfl
set_option maxRecDepth 20000 in
theorem kw_25 : (Cond.selects RX4 yX4_no yX4_no) ∈ mW := mW_at 25 rfl rfl
set_option maxRecDepth 20000 in
theorem kw_1116 : (Cond.code yX4_seconds cX4_seconds 2 (some .int)) ∈ mW := mtb_5 (List.mem_of_getElem? (i := 117) rfl) rfl
set_option maxRecDepth 20000 in
theorem kw_1113 : (Cond.methodLink RL 147 yX4_seconds) ∈ mW := mtb_5 (List.mem_of_getElem? (i := 114) rfl) rfl
set_option maxRecDepth 20000 in
theorem kw_1114 : (Cond.instanceMethod yX4_seconds) ∈ mW := mtb_5 (List.mem_of_getElem? (i := 115) rfl) rfl
set_option maxRecDepth 20000 in
theorem kw_1115 : (Cond.selects RX4 yX4_seconds yX4_seconds) ∈ mW := mtb_5 (List.mem_of_getElem? (i := 116) rfl) rfl
set_option maxRecDepth 20000 in
theorem kw_1120 : (Cond.code yX4_orderOffset cX4_orderOffset 3 (some .int)) ∈ mW := mtb_5 (List.mem_of_getElem? (i := 121) rfl) rfl
set_option maxRecDepth 20000 in
theorem kw_1117 : (Cond.methodLink RL 150 yX4_orderOffset) ∈ mW := mtb_5 (List.mem_of_getElem? (i := 118) rfl) rfl
set_option maxRecDepth 20000 in
theorem kw_1118 : (Cond.instanceMethod yX4_orderOffset) ∈ mW := mtb_5 (List.mem_of_getElem? (i := 119) rfl) rfl
set_option maxRecDepth 20000 in
theorem kw_1119 : (Cond.selects RX4 yX4_orderOffset yX4_orderOffset) ∈ mW := mtb_5 (List.mem_of_getElem? (i := 120) rfl) rfl
set_option maxRecDepth 20000 in
theorem kw_1123 : (Cond.code yX4_order cX4_order 4 (some .int)) ∈ mW := mtb_5 (List.mem_of_getElem? (i := 124) rfl) rfl
set_option maxRecDepth 20000 in
theorem kw_1121 : (Cond.methodLink RX4 88 yX4_order) ∈ mW := mtb_5 (List.mem_of_getElem? (i := 122) rfl) rfl
set_option maxRecDepth 20000 in
theorem kw_1122 : (Cond.static yX4_order) ∈ mW := mtb_5 (List.mem_of_getElem? (i := 123) rfl) rfl
set_option maxRecDepth 20000 in
theorem kw_1126 : (Cond.code yX4_one cX4_one 1 (some .int)) ∈ mW := mtb_5 (List.mem_of_getElem? (i := 127) rfl) rfl
set_option maxRecDepth 20000 in
theorem kw_1124 : (Cond.methodLink RX4 84 yX4_one) ∈ mW := mtb_5 (List.mem_of_getElem? (i := 125) rfl) rfl
set_option maxRecDepth 20000 in
theorem kw_1125 : (Cond.static yX4_one) ∈ mW := mtb_5 (List.mem_of_getElem? (i := 126) rfl) rfl
set_option maxRecDepth 20000 in
theorem kw_1130 : (Cond.code yX4_moment cX4_moment 4 (some .int)) ∈ mW := mtb_5 (List.mem_of_getElem? (i := 131) rfl) rfl
set_option maxRecDepth 20000 in
theorem kw_1127 : (Cond.methodLink RL 154 yX4_moment) ∈ mW := mtb_5 (List.mem_of_getElem? (i := 128) rfl) rfl
set_option maxRecDepth 20000 in
theorem kw_1128 : (Cond.instanceMethod yX4_moment) ∈ mW := mtb_5 (List.mem_of_getElem? (i := 129) rfl) rfl
set_option maxRecDepth 20000 in
theorem kw_1129 : (Cond.selects RX4 yX4_moment yX4_moment) ∈ mW := mtb_5 (List.mem_of_getElem? (i := 130) rfl) rfl
set_option maxRecDepth 20000 in
theorem kw_1131 : (Cond.constantLong RX4 96 (1000000000)) ∈ mW := mtb_5 (List.mem_of_getElem? (i := 132) rfl) rfl
set_option maxRecDepth 20000 in
theorem kw_1135 : (Cond.code yX4_become cX4_become 4 (some .int)) ∈ mW := mtb_5 (List.mem_of_getElem? (i := 136) rfl) rfl
set_option maxRecDepth 20000 in
theorem kw_1132 : (Cond.methodLink RX4 105 yX4_become) ∈ mW := mtb_5 (List.mem_of_getElem? (i := 133) rfl) rfl
set_option maxRecDepth 20000 in
theorem kw_1134 : (Cond.instanceMethod yX4_become) ∈ mW := mtb_5 (List.mem_of_getElem? (i := 135) rfl) rfl
set_option maxRecDepth 20000 in
theorem kw_26 : (Cond.selects RX4 yX4_become yX4_become) ∈ mW := mW_at 26 rfl rfl
set_option maxRecDepth 20000 in
theorem kw_1138 : (Cond.code yX4_whole cX4_whole 4 (some .long)) ∈ mW := mtb_5 (List.mem_of_getElem? (i := 139) rfl) rfl
set_option maxRecDepth 20000 in
theorem kw_1136 : (Cond.methodLink RX4 92 yX4_whole) ∈ mW := mtb_5 (List.mem_of_getElem? (i := 137) rfl) rfl
set_option maxRecDepth 20000 in
theorem kw_1137 : (Cond.static yX4_whole) ∈ mW := mtb_5 (List.mem_of_getElem? (i := 138) rfl) rfl
set_option maxRecDepth 20000 in
theorem kw_1139 : (Cond.constantLong RX4 98 (-1800000000)) ∈ mW := mtb_5 (List.mem_of_getElem? (i := 140) rfl) rfl
set_option maxRecDepth 20000 in
theorem kw_1140 : (Cond.constantLong RX4 100 (1800000000)) ∈ mW := mtb_5 (List.mem_of_getElem? (i := 141) rfl) rfl
set_option maxRecDepth 20000 in
theorem kw_1143 : (Cond.code yX4_rest cX4_rest 4 (some .int)) ∈ mW := mtb_5 (List.mem_of_getElem? (i := 144) rfl) rfl
set_option maxRecDepth 20000 in
theorem kw_1141 : (Cond.methodLink RX4 102 yX4_rest) ∈ mW := mtb_5 (List.mem_of_getElem? (i := 142) rfl) rfl
set_option maxRecDepth 20000 in
theorem kw_1142 : (Cond.static yX4_rest) ∈ mW := mtb_5 (List.mem_of_getElem? (i := 143) rfl) rfl
set_option maxRecDepth 20000 in
theorem kw_1147 : (Cond.code yX4_milli cX4_milli 4 (some .int)) ∈ mW := mtb_5 (List.mem_of_getElem? (i := 148) rfl) rfl
set_option maxRecDepth 20000 in
theorem kw_1144 : (Cond.methodLink RL 157 yX4_milli) ∈ mW := mtb_5 (List.mem_of_getElem? (i := 145) rfl) rfl
set_option maxRecDepth 20000 in
theorem kw_1145 : (Cond.instanceMethod yX4_milli) ∈ mW := mtb_5 (List.mem_of_getElem? (i := 146) rfl) rfl
set_option maxRecDepth 20000 in
theorem kw_1146 : (Cond.selects RX4 yX4_milli yX4_milli) ∈ mW := mtb_5 (List.mem_of_getElem? (i := 147) rfl) rfl
set_option maxRecDepth 20000 in
theorem kw_1148 : (Cond.constantLong RX4 109 (1000)) ∈ mW := mtb_5 (List.mem_of_getElem? (i := 149) rfl) rfl
set_option maxRecDepth 20000 in
theorem kw_1149 : (Cond.constantLong RX4 111 (1000000)) ∈ mW := mtb_5 (List.mem_of_getElem? (i := 150) rfl) rfl
set_option maxRecDepth 20000 in
theorem kw_1153 : (Cond.code yX4_move cX4_move 7 (some .int)) ∈ mW := mtb_5 (List.mem_of_getElem? (i := 154) rfl) rfl
set_option maxRecDepth 20000 in
theorem kw_1150 : (Cond.methodLink RL 161 yX4_move) ∈ mW := mtb_5 (List.mem_of_getElem? (i := 151) rfl) rfl
set_option maxRecDepth 20000 in
theorem kw_1151 : (Cond.instanceMethod yX4_move) ∈ mW := mtb_5 (List.mem_of_getElem? (i := 152) rfl) rfl
set_option maxRecDepth 20000 in
theorem kw_1152 : (Cond.selects RX4 yX4_move yX4_move) ∈ mW := mtb_5 (List.mem_of_getElem? (i := 153) rfl) rfl
set_option maxRecDepth 20000 in
theorem kw_1154 : (Cond.constantLong RX4 42 (2)) ∈ mW := mtb_5 (List.mem_of_getElem? (i := 155) rfl) rfl
set_option maxRecDepth 20000 in
theorem kw_1158 : (Cond.code yX4_momentOf cX4_momentOf 3 (some .int)) ∈ mW := mtb_5 (List.mem_of_getElem? (i := 159) rfl) rfl
set_option maxRecDepth 20000 in
theorem kw_1155 : (Cond.methodLink RL 168 yX4_momentOf) ∈ mW := mtb_5 (List.mem_of_getElem? (i := 156) rfl) rfl
set_option maxRecDepth 20000 in
theorem kw_1156 : (Cond.instanceMethod yX4_momentOf) ∈ mW := mtb_5 (List.mem_of_getElem? (i := 157) rfl) rfl
set_option maxRecDepth 20000 in
theorem kw_1157 : (Cond.selects RX4 yX4_momentOf yX4_momentOf) ∈ mW := mtb_5 (List.mem_of_getElem? (i := 158) rfl) rfl
set_option maxRecDepth 20000 in
theorem kw_1162 : (Cond.code yX4_number cX4_number 2 (some .long)) ∈ mW := mtb_5 (List.mem_of_getElem? (i := 163) rfl) rfl
set_option maxRecDepth 20000 in
theorem kw_1159 : (Cond.methodLink RX4 115 yX4_number) ∈ mW := mtb_5 (List.mem_of_getElem? (i := 160) rfl) rfl
set_option maxRecDepth 20000 in
theorem kw_1161 : (Cond.instanceMethod yX4_number) ∈ mW := mtb_5 (List.mem_of_getElem? (i := 162) rfl) rfl
set_option maxRecDepth 20000 in
theorem kw_27 : (Cond.selects RX4 yX4_number yX4_number) ∈ mW := mW_at 27 rfl rfl
set_option maxRecDepth 20000 in
theorem kw_1163 : (Cond.constantLong RX4 113 (86400)) ∈ mW := mtb_5 (List.mem_of_getElem? (i := 164) rfl) rfl
set_option maxRecDepth 20000 in
theorem kw_1167 : (Cond.code yX4_copyMoment cX4_copyMoment 3 (some .int)) ∈ mW := mtb_5 (List.mem_of_getElem? (i := 168) rfl) rfl
set_option maxRecDepth 20000 in
theorem kw_1164 : (Cond.methodLink RL 184 yX4_copyMoment) ∈ mW := mtb_5 (List.mem_of_getElem? (i := 165) rfl) rfl
set_option maxRecDepth 20000 in
theorem kw_1165 : (Cond.instanceMethod yX4_copyMoment) ∈ mW := mtb_5 (List.mem_of_getElem? (i := 166) rfl) rfl
set_option maxRecDepth 20000 in
theorem kw_1166 : (Cond.selects RX4 yX4_copyMoment yX4_copyMoment) ∈ mW := mtb_5 (List.mem_of_getElem? (i := 167) rfl) rfl
set_option maxRecDepth 20000 in
theorem kw_1171 : (Cond.code yX4_ofMoment cX4_ofMoment 3 (some .int)) ∈ mW := mtb_5 (List.mem_of_getElem? (i := 172) rfl) rfl
set_option maxRecDepth 20000 in
theorem kw_1168 : (Cond.methodLink RL 172 yX4_ofMoment) ∈ mW := mtb_5 (List.mem_of_getElem? (i := 169) rfl) rfl
set_option maxRecDepth 20000 in
theorem kw_1169 : (Cond.instanceMethod yX4_ofMoment) ∈ mW := mtb_5 (List.mem_of_getElem? (i := 170) rfl) rfl
set_option maxRecDepth 20000 in
theorem kw_1170 : (Cond.selects RX4 yX4_ofMoment yX4_ofMoment) ∈ mW := mtb_5 (List.mem_of_getElem? (i := 171) rfl) rfl
set_option maxRecDepth 20000 in
theorem kw_1175 : (Cond.code yX4_millis cX4_millis 2 (some (.object "java/lang/String"))) ∈ mW := mtb_5 (List.mem_of_getElem? (i := 176) rfl) rfl
set_option maxRecDepth 20000 in
theorem kw_1172 : (Cond.methodLink RL 175 yX4_millis) ∈ mW := mtb_5 (List.mem_of_getElem? (i := 173) rfl) rfl
set_option maxRecDepth 20000 in
theorem kw_1173 : (Cond.instanceMethod yX4_millis) ∈ mW := mtb_5 (List.mem_of_getElem? (i := 174) rfl) rfl
set_option maxRecDepth 20000 in
theorem kw_1174 : (Cond.selects RX4 yX4_millis yX4_millis) ∈ mW := mtb_5 (List.mem_of_getElem? (i := 175) rfl) rfl
set_option maxRecDepth 20000 in
theorem kw_1177 : (Cond.classLink RX4 121 "java/lang/StringBuilder") ∈ mW := mtb_5 (List.mem_of_getElem? (i := 178) rfl) rfl
set_option maxRecDepth 20000 in
theorem kw_1211 : (Cond.code yX4_orderMoment cX4_orderMoment 3 (some .int)) ∈ mW := mtb_5 (List.mem_of_getElem? (i := 212) rfl) rfl
set_option maxRecDepth 20000 in
theorem kw_1208 : (Cond.methodLink RL 178 yX4_orderMoment) ∈ mW := mtb_5 (List.mem_of_getElem? (i := 209) rfl) rfl
set_option maxRecDepth 20000 in
theorem kw_1209 : (Cond.instanceMethod yX4_orderMoment) ∈ mW := mtb_5 (List.mem_of_getElem? (i := 210) rfl) rfl
set_option maxRecDepth 20000 in
theorem kw_1210 : (Cond.selects RX4 yX4_orderMoment yX4_orderMoment) ∈ mW := mtb_5 (List.mem_of_getElem? (i := 211) rfl) rfl
set_option maxRecDepth 20000 in
theorem kw_1215 : (Cond.code yX4_isMoment cX4_isMoment 4 (some .boolean)) ∈ mW := mtb_5 (List.mem_of_getElem? (i := 216) rfl) rfl
set_option maxRecDepth 20000 in
theorem kw_1212 : (Cond.methodLink RL 181 yX4_isMoment) ∈ mW := mtb_5 (List.mem_of_getElem? (i := 213) rfl) rfl
set_option maxRecDepth 20000 in
theorem kw_1213 : (Cond.instanceMethod yX4_isMoment) ∈ mW := mtb_5 (List.mem_of_getElem? (i := 214) rfl) rfl
set_option maxRecDepth 20000 in
theorem kw_1214 : (Cond.selects RX4 yX4_isMoment yX4_isMoment) ∈ mW := mtb_5 (List.mem_of_getElem? (i := 215) rfl) rfl
set_option maxRecDepth 20000 in
theorem kw_1219 : (Cond.code yX4_date cX4_date 7 (some .int)) ∈ mW := mtb_5 (List.mem_of_getElem? (i := 220) rfl) rfl
set_option maxRecDepth 20000 in
theorem kw_1216 : (Cond.methodLink RL 188 yX4_date) ∈ mW := mtb_5 (List.mem_of_getElem? (i := 217) rfl) rfl
set_option maxRecDepth 20000 in
theorem kw_1217 : (Cond.instanceMethod yX4_date) ∈ mW := mtb_5 (List.mem_of_getElem? (i := 218) rfl) rfl
set_option maxRecDepth 20000 in
theorem kw_1218 : (Cond.selects RX4 yX4_date yX4_date) ∈ mW := mtb_5 (List.mem_of_getElem? (i := 219) rfl) rfl
set_option maxRecDepth 20000 in
theorem kw_1220 : (Cond.constantLong RX4 153 (9999)) ∈ mW := mtb_5 (List.mem_of_getElem? (i := 221) rfl) rfl
set_option maxRecDepth 20000 in
theorem kw_1223 : (Cond.code yX4_isTime cX4_isTime 2 (some .boolean)) ∈ mW := mtb_5 (List.mem_of_getElem? (i := 224) rfl) rfl
set_option maxRecDepth 20000 in
theorem kw_1221 : (Cond.methodLink RX4 155 yX4_isTime) ∈ mW := mtb_5 (List.mem_of_getElem? (i := 222) rfl) rfl
set_option maxRecDepth 20000 in
theorem kw_1222 : (Cond.static yX4_isTime) ∈ mW := mtb_5 (List.mem_of_getElem? (i := 223) rfl) rfl
set_option maxRecDepth 20000 in
theorem kw_1224 : (Cond.constantLong RX4 143 (86399)) ∈ mW := mtb_5 (List.mem_of_getElem? (i := 225) rfl) rfl
set_option maxRecDepth 20000 in
theorem kw_1225 : (Cond.constantLong RX4 145 (999999999)) ∈ mW := mtb_5 (List.mem_of_getElem? (i := 226) rfl) rfl
set_option maxRecDepth 20000 in
theorem kw_1228 : (Cond.code yX4_isThere cX4_isThere 3 (some .boolean)) ∈ mW := mtb_5 (List.mem_of_getElem? (i := 229) rfl) rfl
set_option maxRecDepth 20000 in
theorem kw_1226 : (Cond.methodLink RX4 159 yX4_isThere) ∈ mW := mtb_5 (List.mem_of_getElem? (i := 227) rfl) rfl
set_option maxRecDepth 20000 in
theorem kw_1227 : (Cond.static yX4_isThere) ∈ mW := mtb_5 (List.mem_of_getElem? (i := 228) rfl) rfl
set_option maxRecDepth 20000 in
theorem kw_1229 : (Cond.constantLong RX4 147 (1910)) ∈ mW := mtb_5 (List.mem_of_getElem? (i := 230) rfl) rfl
set_option maxRecDepth 20000 in
theorem kw_1230 : (Cond.constantLong RX4 149 (2030)) ∈ mW := mtb_5 (List.mem_of_getElem? (i := 231) rfl) rfl
set_option maxRecDepth 20000 in
theorem kw_1231 : (Cond.constantLong RX4 151 (12)) ∈ mW := mtb_5 (List.mem_of_getElem? (i := 232) rfl) rfl
set_option maxRecDepth 20000 in
theorem kw_1234 : (Cond.code yX4_daysOf cX4_daysOf 2 (some .int)) ∈ mW := mtb_5 (List.mem_of_getElem? (i := 235) rfl) rfl
set_option maxRecDepth 20000 in
theorem kw_1232 : (Cond.methodLink RX4 55 yX4_daysOf) ∈ mW := mtb_5 (List.mem_of_getElem? (i := 233) rfl) rfl
set_option maxRecDepth 20000 in
theorem kw_1233 : (Cond.static yX4_daysOf) ∈ mW := mtb_5 (List.mem_of_getElem? (i := 234) rfl) rfl
set_option maxRecDepth 20000 in
theorem kw_1237 : (Cond.code yX4_isLeap cX4_isLeap 1 (some .boolean)) ∈ mW := mtb_5 (List.mem_of_getElem? (i := 238) rfl) rfl
set_option maxRecDepth 20000 in
theorem kw_1235 : (Cond.methodLink RX4 44 yX4_isLeap) ∈ mW := mtb_5 (List.mem_of_getElem? (i := 236) rfl) rfl
set_option maxRecDepth 20000 in
theorem kw_1236 : (Cond.static yX4_isLeap) ∈ mW := mtb_5 (List.mem_of_getElem? (i := 237) rfl) rfl
set_option maxRecDepth 20000 in
theorem kw_1240 : (Cond.code yX4_dayOf cX4_dayOf 5 (some .int)) ∈ mW := mtb_6 (List.mem_of_getElem? (i := 1) rfl) rfl
set_option maxRecDepth 20000 in
theorem kw_1238 : (Cond.methodLink RX4 163 yX4_dayOf) ∈ mW := mtb_5 (List.mem_of_getElem? (i := 239) rfl) rfl
set_option maxRecDepth 20000 in
theorem kw_1239 : (Cond.static yX4_dayOf) ∈ mW := mtb_6 (List.mem_of_getElem? (i := 0) rfl) rfl
set_option maxRecDepth 20000 in
theorem kw_1243 : (Cond.code yX4_firstOf cX4_firstOf 3 (some .int)) ∈ mW := mtb_6 (List.mem_of_getElem? (i := 4) rfl) rfl
set_option maxRecDepth 20000 in
theorem kw_1241 : (Cond.methodLink RX4 52 yX4_firstOf) ∈ mW := mtb_6 (List.mem_of_getElem? (i := 2) rfl) rfl
set_option maxRecDepth 20000 in
theorem kw_1242 : (Cond.static yX4_firstOf) ∈ mW := mtb_6 (List.mem_of_getElem? (i := 3) rfl) rfl
set_option maxRecDepth 20000 in
theorem kw_1246 : (Cond.code yX4_daysOf_ cX4_daysOf_ 1 (some .int)) ∈ mW := mtb_6 (List.mem_of_getElem? (i := 7) rfl) rfl
set_option maxRecDepth 20000 in
theorem kw_1244 : (Cond.methodLink RX4 48 yX4_daysOf_) ∈ mW := mtb_6 (List.mem_of_getElem? (i := 5) rfl) rfl
set_option maxRecDepth 20000 in
theorem kw_1245 : (Cond.static yX4_daysOf_) ∈ mW := mtb_6 (List.mem_of_getElem? (i := 6) rfl) rfl
set_option maxRecDepth 20000 in
theorem kw_1250 : (Cond.code yX4_put cX4_put 6 (some .int)) ∈ mW := mtb_6 (List.mem_of_getElem? (i := 11) rfl) rfl
set_option maxRecDepth 20000 in
theorem kw_1247 : (Cond.methodLink RX4 139 yX4_put) ∈ mW := mtb_6 (List.mem_of_getElem? (i := 8) rfl) rfl
set_option maxRecDepth 20000 in
theorem kw_1249 : (Cond.instanceMethod yX4_put) ∈ mW := mtb_6 (List.mem_of_getElem? (i := 10) rfl) rfl
set_option maxRecDepth 20000 in
theorem kw_28 : (Cond.selects RX4 yX4_put yX4_put) ∈ mW := mW_at 28 rfl rfl
set_option maxRecDepth 20000 in
theorem kw_1254 : (Cond.code yX4_dateOf cX4_dateOf 4 (some .int)) ∈ mW := mtb_6 (List.mem_of_getElem? (i := 15) rfl) rfl
set_option maxRecDepth 20000 in
theorem kw_1251 : (Cond.methodLink RL 191 yX4_dateOf) ∈ mW := mtb_6 (List.mem_of_getElem? (i := 12) rfl) rfl
set_option maxRecDepth 20000 in
theorem kw_1252 : (Cond.instanceMethod yX4_dateOf) ∈ mW := mtb_6 (List.mem_of_getElem? (i := 13) rfl) rfl
set_option maxRecDepth 20000 in
theorem kw_1253 : (Cond.selects RX4 yX4_dateOf yX4_dateOf) ∈ mW := mtb_6 (List.mem_of_getElem? (i := 14) rfl) rfl
set_option maxRecDepth 20000 in
theorem kw_1258 : (Cond.code yX4_put_ cX4_put_ 10 (some .int)) ∈ mW := mtb_6 (List.mem_of_getElem? (i := 19) rfl) rfl
set_option maxRecDepth 20000 in
theorem kw_1255 : (Cond.methodLink RX4 167 yX4_put_) ∈ mW := mtb_6 (List.mem_of_getElem? (i := 16) rfl) rfl
set_option maxRecDepth 20000 in
theorem kw_1257 : (Cond.instanceMethod yX4_put_) ∈ mW := mtb_6 (List.mem_of_getElem? (i := 18) rfl) rfl
set_option maxRecDepth 20000 in
theorem kw_29 : (Cond.selects RX4 yX4_put_ yX4_put_) ∈ mW := mW_at 29 rfl rfl
set_option maxRecDepth 20000 in
theorem kw_1261 : (Cond.code yX4_isDay cX4_isDay 2 (some .boolean)) ∈ mW := mtb_6 (List.mem_of_getElem? (i := 22) rfl) rfl
set_option maxRecDepth 20000 in
theorem kw_1259 : (Cond.methodLink RX4 135 yX4_isDay) ∈ mW := mtb_6 (List.mem_of_getElem? (i := 20) rfl) rfl
set_option maxRecDepth 20000 in
theorem kw_1260 : (Cond.static yX4_isDay) ∈ mW := mtb_6 (List.mem_of_getElem? (i := 21) rfl) rfl
set_option maxRecDepth 20000 in
theorem kw_1265 : (Cond.code yX4_moveDate cX4_moveDate 9 (some .int)) ∈ mW := mtb_6 (List.mem_of_getElem? (i := 26) rfl) rfl
set_option maxRecDepth 20000 in
theorem kw_1262 : (Cond.methodLink RL 194 yX4_moveDate) ∈ mW := mtb_6 (List.mem_of_getElem? (i := 23) rfl) rfl
set_option maxRecDepth 20000 in
theorem kw_1263 : (Cond.instanceMethod yX4_moveDate) ∈ mW := mtb_6 (List.mem_of_getElem? (i := 24) rfl) rfl
set_option maxRecDepth 20000 in
theorem kw_1264 : (Cond.selects RX4 yX4_moveDate yX4_moveDate) ∈ mW := mtb_6 (List.mem_of_getElem? (i := 25) rfl) rfl
set_option maxRecDepth 20000 in
theorem kw_1266 : (Cond.constantLong RX4 183 (7)) ∈ mW := mtb_6 (List.mem_of_getElem? (i := 27) rfl) rfl
set_option maxRecDepth 20000 in
theorem kw_1270 : (Cond.code yX4_moveMonths cX4_moveMonths 9 (some .int)) ∈ mW := mtb_6 (List.mem_of_getElem? (i := 31) rfl) rfl
set_option maxRecDepth 20000 in
theorem kw_1267 : (Cond.methodLink RX4 185 yX4_moveMonths) ∈ mW := mtb_6 (List.mem_of_getElem? (i := 28) rfl) rfl
set_option maxRecDepth 20000 in
theorem kw_1269 : (Cond.instanceMethod yX4_moveMonths) ∈ mW := mtb_6 (List.mem_of_getElem? (i := 30) rfl) rfl
set_option maxRecDepth 20000 in
theorem kw_30 : (Cond.selects RX4 yX4_moveMonths yX4_moveMonths) ∈ mW := mW_at 30 rfl rfl
set_option maxRecDepth 20000 in
theorem kw_1273 : (Cond.code yX4_parts cX4_parts 5 (some (.array .int))) ∈ mW := mtb_6 (List.mem_of_getElem? (i := 34) rfl) rfl
set_option maxRecDepth 20000 in
theorem kw_1271 : (Cond.methodLink RX4 170 yX4_parts) ∈ mW := mtb_6 (List.mem_of_getElem? (i := 32) rfl) rfl
set_option maxRecDepth 20000 in
theorem kw_1272 : (Cond.static yX4_parts) ∈ mW := mtb_6 (List.mem_of_getElem? (i := 33) rfl) rfl
set_option maxRecDepth 20000 in
theorem kw_1276 : (Cond.code yX4_yearOf cX4_yearOf 3 (some .int)) ∈ mW := mtb_6 (List.mem_of_getElem? (i := 37) rfl) rfl
set_option maxRecDepth 20000 in
theorem kw_1274 : (Cond.methodLink RX4 58 yX4_yearOf) ∈ mW := mtb_6 (List.mem_of_getElem? (i := 35) rfl) rfl
set_option maxRecDepth 20000 in
theorem kw_1275 : (Cond.static yX4_yearOf) ∈ mW := mtb_6 (List.mem_of_getElem? (i := 36) rfl) rfl
set_option maxRecDepth 20000 in
theorem kw_1280 : (Cond.code yX4_putDay cX4_putDay 5 (some .int)) ∈ mW := mtb_6 (List.mem_of_getElem? (i := 41) rfl) rfl
set_option maxRecDepth 20000 in
theorem kw_1277 : (Cond.methodLink RX4 174 yX4_putDay) ∈ mW := mtb_6 (List.mem_of_getElem? (i := 38) rfl) rfl
set_option maxRecDepth 20000 in
theorem kw_1279 : (Cond.instanceMethod yX4_putDay) ∈ mW := mtb_6 (List.mem_of_getElem? (i := 40) rfl) rfl
set_option maxRecDepth 20000 in
theorem kw_31 : (Cond.selects RX4 yX4_putDay yX4_putDay) ∈ mW := mW_at 31 rfl rfl
set_option maxRecDepth 20000 in
theorem kw_1281 : (Cond.methodLink RX4 178 yJ9_min_7cf53) ∈ mW := mtb_6 (List.mem_of_getElem? (i := 42) rfl) rfl
set_option maxRecDepth 20000 in
theorem kw_1284 : (Cond.code yX4_secondsOf cX4_secondsOf 1 (some .int)) ∈ mW := mtb_6 (List.mem_of_getElem? (i := 45) rfl) rfl
set_option maxRecDepth 20000 in
theorem kw_1282 : (Cond.methodLink RX4 188 yX4_secondsOf) ∈ mW := mtb_6 (List.mem_of_getElem? (i := 43) rfl) rfl
set_option maxRecDepth 20000 in
theorem kw_1283 : (Cond.static yX4_secondsOf) ∈ mW := mtb_6 (List.mem_of_getElem? (i := 44) rfl) rfl
set_option maxRecDepth 20000 in
theorem kw_1288 : (Cond.code yX4_set cX4_set 6 (some .int)) ∈ mW := mtb_6 (List.mem_of_getElem? (i := 49) rfl) rfl
set_option maxRecDepth 20000 in
theorem kw_1285 : (Cond.methodLink RL 197 yX4_set) ∈ mW := mtb_6 (List.mem_of_getElem? (i := 46) rfl) rfl
set_option maxRecDepth 20000 in
theorem kw_1286 : (Cond.instanceMethod yX4_set) ∈ mW := mtb_6 (List.mem_of_getElem? (i := 47) rfl) rfl
set_option maxRecDepth 20000 in
theorem kw_1287 : (Cond.selects RX4 yX4_set yX4_set) ∈ mW := mtb_6 (List.mem_of_getElem? (i := 48) rfl) rfl
set_option maxRecDepth 20000 in
theorem kw_1289 : (Cond.constantLong RX4 191 (23)) ∈ mW := mtb_6 (List.mem_of_getElem? (i := 50) rfl) rfl
set_option maxRecDepth 20000 in
theorem kw_1293 : (Cond.code yX4_anew cX4_anew 5 (some .int)) ∈ mW := mtb_6 (List.mem_of_getElem? (i := 54) rfl) rfl
set_option maxRecDepth 20000 in
theorem kw_1290 : (Cond.methodLink RL 201 yX4_anew) ∈ mW := mtb_6 (List.mem_of_getElem? (i := 51) rfl) rfl
set_option maxRecDepth 20000 in
theorem kw_1291 : (Cond.instanceMethod yX4_anew) ∈ mW := mtb_6 (List.mem_of_getElem? (i := 52) rfl) rfl
set_option maxRecDepth 20000 in
theorem kw_1292 : (Cond.selects RX4 yX4_anew yX4_anew) ∈ mW := mtb_6 (List.mem_of_getElem? (i := 53) rfl) rfl
set_option maxRecDepth 20000 in
theorem kw_1297 : (Cond.code yX4_copy cX4_copy 3 (some .int)) ∈ mW := mtb_6 (List.mem_of_getElem? (i := 58) rfl) rfl
set_option maxRecDepth 20000 in
theorem kw_1294 : (Cond.methodLink RL 204 yX4_copy) ∈ mW := mtb_6 (List.mem_of_getElem? (i := 55) rfl) rfl
set_option maxRecDepth 20000 in
theorem kw_1295 : (Cond.instanceMethod yX4_copy) ∈ mW := mtb_6 (List.mem_of_getElem? (i := 56) rfl) rfl
set_option maxRecDepth 20000 in
theorem kw_1296 : (Cond.selects RX4 yX4_copy yX4_copy) ∈ mW := mtb_6 (List.mem_of_getElem? (i := 57) rfl) rfl
set_option maxRecDepth 20000 in
theorem kw_1301 : (Cond.code yX4_ofDate cX4_ofDate 3 (some .int)) ∈ mW := mtb_6 (List.mem_of_getElem? (i := 62) rfl) rfl
set_option maxRecDepth 20000 in
theorem kw_1298 : (Cond.methodLink RL 207 yX4_ofDate) ∈ mW := mtb_6 (List.mem_of_getElem? (i := 59) rfl) rfl
set_option maxRecDepth 20000 in
theorem kw_1299 : (Cond.instanceMethod yX4_ofDate) ∈ mW := mtb_6 (List.mem_of_getElem? (i := 60) rfl) rfl
set_option maxRecDepth 20000 in
theorem kw_1300 : (Cond.selects RX4 yX4_ofDate yX4_ofDate) ∈ mW := mtb_6 (List.mem_of_getElem? (i := 61) rfl) rfl
set_option maxRecDepth 20000 in
theorem kw_1305 : (Cond.code yX4_told cX4_told 4 (some .int)) ∈ mW := mtb_6 (List.mem_of_getElem? (i := 66) rfl) rfl
set_option maxRecDepth 20000 in
theorem kw_1302 : (Cond.methodLink RX4 193 yX4_told) ∈ mW := mtb_6 (List.mem_of_getElem? (i := 63) rfl) rfl
set_option maxRecDepth 20000 in
theorem kw_1304 : (Cond.instanceMethod yX4_told) ∈ mW := mtb_6 (List.mem_of_getElem? (i := 65) rfl) rfl
set_option maxRecDepth 20000 in
theorem kw_32 : (Cond.selects RX4 yX4_told yX4_told) ∈ mW := mW_at 32 rfl rfl
set_option maxRecDepth 20000 in
theorem kw_1309 : (Cond.code yX4_orderDate cX4_orderDate 3 (some .int)) ∈ mW := mtb_6 (List.mem_of_getElem? (i := 70) rfl) rfl
set_option maxRecDepth 20000 in
theorem kw_1306 : (Cond.methodLink RL 210 yX4_orderDate) ∈ mW := mtb_6 (List.mem_of_getElem? (i := 67) rfl) rfl
set_option maxRecDepth 20000 in
theorem kw_1307 : (Cond.instanceMethod yX4_orderDate) ∈ mW := mtb_6 (List.mem_of_getElem? (i := 68) rfl) rfl
set_option maxRecDepth 20000 in
theorem kw_1308 : (Cond.selects RX4 yX4_orderDate yX4_orderDate) ∈ mW := mtb_6 (List.mem_of_getElem? (i := 69) rfl) rfl
set_option maxRecDepth 20000 in
theorem kw_1313 : (Cond.code yX4_ordered cX4_ordered 3 (some .int)) ∈ mW := mtb_6 (List.mem_of_getElem? (i := 74) rfl) rfl
set_option maxRecDepth 20000 in
theorem kw_1310 : (Cond.methodLink RX4 196 yX4_ordered) ∈ mW := mtb_6 (List.mem_of_getElem? (i := 71) rfl) rfl
set_option maxRecDepth 20000 in
theorem kw_1312 : (Cond.instanceMethod yX4_ordered) ∈ mW := mtb_6 (List.mem_of_getElem? (i := 73) rfl) rfl
set_option maxRecDepth 20000 in
theorem kw_33 : (Cond.selects RX4 yX4_ordered yX4_ordered) ∈ mW := mW_at 33 rfl rfl
set_option maxRecDepth 20000 in
theorem kw_1317 : (Cond.code yX4_isDate cX4_isDate 4 (some .boolean)) ∈ mW := mtb_6 (List.mem_of_getElem? (i := 78) rfl) rfl
set_option maxRecDepth 20000 in
theorem kw_1314 : (Cond.methodLink RL 213 yX4_isDate) ∈ mW := mtb_6 (List.mem_of_getElem? (i := 75) rfl) rfl
set_option maxRecDepth 20000 in
theorem kw_1315 : (Cond.instanceMethod yX4_isDate) ∈ mW := mtb_6 (List.mem_of_getElem? (i := 76) rfl) rfl
set_option maxRecDepth 20000 in
theorem kw_1316 : (Cond.selects RX4 yX4_isDate yX4_isDate) ∈ mW := mtb_6 (List.mem_of_getElem? (i := 77) rfl) rfl
set_option maxRecDepth 20000 in
theorem kw_1321 : (Cond.code yX4_is cX4_is 4 (some .boolean)) ∈ mW := mtb_6 (List.mem_of_getElem? (i := 82) rfl) rfl
set_option maxRecDepth 20000 in
theorem kw_1318 : (Cond.methodLink RX4 199 yX4_is) ∈ mW := mtb_6 (List.mem_of_getElem? (i := 79) rfl) rfl
set_option maxRecDepth 20000 in
theorem kw_1320 : (Cond.instanceMethod yX4_is) ∈ mW := mtb_6 (List.mem_of_getElem? (i := 81) rfl) rfl
set_option maxRecDepth 20000 in
theorem kw_34 : (Cond.selects RX4 yX4_is yX4_is) ∈ mW := mW_at 34 rfl rfl
set_option maxRecDepth 20000 in
theorem kw_1325 : (Cond.code yX4_clock cX4_clock 5 (some .int)) ∈ mW := mtb_6 (List.mem_of_getElem? (i := 86) rfl) rfl
set_option maxRecDepth 20000 in
theorem kw_1322 : (Cond.methodLink RL 216 yX4_clock) ∈ mW := mtb_6 (List.mem_of_getElem? (i := 83) rfl) rfl
set_option maxRecDepth 20000 in
theorem kw_1323 : (Cond.instanceMethod yX4_clock) ∈ mW := mtb_6 (List.mem_of_getElem? (i := 84) rfl) rfl
set_option maxRecDepth 20000 in
theorem kw_1324 : (Cond.selects RX4 yX4_clock yX4_clock) ∈ mW := mtb_6 (List.mem_of_getElem? (i := 85) rfl) rfl
set_option maxRecDepth 20000 in
theorem kw_1328 : (Cond.code yX4_isNoClock cX4_isNoClock 1 (some .boolean)) ∈ mW := mtb_6 (List.mem_of_getElem? (i := 89) rfl) rfl
set_option maxRecDepth 20000 in
theorem kw_1326 : (Cond.methodLink RX4 205 yX4_isNoClock) ∈ mW := mtb_6 (List.mem_of_getElem? (i := 87) rfl) rfl
set_option maxRecDepth 20000 in
theorem kw_1327 : (Cond.static yX4_isNoClock) ∈ mW := mtb_6 (List.mem_of_getElem? (i := 88) rfl) rfl
set_option maxRecDepth 20000 in
theorem kw_1332 : (Cond.code yX4_turn cX4_turn 6 (some .int)) ∈ mW := mtb_6 (List.mem_of_getElem? (i := 93) rfl) rfl
set_option maxRecDepth 20000 in
theorem kw_1329 : (Cond.methodLink RX4 208 yX4_turn) ∈ mW := mtb_6 (List.mem_of_getElem? (i := 90) rfl) rfl
set_option maxRecDepth 20000 in
theorem kw_1331 : (Cond.instanceMethod yX4_turn) ∈ mW := mtb_6 (List.mem_of_getElem? (i := 92) rfl) rfl
set_option maxRecDepth 20000 in
theorem kw_35 : (Cond.selects RX4 yX4_turn yX4_turn) ∈ mW := mW_at 35 rfl rfl
set_option maxRecDepth 20000 in
theorem kw_1336 : (Cond.code yX4_ofSecond cX4_ofSecond 2 (some .int)) ∈ mW := mtb_6 (List.mem_of_getElem? (i := 97) rfl) rfl
set_option maxRecDepth 20000 in
theorem kw_1333 : (Cond.methodLink RX4 202 yX4_ofSecond) ∈ mW := mtb_6 (List.mem_of_getElem? (i := 94) rfl) rfl
set_option maxRecDepth 20000 in
theorem kw_1335 : (Cond.instanceMethod yX4_ofSecond) ∈ mW := mtb_6 (List.mem_of_getElem? (i := 96) rfl) rfl
set_option maxRecDepth 20000 in
theorem kw_36 : (Cond.selects RX4 yX4_ofSecond yX4_ofSecond) ∈ mW := mW_at 36 rfl rfl
set_option maxRecDepth 20000 in
theorem kw_1340 : (Cond.code yX4_clockOf cX4_clockOf 3 (some .int)) ∈ mW := mtb_6 (List.mem_of_getElem? (i := 101) rfl) rfl
set_option maxRecDepth 20000 in
theorem kw_1337 : (Cond.methodLink RL 219 yX4_clockOf) ∈ mW := mtb_6 (List.mem_of_getElem? (i := 98) rfl) rfl
set_option maxRecDepth 20000 in
theorem kw_1338 : (Cond.instanceMethod yX4_clockOf) ∈ mW := mtb_6 (List.mem_of_getElem? (i := 99) rfl) rfl
set_option maxRecDepth 20000 in
theorem kw_1339 : (Cond.selects RX4 yX4_clockOf yX4_clockOf) ∈ mW := mtb_6 (List.mem_of_getElem? (i := 100) rfl) rfl
set_option maxRecDepth 20000 in
theorem kw_1344 : (Cond.code yX4_copyClock cX4_copyClock 3 (some .int)) ∈ mW := mtb_6 (List.mem_of_getElem? (i := 105) rfl) rfl
set_option maxRecDepth 20000 in
theorem kw_1341 : (Cond.methodLink RL 231 yX4_copyClock) ∈ mW := mtb_6 (List.mem_of_getElem? (i := 102) rfl) rfl
set_option maxRecDepth 20000 in
theorem kw_1342 : (Cond.instanceMethod yX4_copyClock) ∈ mW := mtb_6 (List.mem_of_getElem? (i := 103) rfl) rfl
set_option maxRecDepth 20000 in
theorem kw_1343 : (Cond.selects RX4 yX4_copyClock yX4_copyClock) ∈ mW := mtb_6 (List.mem_of_getElem? (i := 104) rfl) rfl
set_option maxRecDepth 20000 in
theorem kw_1348 : (Cond.code yX4_strike cX4_strike 3 (some .int)) ∈ mW := mtb_6 (List.mem_of_getElem? (i := 109) rfl) rfl
set_option maxRecDepth 20000 in
theorem kw_1345 : (Cond.methodLink RL 222 yX4_strike) ∈ mW := mtb_6 (List.mem_of_getElem? (i := 106) rfl) rfl
set_option maxRecDepth 20000 in
theorem kw_1346 : (Cond.instanceMethod yX4_strike) ∈ mW := mtb_6 (List.mem_of_getElem? (i := 107) rfl) rfl
set_option maxRecDepth 20000 in
theorem kw_1347 : (Cond.selects RX4 yX4_strike yX4_strike) ∈ mW := mtb_6 (List.mem_of_getElem? (i := 108) rfl) rfl
set_option maxRecDepth 20000 in
theorem kw_1352 : (Cond.code yX4_moveClock cX4_moveClock 9 (some .int)) ∈ mW := mtb_6 (List.mem_of_getElem? (i := 113) rfl) rfl
set_option maxRecDepth 20000 in
theorem kw_1349 : (Cond.methodLink RL 225 yX4_moveClock) ∈ mW := mtb_6 (List.mem_of_getElem? (i := 110) rfl) rfl
set_option maxRecDepth 20000 in
theorem kw_1350 : (Cond.instanceMethod yX4_moveClock) ∈ mW := mtb_6 (List.mem_of_getElem? (i := 111) rfl) rfl
set_option maxRecDepth 20000 in
theorem kw_1351 : (Cond.selects RX4 yX4_moveClock yX4_moveClock) ∈ mW := mtb_6 (List.mem_of_getElem? (i := 112) rfl) rfl
set_option maxRecDepth 20000 in
theorem kw_1353 : (Cond.constantLong RX4 212 (4)) ∈ mW := mtb_6 (List.mem_of_getElem? (i := 114) rfl) rfl
set_option maxRecDepth 20000 in
theorem kw_1357 : (Cond.code yX4_anewClock cX4_anewClock 5 (some .int)) ∈ mW := mtb_6 (List.mem_of_getElem? (i := 118) rfl) rfl
set_option maxRecDepth 20000 in
theorem kw_1354 : (Cond.methodLink RL 228 yX4_anewClock) ∈ mW := mtb_6 (List.mem_of_getElem? (i := 115) rfl) rfl
set_option maxRecDepth 20000 in
theorem kw_1355 : (Cond.instanceMethod yX4_anewClock) ∈ mW := mtb_6 (List.mem_of_getElem? (i := 116) rfl) rfl
set_option maxRecDepth 20000 in
theorem kw_1356 : (Cond.selects RX4 yX4_anewClock yX4_anewClock) ∈ mW := mtb_6 (List.mem_of_getElem? (i := 117) rfl) rfl
set_option maxRecDepth 20000 in
theorem kw_1361 : (Cond.code yX4_ofClock cX4_ofClock 3 (some .int)) ∈ mW := mtb_6 (List.mem_of_getElem? (i := 122) rfl) rfl
set_option maxRecDepth 20000 in
theorem kw_1358 : (Cond.methodLink RL 234 yX4_ofClock) ∈ mW := mtb_6 (List.mem_of_getElem? (i := 119) rfl) rfl
set_option maxRecDepth 20000 in
theorem kw_1359 : (Cond.instanceMethod yX4_ofClock) ∈ mW := mtb_6 (List.mem_of_getElem? (i := 120) rfl) rfl
set_option maxRecDepth 20000 in
theorem kw_1360 : (Cond.selects RX4 yX4_ofClock yX4_ofClock) ∈ mW := mtb_6 (List.mem_of_getElem? (i := 121) rfl) rfl
set_option maxRecDepth 20000 in
theorem kw_1362 : (Cond.constantLong RX4 214 (5)) ∈ mW := mtb_6 (List.mem_of_getElem? (i := 123) rfl) rfl
set_option maxRecDepth 20000 in
theorem kw_1366 : (Cond.code yX4_clockTold cX4_clockTold 3 (some .int)) ∈ mW := mtb_6 (List.mem_of_getElem? (i := 127) rfl) rfl
set_option maxRecDepth 20000 in
theorem kw_1363 : (Cond.methodLink RX4 216 yX4_clockTold) ∈ mW := mtb_6 (List.mem_of_getElem? (i := 124) rfl) rfl
set_option maxRecDepth 20000 in
theorem kw_1365 : (Cond.instanceMethod yX4_clockTold) ∈ mW := mtb_6 (List.mem_of_getElem? (i := 126) rfl) rfl
set_option maxRecDepth 20000 in
theorem kw_37 : (Cond.selects RX4 yX4_clockTold yX4_clockTold) ∈ mW := mW_at 37 rfl rfl
set_option maxRecDepth 20000 in
theorem kw_1370 : (Cond.code yX4_orderClock cX4_orderClock 3 (some .int)) ∈ mW := mtb_6 (List.mem_of_getElem? (i := 131) rfl) rfl
set_option maxRecDepth 20000 in
theorem kw_1367 : (Cond.methodLink RL 237 yX4_orderClock) ∈ mW := mtb_6 (List.mem_of_getElem? (i := 128) rfl) rfl
set_option maxRecDepth 20000 in
theorem kw_1368 : (Cond.instanceMethod yX4_orderClock) ∈ mW := mtb_6 (List.mem_of_getElem? (i := 129) rfl) rfl
set_option maxRecDepth 20000 in
theorem kw_1369 : (Cond.selects RX4 yX4_orderClock yX4_orderClock) ∈ mW := mtb_6 (List.mem_of_getElem? (i := 130) rfl) rfl
set_option maxRecDepth 20000 in
theorem kw_1374 : (Cond.code yX4_isClock cX4_isClock 4 (some .boolean)) ∈ mW := mtb_6 (List.mem_of_getElem? (i := 135) rfl) rfl
set_option maxRecDepth 20000 in
theorem kw_1371 : (Cond.methodLink RL 240 yX4_isClock) ∈ mW := mtb_6 (List.mem_of_getElem? (i := 132) rfl) rfl
set_option maxRecDepth 20000 in
theorem kw_1372 : (Cond.instanceMethod yX4_isClock) ∈ mW := mtb_6 (List.mem_of_getElem? (i := 133) rfl) rfl
set_option maxRecDepth 20000 in
theorem kw_1373 : (Cond.selects RX4 yX4_isClock yX4_isClock) ∈ mW := mtb_6 (List.mem_of_getElem? (i := 134) rfl) rfl
set_option maxRecDepth 20000 in
theorem kw_1378 : (Cond.code yX4_knock cX4_knock 1 (some .int)) ∈ mW := mtb_6 (List.mem_of_getElem? (i := 139) rfl) rfl
set_option maxRecDepth 20000 in
theorem kw_1375 : (Cond.methodLink RL 244 yX4_knock) ∈ mW := mtb_6 (List.mem_of_getElem? (i := 136) rfl) rfl
set_option maxRecDepth 20000 in
theorem kw_1376 : (Cond.instanceMethod yX4_knock) ∈ mW := mtb_6 (List.mem_of_getElem? (i := 137) rfl) rfl
set_option maxRecDepth 20000 in
theorem kw_1377 : (Cond.selects RX4 yX4_knock yX4_knock) ∈ mW := mtb_6 (List.mem_of_getElem? (i := 138) rfl) rfl
set_option maxRecDepth 20000 in
theorem kw_1382 : (Cond.code yX4_house cX4_house 2 (some .int)) ∈ mW := mtb_6 (List.mem_of_getElem? (i := 143) rfl) rfl
set_option maxRecDepth 20000 in
theorem kw_1379 : (Cond.methodLink RL 247 yX4_house) ∈ mW := mtb_6 (List.mem_of_getElem? (i := 140) rfl) rfl
set_option maxRecDepth 20000 in
theorem kw_1380 : (Cond.instanceMethod yX4_house) ∈ mW := mtb_6 (List.mem_of_getElem? (i := 141) rfl) rfl
set_option maxRecDepth 20000 in
theorem kw_1381 : (Cond.selects RX4 yX4_house yX4_house) ∈ mW := mtb_6 (List.mem_of_getElem? (i := 142) rfl) rfl
set_option maxRecDepth 20000 in
theorem kw_1386 : (Cond.code yX4_houseTold cX4_houseTold 5 (some .int)) ∈ mW := mtb_6 (List.mem_of_getElem? (i := 147) rfl) rfl
set_option maxRecDepth 20000 in
theorem kw_1383 : (Cond.methodLink RX4 222 yX4_houseTold) ∈ mW := mtb_6 (List.mem_of_getElem? (i := 144) rfl) rfl
set_option maxRecDepth 20000 in
theorem kw_1385 : (Cond.instanceMethod yX4_houseTold) ∈ mW := mtb_6 (List.mem_of_getElem? (i := 146) rfl) rfl
set_option maxRecDepth 20000 in
theorem kw_38 : (Cond.selects RX4 yX4_houseTold yX4_houseTold) ∈ mW := mW_at 38 rfl rfl
set_option maxRecDepth 20000 in
theorem kw_1390 : (Cond.code yX4_isSound cX4_isSound 1 (some .boolean)) ∈ mW := mtb_6 (List.mem_of_getElem? (i := 151) rfl) rfl
set_option maxRecDepth 20000 in
theorem kw_1387 : (Cond.methodLink RL 252 yX4_isSound) ∈ mW := mtb_6 (List.mem_of_getElem? (i := 148) rfl) rfl
set_option maxRecDepth 20000 in
theorem kw_1388 : (Cond.instanceMethod yX4_isSound) ∈ mW := mtb_6 (List.mem_of_getElem? (i := 149) rfl) rfl
set_option maxRecDepth 20000 in
theorem kw_1389 : (Cond.selects RX4 yX4_isSound yX4_isSound) ∈ mW := mtb_6 (List.mem_of_getElem? (i := 150) rfl) rfl
set_option maxRecDepth 20000 in
theorem kw_1394 : (Cond.code yX4_digest cX4_digest 8 (some .long)) ∈ mW := mtb_6 (List.mem_of_getElem? (i := 155) rfl) rfl
set_option maxRecDepth 20000 in
theorem kw_1391 : (Cond.methodLink RL 257 yX4_digest) ∈ mW := mtb_6 (List.mem_of_getElem? (i := 152) rfl) rfl
set_option maxRecDepth 20000 in
theorem kw_1392 : (Cond.instanceMethod yX4_digest) ∈ mW := mtb_6 (List.mem_of_getElem? (i := 153) rfl) rfl
set_option maxRecDepth 20000 in
theorem kw_1393 : (Cond.selects RX4 yX4_digest yX4_digest) ∈ mW := mtb_6 (List.mem_of_getElem? (i := 154) rfl) rfl
set_option maxRecDepth 20000 in
theorem kw_1395 : (Cond.constantLong RX4 225 (6199)) ∈ mW := mtb_6 (List.mem_of_getElem? (i := 156) rfl) rfl
set_option maxRecDepth 20000 in
theorem kw_1396 : (Cond.constantLong RX4 227 (31)) ∈ mW := mtb_6 (List.mem_of_getElem? (i := 157) rfl) rfl
theorem nmh_0 : ("Momentdesk" : String) ≠ "java/lang/invoke/MethodHandle" ∧ ("Momentdesk" : String) ≠ "java/lang/invoke/VarHandle" := ⟨by decide +kernel, by decide +kernel⟩
theorem nmh_1 : ("java/lang/Math" : String) ≠ "java/lang/invoke/MethodHandle" ∧ ("java/lang/Math" : String) ≠ "java/lang/invoke/VarHandle" := ⟨by decide +kernel, by decide +kernel⟩
theorem nmh_2 : ("Momentdesk$Local" : String) ≠ "java/lang/invoke/MethodHandle" ∧ ("Momentdesk$Local" : String) ≠ "java/lang/invoke/VarHandle" := ⟨by decide +kernel, by decide +kernel⟩
theorem nmh_3 : ("Momentdesk$Calendar" : String) ≠ "java/lang/invoke/MethodHandle" ∧ ("Momentdesk$Calendar" : String) ≠ "java/lang/invoke/VarHandle" := ⟨by decide +kernel, by decide +kernel⟩
theorem nmh_4 : ("MomentdeskLaw" : String) ≠ "java/lang/invoke/MethodHandle" ∧ ("MomentdeskLaw" : String) ≠ "java/lang/invoke/VarHandle" := ⟨by decide +kernel, by decide +kernel⟩
theorem nmh_5 : ("MomentdeskModel" : String) ≠ "java/lang/invoke/MethodHandle" ∧ ("MomentdeskModel" : String) ≠ "java/lang/invoke/VarHandle" := ⟨by decide +kernel, by decide +kernel⟩
theorem pmd_0 : (parseMethodDescriptor "()I").map (fun d => d.parameters.length) = some 0 := by decide +kernel
theorem pmd_1 : (parseMethodDescriptor "()Z").map (fun d => d.parameters.length) = some 0 := by decide +kernel
theorem pmd_2 : (parseMethodDescriptor "(J)J").map (fun d => d.parameters.length) = some 1 := by decide +kernel
theorem pmd_3 : (parseMethodDescriptor "(JJ)J").map (fun d => d.parameters.length) = some 2 := by decide +kernel
theorem pmd_4 : (parseMethodDescriptor "(J)I").map (fun d => d.parameters.length) = some 1 := by decide +kernel
theorem pmd_5 : (parseMethodDescriptor "(JII)V").map (fun d => d.parameters.length) = some 3 := by decide +kernel
theorem pmd_6 : (parseMethodDescriptor "(LMomentdesk$Local;)J").map (fun d => d.parameters.length) = some 1 := by decide +kernel
theorem pmd_7 : (parseMethodDescriptor "()J").map (fun d => d.parameters.length) = some 0 := by decide +kernel
theorem pmd_8 : (parseMethodDescriptor "([LMomentdesk$Local;I)LMomentdesk$Local;").map (fun d => d.parameters.length) = some 2 := by decide +kernel
theorem pmd_9 : (parseMethodDescriptor "(LMomentdesk$Local;I)Z").map (fun d => d.parameters.length) = some 2 := by decide +kernel
theorem pmd_10 : (parseMethodDescriptor "(JJJ)Z").map (fun d => d.parameters.length) = some 3 := by decide +kernel
theorem pmd_11 : (parseMethodDescriptor "(LMomentdesk$Local;)Z").map (fun d => d.parameters.length) = some 1 := by decide +kernel
theorem pmd_12 : (parseMethodDescriptor "(LMomentdesk$Local;LMomentdesk$Local;)Z").map (fun d => d.parameters.length) = some 2 := by decide +kernel
theorem pmd_13 : (parseMethodDescriptor "(LMomentdesk$Local;)I").map (fun d => d.parameters.length) = some 1 := by decide +kernel
theorem pmd_14 : (parseMethodDescriptor "(JJ)I").map (fun d => d.parameters.length) = some 2 := by decide +kernel
theorem pmd_15 : (parseMethodDescriptor "(I)I").map (fun d => d.parameters.length) = some 1 := by decide +kernel
theorem pmd_16 : (parseMethodDescriptor "(II)V").map (fun d => d.parameters.length) = some 2 := by decide +kernel
theorem pmd_17 : (parseMethodDescriptor "(IZ)I").map (fun d => d.parameters.length) = some 2 := by decide +kernel
theorem pmd_18 : (parseMethodDescriptor "(LMomentdesk$Local;I)I").map (fun d => d.parameters.length) = some 2 := by decide +kernel
theorem pmd_19 : (parseMethodDescriptor "(II)I").map (fun d => d.parameters.length) = some 2 := by decide +kernel
theorem pmd_20 : (parseMethodDescriptor "(I)Z").map (fun d => d.parameters.length) = some 1 := by decide +kernel
theorem pmd_21 : (parseMethodDescriptor "(III)V").map (fun d => d.parameters.length) = some 3 := by decide +kernel
theorem pmd_22 : (parseMethodDescriptor "(LMomentdesk;IILMomentdeskLaw$Out;)I").map (fun d => d.parameters.length) = some 4 := by decide +kernel
theorem pmd_23 : (parseMethodDescriptor "(LMomentdesk;IIIILMomentdeskLaw$Out;)I").map (fun d => d.parameters.length) = some 6 := by decide +kernel
theorem pmd_24 : (parseMethodDescriptor "(IIII)I").map (fun d => d.parameters.length) = some 4 := by decide +kernel
theorem pmd_25 : (parseMethodDescriptor "(LMomentdesk;ILMomentdeskLaw$Out;)I").map (fun d => d.parameters.length) = some 3 := by decide +kernel
theorem pmd_26 : (parseMethodDescriptor "(LMomentdesk;IIILMomentdeskLaw$Out;)I").map (fun d => d.parameters.length) = some 5 := by decide +kernel
theorem pmd_27 : (parseMethodDescriptor "(III)I").map (fun d => d.parameters.length) = some 3 := by decide +kernel
theorem pmd_28 : (parseMethodDescriptor "(IJ)I").map (fun d => d.parameters.length) = some 2 := by decide +kernel
theorem pmd_29 : (parseMethodDescriptor "(LMomentdesk;IIIZLMomentdeskLaw$Out;)I").map (fun d => d.parameters.length) = some 6 := by decide +kernel
theorem pmd_30 : (parseMethodDescriptor "(IIIZ)I").map (fun d => d.parameters.length) = some 4 := by decide +kernel
theorem pmd_31 : (parseMethodDescriptor "(IZ)J").map (fun d => d.parameters.length) = some 2 := by decide +kernel
theorem pmd_32 : (parseMethodDescriptor "(LMomentdesk;IZLMomentdeskLaw$Out;)I").map (fun d => d.parameters.length) = some 4 := by decide +kernel
theorem pmd_33 : (parseMethodDescriptor "(I)Ljava/lang/String;").map (fun d => d.parameters.length) = some 1 := by decide +kernel
theorem pmd_34 : (parseMethodDescriptor "(J)Ljava/lang/String;").map (fun d => d.parameters.length) = some 1 := by decide +kernel
theorem pmd_35 : (parseMethodDescriptor "(III)Z").map (fun d => d.parameters.length) = some 3 := by decide +kernel
theorem pmd_36 : (parseMethodDescriptor "(LMomentdesk;IIIIIILMomentdeskLaw$Out;)I").map (fun d => d.parameters.length) = some 8 := by decide +kernel
theorem pmd_37 : (parseMethodDescriptor "(IIIIII)I").map (fun d => d.parameters.length) = some 6 := by decide +kernel
theorem pmd_38 : (parseMethodDescriptor "(LMomentdesk$Local;JII)I").map (fun d => d.parameters.length) = some 4 := by decide +kernel
theorem pmd_39 : (parseMethodDescriptor "(LMomentdesk$Local;J)I").map (fun d => d.parameters.length) = some 2 := by decide +kernel
theorem pmd_40 : (parseMethodDescriptor "(LMomentdesk$Local;IJ)J").map (fun d => d.parameters.length) = some 3 := by decide +kernel
theorem pmd_41 : (parseMethodDescriptor "(LMomentdesk$Local;IJ)I").map (fun d => d.parameters.length) = some 3 := by decide +kernel
theorem pmd_42 : (parseMethodDescriptor "(LMomentdesk$Local;II)I").map (fun d => d.parameters.length) = some 3 := by decide +kernel
theorem pmd_43 : (parseMethodDescriptor "(LMomentdesk$Local;IIIJ)I").map (fun d => d.parameters.length) = some 5 := by decide +kernel
theorem pmd_44 : (parseMethodDescriptor "(LMomentdesk;IIZLMomentdeskLaw$Out;)I").map (fun d => d.parameters.length) = some 5 := by decide +kernel
theorem pmd_45 : (parseMethodDescriptor "(IIZ)I").map (fun d => d.parameters.length) = some 3 := by decide +kernel
theorem pmd_46 : (parseMethodDescriptor "(LMomentdesk$Local;LMomentdesk$Local;I)Z").map (fun d => d.parameters.length) = some 3 := by decide +kernel
theorem pmd_47 : (parseMethodDescriptor "(ZZ)Z").map (fun d => d.parameters.length) = some 2 := by decide +kernel
theorem pmd_48 : (parseMethodDescriptor "(Z)I").map (fun d => d.parameters.length) = some 1 := by decide +kernel
theorem pmd_49 : (parseMethodDescriptor "(I)J").map (fun d => d.parameters.length) = some 1 := by decide +kernel
theorem pmd_50 : (parseMethodDescriptor "(II)Z").map (fun d => d.parameters.length) = some 2 := by decide +kernel
theorem pmd_51 : (parseMethodDescriptor "(IIIII)I").map (fun d => d.parameters.length) = some 5 := by decide +kernel
theorem pmd_52 : (parseMethodDescriptor "(IJJII)I").map (fun d => d.parameters.length) = some 5 := by decide +kernel
theorem pmd_53 : (parseMethodDescriptor "(J)Z").map (fun d => d.parameters.length) = some 1 := by decide +kernel
theorem pmd_54 : (parseMethodDescriptor "(I)[I").map (fun d => d.parameters.length) = some 1 := by decide +kernel
theorem pmd_55 : (parseMethodDescriptor "(IJII)I").map (fun d => d.parameters.length) = some 4 := by decide +kernel
theorem kt_X2 : (Cond.initialized RX2) ∈ mW := kw_40
theorem kt_X1 : (Cond.initialized RX1) ∈ mW := kw_41
theorem kt_X4 : (Cond.initialized RX4) ∈ mW := kw_42
theorem kt_X3 : (Cond.initialized RX3) ∈ mW := kw_43
theorem kt_java_lang_IndexOutOfBoundsException : (Cond.initialized "java/lang/IndexOutOfBoundsException") ∈ mW := kw_47
theorem kt_java_lang_IllegalArgumentException : (Cond.initialized "java/lang/IllegalArgumentException") ∈ mW := kw_48
theorem kl_L_8 : (Cond.classLink RL 8 RX2) ∈ mW := kw_63
theorem ki_X2 : (Cond.instantiable RX2 8) ∈ mW := kw_64
theorem kl_X2_17 : (Cond.classLink RX2 17 RX1) ∈ mW := kw_71
theorem ki_X1 : (Cond.instantiable RX1 3) ∈ mW := kw_73
theorem kf_X1_9 : mFd RX1 9 2 0 RX1 TX1 3 .long := ⟨kinX1, ⟨_, tyX1_ok⟩, nmX1, rfl, by decide, kw_78, by decide +kernel⟩
theorem kg_X2_146 : mFn RX2 RX2 146 2 0 RX1 TX1 3 .long := ⟨kinX1, ⟨_, tyX1_ok⟩, nmX1, rfl, by decide, kw_79, by decide +kernel⟩
theorem kf_X1_15 : mFd RX1 15 2 1 RX1 TX1 3 .int := ⟨kinX1, ⟨_, tyX1_ok⟩, nmX1, rfl, by decide, kw_80, by decide +kernel⟩
theorem kg_X2_172 : mFn RX2 RX2 172 2 1 RX1 TX1 3 .int := ⟨kinX1, ⟨_, tyX1_ok⟩, nmX1, rfl, by decide, kw_81, by decide +kernel⟩
theorem kf_X1_19 : mFd RX1 19 2 2 RX1 TX1 3 .int := ⟨kinX1, ⟨_, tyX1_ok⟩, nmX1, rfl, by decide, kw_82, by decide +kernel⟩
theorem kg_X2_158 : mFn RX2 RX2 158 2 2 RX1 TX1 3 .int := ⟨kinX1, ⟨_, tyX1_ok⟩, nmX1, rfl, by decide, kw_83, by decide +kernel⟩
theorem kf_X2_9 : mFd RX2 9 3 0 RX2 TX2 8 (.array .int) := ⟨kinX2, ⟨_, tyX2_ok⟩, nmX2, rfl, by decide, kw_93, by decide +kernel⟩
theorem kf_X2_13 : mFd RX2 13 3 1 RX2 TX2 8 (.array .long) := ⟨kinX2, ⟨_, tyX2_ok⟩, nmX2, rfl, by decide, kw_94, by decide +kernel⟩
theorem kf_X2_20 : mFd RX2 20 3 2 RX2 TX2 8 (.array (.object "Momentdesk$Local")) := ⟨kinX2, ⟨_, tyX2_ok⟩, nmX2, rfl, by decide, kw_95, by decide +kernel⟩
theorem kf_X2_24 : mFd RX2 24 3 3 RX2 TX2 8 (.array (.object "Momentdesk$Local")) := ⟨kinX2, ⟨_, tyX2_ok⟩, nmX2, rfl, by decide, kw_96, by decide +kernel⟩
theorem kf_X2_27 : mFd RX2 27 3 4 RX2 TX2 8 (.object "Momentdesk$Local") := ⟨kinX2, ⟨_, tyX2_ok⟩, nmX2, rfl, by decide, kw_97, by decide +kernel⟩
theorem kf_X2_31 : mFd RX2 31 3 5 RX2 TX2 8 (.object "Momentdesk$Local") := ⟨kinX2, ⟨_, tyX2_ok⟩, nmX2, rfl, by decide, kw_98, by decide +kernel⟩
theorem kf_X2_196 : mFd RX2 196 3 6 RX2 TX2 8 .int := ⟨kinX2, ⟨_, tyX2_ok⟩, nmX2, rfl, by decide, kw_99, by decide +kernel⟩
theorem kf_X2_199 : mFd RX2 199 3 7 RX2 TX2 8 .int := ⟨kinX2, ⟨_, tyX2_ok⟩, nmX2, rfl, by decide, kw_100, by decide +kernel⟩
theorem kv_L_241 : mWV RL 241 yX2_knock cX2_knock 1 (some .int) 0 := ⟨kw_118, kw_119, kw_120, kw_40, kw_121, nmh_0, pmd_0⟩
theorem kv_L_248 : mWV RL 248 yX2_isSound cX2_isSound 1 (some .boolean) 0 := ⟨kw_122, kw_123, kw_124, kw_40, kw_125, nmh_0, pmd_1⟩
theorem kv_X2_208 : mWV RX2 208 yX2_areMomentsSound cX2_areMomentsSound 5 (some .boolean) 0 := ⟨kw_126, kw_128, kw_0, kw_40, kw_129, nmh_0, pmd_1⟩
theorem ks_X2_96 : mWS RX2 96 yX2_secondOf cX2_secondOf 2 (some .long) 1 := ⟨kw_130, kw_131, kw_40, kw_132, nmh_0, pmd_2⟩
theorem kc_X2_72 : (Cond.constantLong RX2 72 (1000000000)) ∈ mW := kw_133
theorem ks_X2_100 : mWS RX2 100 yJ9_floorDiv_f86c9 cJ9_floorDiv_f86c9 6 (some .long) 2 := ⟨kw_134, kw_135, kw_49, kw_136, nmh_1, pmd_3⟩
theorem ks_X2_92 : mWS RX2 92 yX2_nanoOf cX2_nanoOf 2 (some .int) 1 := ⟨kw_137, kw_138, kw_40, kw_139, nmh_0, pmd_4⟩
theorem ks_X2_277 : mWS RX2 277 yJ9_floorMod_f86c9 cJ9_floorMod_f86c9 6 (some .long) 2 := ⟨kw_140, kw_141, kw_49, kw_142, nmh_1, pmd_3⟩
theorem kv_X2_270 : mWV RX2 270 yX1_tell cX1_tell 5 none 3 := ⟨kw_143, kw_144, kw_145, kw_41, kw_146, nmh_2, pmd_5⟩
theorem ks_X2_88 : mWS RX2 88 yX2_numberOf cX2_numberOf 1 (some .long) 1 := ⟨kw_147, kw_148, kw_40, kw_149, nmh_0, pmd_6⟩
theorem kv_X2_169 : mWV RX2 169 yX1_momentSecond cX1_momentSecond 1 (some .long) 0 := ⟨kw_150, kw_151, kw_152, kw_41, kw_153, nmh_2, pmd_7⟩
theorem kv_X2_212 : mWV RX2 212 yX2_areDatesToldAnewSound cX2_areDatesToldAnewSound 3 (some .boolean) 0 := ⟨kw_154, kw_156, kw_1, kw_40, kw_157, nmh_0, pmd_1⟩
theorem ks_X2_84 : mWS RX2 84 yX2_at cX2_at 2 (some (.object "Momentdesk$Local")) 2 := ⟨kw_158, kw_159, kw_40, kw_160, nmh_0, pmd_8⟩
theorem kl_X2_250 : (Cond.classLink RX2 250 "java/lang/IndexOutOfBoundsException") ∈ mW := kw_161
theorem kv_X2_366 : mWV RX2 366 yX2_isToldAnewSound cX2_isToldAnewSound 6 (some .boolean) 2 := ⟨kw_228, kw_230, kw_3, kw_40, kw_231, nmh_0, pmd_9⟩
theorem kc_X2_266 : (Cond.constantLong RX2 266 (-1893456000)) ∈ mW := kw_232
theorem kc_X2_268 : (Cond.constantLong RX2 268 (1924991999)) ∈ mW := kw_233
theorem ks_X2_48 : mWS RX2 48 yX2_isWithin cX2_isWithin 6 (some .boolean) 3 := ⟨kw_234, kw_235, kw_40, kw_236, nmh_0, pmd_10⟩
theorem kv_X2_360 : mWV RX2 360 yX1_isAlike cX1_isAlike 2 (some .boolean) 1 := ⟨kw_237, kw_238, kw_239, kw_41, kw_240, nmh_2, pmd_11⟩
theorem kv_X1_55 : mWV RX1 55 yX1_momentSecond cX1_momentSecond 1 (some .long) 0 := ⟨kw_241, kw_151, kw_152, kw_41, kw_153, nmh_2, pmd_7⟩
theorem kv_X2_363 : mWV RX2 363 yX1_isSame cX1_isSame 2 (some .boolean) 1 := ⟨kw_242, kw_243, kw_244, kw_41, kw_245, nmh_2, pmd_11⟩
theorem kv_X2_215 : mWV RX2 215 yX2_arePairsSound cX2_arePairsSound 3 (some .boolean) 0 := ⟨kw_246, kw_248, kw_4, kw_40, kw_249, nmh_0, pmd_1⟩
theorem ks_X2_370 : mWS RX2 370 yX2_isPairSound cX2_isPairSound 4 (some .boolean) 2 := ⟨kw_250, kw_251, kw_40, kw_252, nmh_0, pmd_12⟩
theorem kv_X2_356 : mWV RX2 356 yX1_isAhead cX1_isAhead 2 (some .boolean) 1 := ⟨kw_253, kw_254, kw_255, kw_41, kw_256, nmh_2, pmd_11⟩
theorem kv_X1_51 : mWV RX1 51 yX1_momentOrder cX1_momentOrder 3 (some .int) 1 := ⟨kw_257, kw_258, kw_259, kw_41, kw_260, nmh_2, pmd_13⟩
theorem kn_X1_59 : mWN RX1 RX2 59 yX2_compared cX2_compared 4 (some .int) 2 := ⟨kw_261, kw_262, kw_40, kw_263, nmh_0, pmd_14⟩
theorem kv_X2_179 : mWV RX2 179 yX1_orderTo cX1_orderTo 3 (some .int) 1 := ⟨kw_264, kw_265, kw_266, kw_41, kw_267, nmh_2, pmd_13⟩
theorem kv_X2_218 : mWV RX2 218 yX2_areStrikesSound cX2_areStrikesSound 3 (some .boolean) 0 := ⟨kw_268, kw_270, kw_5, kw_40, kw_271, nmh_0, pmd_1⟩
theorem kv_X2_320 : mWV RX2 320 yX1_secondOfDay cX1_secondOfDay 1 (some .int) 0 := ⟨kw_272, kw_273, kw_274, kw_41, kw_275, nmh_2, pmd_0⟩
theorem kc_X1_22 : (Cond.constantLong RX1 22 (86400)) ∈ mW := kw_276
theorem ks_X1_45 : mWS RX1 45 yJ9_floorMod_f86c9 cJ9_floorMod_f86c9 6 (some .long) 2 := ⟨kw_277, kw_141, kw_49, kw_142, nmh_1, pmd_3⟩
theorem kv_X2_190 : mWV RX2 190 yX1_beginOfDay cX1_beginOfDay 1 (some .long) 0 := ⟨kw_278, kw_279, kw_280, kw_41, kw_281, nmh_2, pmd_7⟩
theorem kv_X1_30 : mWV RX1 30 yX1_day cX1_day 1 (some .int) 0 := ⟨kw_282, kw_283, kw_284, kw_41, kw_285, nmh_2, pmd_0⟩
theorem ks_X1_24 : mWS RX1 24 yJ9_floorDiv_f86c9 cJ9_floorDiv_f86c9 6 (some .long) 2 := ⟨kw_286, kw_135, kw_49, kw_136, nmh_1, pmd_3⟩
theorem kv_L_253 : mWV RL 253 yX2_digest cX2_digest 3 (some .long) 0 := ⟨kw_287, kw_288, kw_289, kw_40, kw_290, nmh_0, pmd_7⟩
theorem kc_X2_221 : (Cond.constantLong RX2 221 (6199)) ∈ mW := kw_291
theorem kv_X2_223 : mWV RX2 223 yX2_withOffsets cX2_withOffsets 6 (some .long) 1 := ⟨kw_292, kw_294, kw_6, kw_40, kw_295, nmh_0, pmd_2⟩
theorem kv_X2_64 : mWV RX2 64 yX2_seconds cX2_seconds 2 (some .int) 1 := ⟨kw_296, kw_297, kw_298, kw_40, kw_299, nmh_0, pmd_15⟩
theorem ks_X2_34 : mWS RX2 34 yX2_requireOne cX2_requireOne 2 none 2 := ⟨kw_300, kw_301, kw_40, kw_302, nmh_0, pmd_16⟩
theorem ks_X2_247 : mWS RX2 247 yX2_added cX2_added 4 (some .long) 2 := ⟨kw_303, kw_304, kw_40, kw_305, nmh_0, pmd_3⟩
theorem kc_X2_374 : (Cond.constantLong RX2 374 (31)) ∈ mW := kw_306
theorem kv_X2_226 : mWV RX2 226 yX2_withMoments cX2_withMoments 6 (some .long) 1 := ⟨kw_307, kw_309, kw_7, kw_40, kw_310, nmh_0, pmd_2⟩
theorem kv_X2_376 : mWV RX2 376 yX2_ofMoment cX2_ofMoment 3 (some .int) 2 := ⟨kw_311, kw_312, kw_313, kw_40, kw_314, nmh_0, pmd_17⟩
theorem kv_X2_229 : mWV RX2 229 yX2_withDates cX2_withDates 7 (some .long) 1 := ⟨kw_315, kw_317, kw_8, kw_40, kw_318, nmh_0, pmd_2⟩
theorem ks_X2_175 : mWS RX2 175 yX2_datePart cX2_datePart 3 (some .int) 2 := ⟨kw_319, kw_320, kw_40, kw_321, nmh_0, pmd_18⟩
theorem kv_X2_274 : mWV RX2 274 yX1_day cX1_day 1 (some .int) 0 := ⟨kw_322, kw_283, kw_284, kw_41, kw_285, nmh_2, pmd_0⟩
theorem ks_X2_323 : mWS RX2 323 yX0_yearOf cX0_yearOf 2 (some .int) 1 := ⟨kw_323, kw_324, kw_62, kw_325, nmh_3, pmd_15⟩
theorem ks_X0_26 : mWS RX0 26 yX0_firstDayOf cX0_firstDayOf 2 (some .int) 1 := ⟨kw_326, kw_327, kw_62, kw_328, nmh_3, pmd_15⟩
theorem kc_X0_25 : (Cond.constant RX0 25 (719162)) ∈ mW := kw_329
theorem ks_X2_326 : mWS RX2 326 yX0_monthOf cX0_monthOf 4 (some .int) 1 := ⟨kw_330, kw_331, kw_62, kw_332, nmh_3, pmd_15⟩
theorem ks_X0_33 : mWS RX0 33 yX0_yearOf cX0_yearOf 2 (some .int) 1 := ⟨kw_333, kw_324, kw_62, kw_325, nmh_3, pmd_15⟩
theorem ks_X0_30 : mWS RX0 30 yX0_daysBeforeMonth cX0_daysBeforeMonth 3 (some .int) 2 := ⟨kw_334, kw_335, kw_62, kw_336, nmh_3, pmd_19⟩
theorem ks_X0_9 : mWS RX0 9 yX0_isLeap cX0_isLeap 1 (some .boolean) 1 := ⟨kw_337, kw_338, kw_62, kw_339, nmh_3, pmd_20⟩
theorem ks_X2_311 : mWS RX2 311 yX0_dayOfMonth cX0_dayOfMonth 1 (some .int) 1 := ⟨kw_340, kw_341, kw_62, kw_342, nmh_3, pmd_15⟩
theorem ks_X0_36 : mWS RX0 36 yX0_dayOfYear cX0_dayOfYear 1 (some .int) 1 := ⟨kw_343, kw_344, kw_62, kw_345, nmh_3, pmd_15⟩
theorem ks_X0_39 : mWS RX0 39 yX0_monthOf cX0_monthOf 4 (some .int) 1 := ⟨kw_346, kw_331, kw_62, kw_332, nmh_3, pmd_15⟩
theorem ks_X2_350 : mWS RX2 350 yX0_dayOfYear cX0_dayOfYear 1 (some .int) 1 := ⟨kw_347, kw_344, kw_62, kw_345, nmh_3, pmd_15⟩
theorem kv_X2_335 : mWV RX2 335 yX1_hour cX1_hour 1 (some .int) 0 := ⟨kw_348, kw_349, kw_350, kw_41, kw_351, nmh_2, pmd_0⟩
theorem kv_X1_48 : mWV RX1 48 yX1_secondOfDay cX1_secondOfDay 1 (some .int) 0 := ⟨kw_352, kw_273, kw_274, kw_41, kw_275, nmh_2, pmd_0⟩
theorem kv_X2_342 : mWV RX2 342 yX1_minute cX1_minute 1 (some .int) 0 := ⟨kw_353, kw_354, kw_355, kw_41, kw_356, nmh_2, pmd_0⟩
theorem kv_X2_345 : mWV RX2 345 yX1_secondOfMinute cX1_secondOfMinute 1 (some .int) 0 := ⟨kw_357, kw_358, kw_359, kw_41, kw_360, nmh_2, pmd_0⟩
theorem ks_X2_353 : mWS RX2 353 yX0_dayOfWeek cX0_dayOfWeek 1 (some .int) 1 := ⟨kw_361, kw_362, kw_62, kw_363, nmh_3, pmd_15⟩
theorem ks_X0_42 : mWS RX0 42 yJ9_floorMod_7cf53 cJ9_floorMod_7cf53 3 (some .int) 2 := ⟨kw_364, kw_365, kw_49, kw_366, nmh_1, pmd_19⟩
theorem kv_X2_232 : mWV RX2 232 yX2_withClocks cX2_withClocks 7 (some .long) 1 := ⟨kw_367, kw_369, kw_9, kw_40, kw_370, nmh_0, pmd_2⟩
theorem ks_X2_193 : mWS RX2 193 yX2_clockPart cX2_clockPart 2 (some .int) 2 := ⟨kw_371, kw_372, kw_40, kw_373, nmh_0, pmd_18⟩
theorem kv_X2_235 : mWV RX2 235 yX2_withDatePairs cX2_withDatePairs 7 (some .long) 1 := ⟨kw_374, kw_376, kw_10, kw_40, kw_377, nmh_0, pmd_2⟩
theorem kv_X2_238 : mWV RX2 238 yX2_withClockPairs cX2_withClockPairs 7 (some .long) 1 := ⟨kw_378, kw_380, kw_11, kw_40, kw_381, nmh_0, pmd_2⟩
theorem kv_X2_241 : mWV RX2 241 yX2_withHouse cX2_withHouse 6 (some .long) 1 := ⟨kw_382, kw_384, kw_12, kw_40, kw_385, nmh_0, pmd_2⟩
theorem kv_X2_380 : mWV RX2 380 yX2_house cX2_house 2 (some .int) 1 := ⟨kw_386, kw_387, kw_388, kw_40, kw_389, nmh_0, pmd_15⟩
theorem ks_X2_40 : mWS RX2 40 yX2_requireWithin cX2_requireWithin 3 none 3 := ⟨kw_390, kw_391, kw_40, kw_392, nmh_0, pmd_21⟩
theorem kl_X2_257 : (Cond.classLink RX2 257 "java/lang/IllegalArgumentException") ∈ mW := kw_393
theorem kv_X2_202 : mWV RX2 202 yX2_firstDated cX2_firstDated 3 (some .int) 0 := ⟨kw_409, kw_411, kw_13, kw_40, kw_412, nmh_0, pmd_0⟩
theorem kv_X2_205 : mWV RX2 205 yX2_firstMoment cX2_firstMoment 3 (some .int) 0 := ⟨kw_413, kw_415, kw_14, kw_40, kw_416, nmh_0, pmd_0⟩
theorem kv_X2_244 : mWV RX2 244 yX2_isSound cX2_isSound 1 (some .boolean) 0 := ⟨kw_417, kw_123, kw_124, kw_40, kw_125, nmh_0, pmd_1⟩
theorem kl_L_14 : (Cond.classLink RL 14 RX3) ∈ mW := kw_418
theorem ki_X3 : (Cond.instantiable RX3 2) ∈ mW := kw_419
theorem kg_L_13 : mFn RL RL 13 4 0 RX3 TX3 2 .long := ⟨kinX3, ⟨_, tyX3_ok⟩, nmX3, rfl, by decide, kw_424, by decide +kernel⟩
theorem kg_L_56 : mFn RL RL 56 4 1 RX3 TX3 2 (.object "java/lang/String") := ⟨kinX3, ⟨_, tyX3_ok⟩, nmX3, rfl, by decide, kw_425, by decide +kernel⟩
theorem kh_L_134 : mWH RL 134 yL_offset cL_offset 5 (some .int) [(0, 11, 14, 19), (0, 11, 18, 21)] 4 := ⟨kw_431, kw_432, kw_39, kw_433, nmh_4, pmd_22⟩
theorem kl_L_19 : (Cond.classLink RL 19 "java/lang/IndexOutOfBoundsException") ∈ mW := kw_434
theorem kl_L_21 : (Cond.classLink RL 21 "java/lang/IllegalArgumentException") ∈ mW := kw_435
theorem kv_L_7 : mWV RL 7 yX2_offset cX2_offset 4 (some .int) 2 := ⟨kw_436, kw_437, kw_438, kw_40, kw_439, nmh_0, pmd_19⟩
theorem kc_X2_38 : (Cond.constant RX2 38 (-64800)) ∈ mW := kw_440
theorem kc_X2_39 : (Cond.constant RX2 39 (64800)) ∈ mW := kw_441
theorem kh_L_140 : mWH RL 140 yL_offsetOf cL_offsetOf 7 (some .int) [(0, 15, 18, 19)] 6 := ⟨kw_442, kw_443, kw_39, kw_444, nmh_4, pmd_23⟩
theorem kv_L_23 : mWV RL 23 yX2_offsetOf cX2_offsetOf 8 (some .int) 4 := ⟨kw_445, kw_446, kw_447, kw_40, kw_448, nmh_0, pmd_24⟩
theorem kc_X2_44 : (Cond.constantLong RX2 44 (-18)) ∈ mW := kw_449
theorem kc_X2_46 : (Cond.constantLong RX2 46 (18)) ∈ mW := kw_450
theorem kc_X2_52 : (Cond.constantLong RX2 52 (-59)) ∈ mW := kw_451
theorem kc_X2_54 : (Cond.constantLong RX2 54 (59)) ∈ mW := kw_452
theorem kv_X2_56 : mWV RX2 56 yX2_refused cX2_refused 1 (some .int) 0 := ⟨kw_453, kw_455, kw_15, kw_40, kw_456, nmh_0, pmd_0⟩
theorem kc_X2_60 : (Cond.constantLong RX2 60 (-64800)) ∈ mW := kw_457
theorem kc_X2_62 : (Cond.constantLong RX2 62 (64800)) ∈ mW := kw_458
theorem kh_L_144 : mWH RL 144 yL_seconds cL_seconds 4 (some .int) [(0, 10, 13, 19)] 3 := ⟨kw_459, kw_460, kw_39, kw_461, nmh_4, pmd_25⟩
theorem kv_L_27 : mWV RL 27 yX2_seconds cX2_seconds 2 (some .int) 1 := ⟨kw_462, kw_297, kw_298, kw_40, kw_299, nmh_0, pmd_15⟩
theorem kh_L_148 : mWH RL 148 yL_orderOffset cL_orderOffset 5 (some .int) [(0, 11, 14, 19)] 4 := ⟨kw_463, kw_464, kw_39, kw_465, nmh_4, pmd_22⟩
theorem kv_L_31 : mWV RL 31 yX2_orderOffset cX2_orderOffset 3 (some .int) 2 := ⟨kw_466, kw_467, kw_468, kw_40, kw_469, nmh_0, pmd_19⟩
theorem ks_X2_68 : mWS RX2 68 yX2_compared cX2_compared 4 (some .int) 2 := ⟨kw_470, kw_262, kw_40, kw_263, nmh_0, pmd_14⟩
theorem kh_L_151 : mWH RL 151 yL_moment cL_moment 6 (some .int) [(0, 13, 16, 19)] 5 := ⟨kw_471, kw_472, kw_39, kw_473, nmh_4, pmd_26⟩
theorem kv_L_34 : mWV RL 34 yX2_moment cX2_moment 4 (some .int) 3 := ⟨kw_474, kw_475, kw_476, kw_40, kw_477, nmh_0, pmd_27⟩
theorem kv_X2_74 : mWV RX2 74 yX2_putNumber cX2_putNumber 4 (some .int) 2 := ⟨kw_478, kw_480, kw_16, kw_40, kw_481, nmh_0, pmd_28⟩
theorem kc_X2_262 : (Cond.constantLong RX2 262 (-1800000000000000000)) ∈ mW := kw_482
theorem kc_X2_264 : (Cond.constantLong RX2 264 (1800000000999999999)) ∈ mW := kw_483
theorem kh_L_155 : mWH RL 155 yL_milli cL_milli 6 (some .int) [(0, 13, 16, 19)] 5 := ⟨kw_484, kw_485, kw_39, kw_486, nmh_4, pmd_26⟩
theorem kv_L_38 : mWV RL 38 yX2_milli cX2_milli 4 (some .int) 3 := ⟨kw_487, kw_488, kw_489, kw_40, kw_490, nmh_0, pmd_27⟩
theorem kc_X2_78 : (Cond.constantLong RX2 78 (1000000)) ∈ mW := kw_491
theorem kh_L_158 : mWH RL 158 yL_move cL_move 7 (some .int) [(0, 15, 18, 19), (0, 15, 22, 21)] 6 := ⟨kw_492, kw_493, kw_39, kw_494, nmh_4, pmd_29⟩
theorem kv_L_41 : mWV RL 41 yX2_move cX2_move 7 (some .int) 4 := ⟨kw_495, kw_496, kw_497, kw_40, kw_498, nmh_0, pmd_30⟩
theorem ks_X2_80 : mWS RX2 80 yX2_signed cX2_signed 2 (some .long) 2 := ⟨kw_499, kw_500, kw_40, kw_501, nmh_0, pmd_31⟩
theorem kh_L_166 : mWH RL 166 yL_momentOf cL_momentOf 5 (some .int) [(0, 11, 14, 19)] 4 := ⟨kw_502, kw_503, kw_39, kw_504, nmh_4, pmd_22⟩
theorem kv_L_45 : mWV RL 45 yX2_momentOf cX2_momentOf 3 (some .int) 2 := ⟨kw_505, kw_506, kw_507, kw_40, kw_508, nmh_0, pmd_19⟩
theorem kh_L_169 : mWH RL 169 yL_ofMoment cL_ofMoment 5 (some .int) [(0, 11, 14, 19)] 4 := ⟨kw_509, kw_510, kw_39, kw_511, nmh_4, pmd_32⟩
theorem kv_L_48 : mWV RL 48 yX2_ofMoment cX2_ofMoment 3 (some .int) 2 := ⟨kw_512, kw_312, kw_313, kw_40, kw_314, nmh_0, pmd_17⟩
theorem kh_L_173 : mWH RL 173 yL_millis cL_millis 4 (some .int) [(0, 9, 12, 19)] 3 := ⟨kw_513, kw_514, kw_39, kw_515, nmh_4, pmd_25⟩
theorem kv_L_52 : mWV RL 52 yX2_millis cX2_millis 2 (some (.object "java/lang/String")) 1 := ⟨kw_516, kw_517, kw_518, kw_40, kw_519, nmh_0, pmd_33⟩
theorem ks_X2_106 : mWS RX2 106 yX2_textOf cX2_textOf 6 (some (.object "java/lang/String")) 1 := ⟨kw_520, kw_521, kw_40, kw_522, nmh_0, pmd_34⟩
theorem kl_X2_280 : (Cond.classLink RX2 280 "java/lang/StringBuilder") ∈ mW := kw_523
theorem kc_X2_286 : (Cond.constantLong RX2 286 (48)) ∈ mW := kw_557
theorem kc_X2_288 : (Cond.constantLong RX2 288 (10)) ∈ mW := kw_558
theorem kh_L_176 : mWH RL 176 yL_orderMoment cL_orderMoment 5 (some .int) [(0, 11, 14, 19)] 4 := ⟨kw_823, kw_824, kw_39, kw_825, nmh_4, pmd_22⟩
theorem kv_L_60 : mWV RL 60 yX2_orderMoment cX2_orderMoment 3 (some .int) 2 := ⟨kw_826, kw_827, kw_828, kw_40, kw_829, nmh_0, pmd_19⟩
theorem kh_L_179 : mWH RL 179 yL_isMoment cL_isMoment 6 (some .int) [(0, 20, 23, 19), (0, 20, 27, 21)] 5 := ⟨kw_830, kw_831, kw_39, kw_832, nmh_4, pmd_26⟩
theorem kv_L_63 : mWV RL 63 yX2_isMoment cX2_isMoment 5 (some .boolean) 3 := ⟨kw_833, kw_834, kw_835, kw_40, kw_836, nmh_0, pmd_35⟩
theorem kv_X2_110 : mWV RX2 110 yX2_orderMoment cX2_orderMoment 3 (some .int) 2 := ⟨kw_837, kw_827, kw_828, kw_40, kw_829, nmh_0, pmd_19⟩
theorem kh_L_182 : mWH RL 182 yL_copyMoment cL_copyMoment 5 (some .int) [(0, 11, 14, 19)] 4 := ⟨kw_838, kw_839, kw_39, kw_840, nmh_4, pmd_22⟩
theorem kv_L_67 : mWV RL 67 yX2_copyMoment cX2_copyMoment 3 (some .int) 2 := ⟨kw_841, kw_842, kw_843, kw_40, kw_844, nmh_0, pmd_19⟩
theorem kh_L_185 : mWH RL 185 yL_date cL_date 9 (some .int) [(0, 19, 22, 19), (0, 19, 26, 21)] 8 := ⟨kw_845, kw_846, kw_39, kw_847, nmh_4, pmd_36⟩
theorem kv_L_70 : mWV RL 70 yX2_date cX2_date 11 (some .int) 6 := ⟨kw_848, kw_849, kw_850, kw_40, kw_851, nmh_0, pmd_37⟩
theorem kc_X2_114 : (Cond.constant RX2 114 (86399)) ∈ mW := kw_852
theorem kc_X2_115 : (Cond.constant RX2 115 (999999999)) ∈ mW := kw_853
theorem kc_X2_116 : (Cond.constantLong RX2 116 (1910)) ∈ mW := kw_854
theorem kc_X2_118 : (Cond.constantLong RX2 118 (2030)) ∈ mW := kw_855
theorem ks_X2_120 : mWS RX2 120 yX0_isDay cX0_isDay 3 (some .boolean) 3 := ⟨kw_856, kw_857, kw_62, kw_858, nmh_3, pmd_35⟩
theorem kc_X0_15 : (Cond.constantLong RX0 15 (12)) ∈ mW := kw_859
theorem kn_X0_17 : mWN RX0 RX2 17 yX2_isWithin cX2_isWithin 6 (some .boolean) 3 := ⟨kw_860, kw_235, kw_40, kw_236, nmh_0, pmd_10⟩
theorem ks_X0_21 : mWS RX0 21 yX0_lengthOfMonth cX0_lengthOfMonth 2 (some .int) 2 := ⟨kw_861, kw_862, kw_62, kw_863, nmh_3, pmd_19⟩
theorem ks_X2_126 : mWS RX2 126 yX0_dayOf cX0_dayOf 3 (some .int) 3 := ⟨kw_864, kw_865, kw_62, kw_866, nmh_3, pmd_27⟩
theorem kc_X2_130 : (Cond.constantLong RX2 130 (86400)) ∈ mW := kw_867
theorem kv_X2_132 : mWV RX2 132 yX2_putLocal cX2_putLocal 6 (some .int) 4 := ⟨kw_868, kw_870, kw_17, kw_40, kw_871, nmh_0, pmd_38⟩
theorem kh_L_189 : mWH RL 189 yL_dateOf cL_dateOf 6 (some .int) [(0, 13, 16, 19)] 5 := ⟨kw_872, kw_873, kw_39, kw_874, nmh_4, pmd_26⟩
theorem kv_L_74 : mWV RL 74 yX2_dateOf cX2_dateOf 8 (some .int) 3 := ⟨kw_875, kw_876, kw_877, kw_40, kw_878, nmh_0, pmd_27⟩
theorem kh_L_192 : mWH RL 192 yL_moveDate cL_moveDate 7 (some .int) [(0, 15, 18, 19), (0, 15, 22, 21)] 6 := ⟨kw_879, kw_880, kw_39, kw_881, nmh_4, pmd_29⟩
theorem kv_L_77 : mWV RL 77 yX2_moveDate cX2_moveDate 8 (some .int) 4 := ⟨kw_882, kw_883, kw_884, kw_40, kw_885, nmh_0, pmd_30⟩
theorem kv_X2_136 : mWV RX2 136 yX1_months cX1_months 1 (some .long) 0 := ⟨kw_886, kw_887, kw_888, kw_41, kw_889, nmh_2, pmd_7⟩
theorem ks_X1_34 : mWS RX1 34 yX0_yearOf cX0_yearOf 2 (some .int) 1 := ⟨kw_890, kw_324, kw_62, kw_325, nmh_3, pmd_15⟩
theorem kc_X1_40 : (Cond.constantLong RX1 40 (12)) ∈ mW := kw_891
theorem ks_X1_42 : mWS RX1 42 yX0_monthOf cX0_monthOf 4 (some .int) 1 := ⟨kw_892, kw_331, kw_62, kw_332, nmh_3, pmd_15⟩
theorem kc_X2_140 : (Cond.constantLong RX2 140 (12)) ∈ mW := kw_893
theorem kv_X2_142 : mWV RX2 142 yX2_putMonths cX2_putMonths 9 (some .int) 2 := ⟨kw_894, kw_896, kw_18, kw_40, kw_897, nmh_0, pmd_39⟩
theorem ks_X2_308 : mWS RX2 308 yX0_lengthOfMonth cX0_lengthOfMonth 2 (some .int) 2 := ⟨kw_898, kw_862, kw_62, kw_863, nmh_3, pmd_19⟩
theorem ks_X2_314 : mWS RX2 314 yJ9_min_7cf53 cJ9_min_7cf53 2 (some .int) 2 := ⟨kw_899, kw_596, kw_49, kw_597, nmh_1, pmd_19⟩
theorem kv_X2_317 : mWV RX2 317 yX2_putDay cX2_putDay 3 (some .int) 2 := ⟨kw_900, kw_902, kw_19, kw_40, kw_903, nmh_0, pmd_18⟩
theorem ks_X2_150 : mWS RX2 150 yX2_secondsOn cX2_secondsOn 4 (some .long) 3 := ⟨kw_904, kw_905, kw_40, kw_906, nmh_0, pmd_40⟩
theorem kc_X2_302 : (Cond.constantLong RX2 302 (7)) ∈ mW := kw_907
theorem kc_X2_304 : (Cond.constantLong RX2 304 (3600)) ∈ mW := kw_908
theorem kc_X2_306 : (Cond.constantLong RX2 306 (60)) ∈ mW := kw_909
theorem ks_X2_154 : mWS RX2 154 yX2_nanoOn cX2_nanoOn 4 (some .int) 3 := ⟨kw_910, kw_911, kw_40, kw_912, nmh_0, pmd_41⟩
theorem kh_L_195 : mWH RL 195 yL_set cL_set 6 (some .int) [(0, 13, 16, 19), (0, 13, 20, 21)] 5 := ⟨kw_913, kw_914, kw_39, kw_915, nmh_4, pmd_26⟩
theorem kv_L_80 : mWV RL 80 yX2_set cX2_set 5 (some .int) 3 := ⟨kw_916, kw_917, kw_918, kw_40, kw_919, nmh_0, pmd_27⟩
theorem kv_X2_162 : mWV RX2 162 yX2_setOfDay cX2_setOfDay 6 (some .int) 3 := ⟨kw_920, kw_922, kw_20, kw_40, kw_923, nmh_0, pmd_42⟩
theorem ks_X2_329 : mWS RX2 329 yX0_lengthOfYear cX0_lengthOfYear 1 (some .int) 1 := ⟨kw_924, kw_925, kw_62, kw_926, nmh_3, pmd_15⟩
theorem ks_X2_332 : mWS RX2 332 yX0_firstDayOf cX0_firstDayOf 2 (some .int) 1 := ⟨kw_927, kw_327, kw_62, kw_328, nmh_3, pmd_15⟩
theorem kv_X2_166 : mWV RX2 166 yX2_setOfTime cX2_setOfTime 4 (some .int) 3 := ⟨kw_928, kw_930, kw_21, kw_40, kw_931, nmh_0, pmd_42⟩
theorem kv_X2_338 : mWV RX2 338 yX2_setPart cX2_setPart 7 (some .int) 5 := ⟨kw_932, kw_934, kw_22, kw_40, kw_935, nmh_0, pmd_43⟩
theorem kc_X2_348 : (Cond.constantLong RX2 348 (999999999)) ∈ mW := kw_936
theorem kh_L_198 : mWH RL 198 yL_anew cL_anew 6 (some .int) [(0, 13, 16, 19)] 5 := ⟨kw_937, kw_938, kw_39, kw_939, nmh_4, pmd_44⟩
theorem kv_L_83 : mWV RL 83 yX2_anew cX2_anew 8 (some .int) 3 := ⟨kw_940, kw_941, kw_942, kw_40, kw_943, nmh_0, pmd_45⟩
theorem kh_L_202 : mWH RL 202 yL_copy cL_copy 5 (some .int) [(0, 11, 14, 19)] 4 := ⟨kw_944, kw_945, kw_39, kw_946, nmh_4, pmd_22⟩
theorem kv_L_87 : mWV RL 87 yX2_copy cX2_copy 5 (some .int) 2 := ⟨kw_947, kw_948, kw_949, kw_40, kw_950, nmh_0, pmd_19⟩
theorem kh_L_205 : mWH RL 205 yL_ofDate cL_ofDate 5 (some .int) [(0, 11, 14, 19), (0, 11, 18, 21)] 4 := ⟨kw_951, kw_952, kw_39, kw_953, nmh_4, pmd_22⟩
theorem kv_L_90 : mWV RL 90 yX2_ofDate cX2_ofDate 4 (some .int) 2 := ⟨kw_954, kw_955, kw_956, kw_40, kw_957, nmh_0, pmd_19⟩
theorem kh_L_208 : mWH RL 208 yL_orderDate cL_orderDate 5 (some .int) [(0, 11, 14, 19)] 4 := ⟨kw_958, kw_959, kw_39, kw_960, nmh_4, pmd_22⟩
theorem kv_L_93 : mWV RL 93 yX2_orderDate cX2_orderDate 3 (some .int) 2 := ⟨kw_961, kw_962, kw_963, kw_40, kw_964, nmh_0, pmd_19⟩
theorem kh_L_211 : mWH RL 211 yL_isDate cL_isDate 6 (some .int) [(0, 20, 23, 19), (0, 20, 27, 21)] 5 := ⟨kw_965, kw_966, kw_39, kw_967, nmh_4, pmd_26⟩
theorem kv_L_96 : mWV RL 96 yX2_isDate cX2_isDate 6 (some .boolean) 3 := ⟨kw_968, kw_969, kw_970, kw_40, kw_971, nmh_0, pmd_35⟩
theorem ks_X2_183 : mWS RX2 183 yX2_isSo cX2_isSo 3 (some .boolean) 3 := ⟨kw_972, kw_973, kw_40, kw_974, nmh_0, pmd_46⟩
theorem kh_L_214 : mWH RL 214 yL_clock cL_clock 7 (some .int) [(0, 15, 18, 19), (0, 15, 22, 21)] 6 := ⟨kw_975, kw_976, kw_39, kw_977, nmh_4, pmd_23⟩
theorem kv_L_99 : mWV RL 99 yX2_clock cX2_clock 7 (some .int) 4 := ⟨kw_978, kw_979, kw_980, kw_40, kw_981, nmh_0, pmd_24⟩
theorem kv_X2_187 : mWV RX2 187 yX2_putClock cX2_putClock 6 (some .int) 4 := ⟨kw_982, kw_984, kw_23, kw_40, kw_985, nmh_0, pmd_38⟩
theorem kh_L_217 : mWH RL 217 yL_clockOf cL_clockOf 5 (some .int) [(0, 11, 14, 19)] 4 := ⟨kw_986, kw_987, kw_39, kw_988, nmh_4, pmd_22⟩
theorem kv_L_102 : mWV RL 102 yX2_clockOf cX2_clockOf 5 (some .int) 2 := ⟨kw_989, kw_990, kw_991, kw_40, kw_992, nmh_0, pmd_19⟩
theorem kh_L_220 : mWH RL 220 yL_strike cL_strike 5 (some .int) [(0, 11, 14, 19)] 4 := ⟨kw_993, kw_994, kw_39, kw_995, nmh_4, pmd_22⟩
theorem kv_L_105 : mWV RL 105 yX2_strike cX2_strike 5 (some .int) 2 := ⟨kw_996, kw_997, kw_998, kw_40, kw_999, nmh_0, pmd_19⟩
theorem kh_L_223 : mWH RL 223 yL_moveClock cL_moveClock 7 (some .int) [(0, 15, 18, 19), (0, 15, 22, 21)] 6 := ⟨kw_1000, kw_1001, kw_39, kw_1002, nmh_4, pmd_29⟩
theorem kv_L_108 : mWV RL 108 yX2_moveClock cX2_moveClock 8 (some .int) 4 := ⟨kw_1003, kw_1004, kw_1005, kw_40, kw_1006, nmh_0, pmd_30⟩
theorem kh_L_226 : mWH RL 226 yL_anewClock cL_anewClock 6 (some .int) [(0, 13, 16, 19)] 5 := ⟨kw_1007, kw_1008, kw_39, kw_1009, nmh_4, pmd_44⟩
theorem kv_L_111 : mWV RL 111 yX2_anewClock cX2_anewClock 8 (some .int) 3 := ⟨kw_1010, kw_1011, kw_1012, kw_40, kw_1013, nmh_0, pmd_45⟩
theorem kh_L_229 : mWH RL 229 yL_copyClock cL_copyClock 5 (some .int) [(0, 11, 14, 19)] 4 := ⟨kw_1014, kw_1015, kw_39, kw_1016, nmh_4, pmd_22⟩
theorem kv_L_114 : mWV RL 114 yX2_copyClock cX2_copyClock 5 (some .int) 2 := ⟨kw_1017, kw_1018, kw_1019, kw_40, kw_1020, nmh_0, pmd_19⟩
theorem kh_L_232 : mWH RL 232 yL_ofClock cL_ofClock 5 (some .int) [(0, 11, 14, 19), (0, 11, 18, 21)] 4 := ⟨kw_1021, kw_1022, kw_39, kw_1023, nmh_4, pmd_22⟩
theorem kv_L_117 : mWV RL 117 yX2_ofClock cX2_ofClock 4 (some .int) 2 := ⟨kw_1024, kw_1025, kw_1026, kw_40, kw_1027, nmh_0, pmd_19⟩
theorem kh_L_235 : mWH RL 235 yL_orderClock cL_orderClock 5 (some .int) [(0, 11, 14, 19)] 4 := ⟨kw_1028, kw_1029, kw_39, kw_1030, nmh_4, pmd_22⟩
theorem kv_L_120 : mWV RL 120 yX2_orderClock cX2_orderClock 3 (some .int) 2 := ⟨kw_1031, kw_1032, kw_1033, kw_40, kw_1034, nmh_0, pmd_19⟩
theorem kh_L_238 : mWH RL 238 yL_isClock cL_isClock 6 (some .int) [(0, 20, 23, 19), (0, 20, 27, 21)] 5 := ⟨kw_1035, kw_1036, kw_39, kw_1037, nmh_4, pmd_26⟩
theorem kv_L_123 : mWV RL 123 yX2_isClock cX2_isClock 6 (some .boolean) 3 := ⟨kw_1038, kw_1039, kw_1040, kw_40, kw_1041, nmh_0, pmd_35⟩
theorem kh_L_245 : mWH RL 245 yL_house cL_house 4 (some .int) [(0, 10, 13, 21)] 3 := ⟨kw_1042, kw_1043, kw_39, kw_1044, nmh_4, pmd_25⟩
theorem kv_L_126 : mWV RL 126 yX2_house cX2_house 2 (some .int) 1 := ⟨kw_1045, kw_387, kw_388, kw_40, kw_389, nmh_0, pmd_15⟩
theorem kl_L_130 : (Cond.classLink RL 130 RX4) ∈ mW := kw_1046
theorem ki_X4 : (Cond.instantiable RX4 9) ∈ mW := kw_1047
theorem kf_X4_29 : mFd RX4 29 5 0 RX4 TX4 9 .int := ⟨kinX4, ⟨_, tyX4_ok⟩, nmX4, rfl, by decide, kw_1052, by decide +kernel⟩
theorem kf_X4_219 : mFd RX4 219 5 1 RX4 TX4 9 .int := ⟨kinX4, ⟨_, tyX4_ok⟩, nmX4, rfl, by decide, kw_1053, by decide +kernel⟩
theorem kf_X4_33 : mFd RX4 33 5 2 RX4 TX4 9 .int := ⟨kinX4, ⟨_, tyX4_ok⟩, nmX4, rfl, by decide, kw_1054, by decide +kernel⟩
theorem kf_X4_7 : mFd RX4 7 5 3 RX4 TX4 9 (.array .int) := ⟨kinX4, ⟨_, tyX4_ok⟩, nmX4, rfl, by decide, kw_1055, by decide +kernel⟩
theorem kf_X4_13 : mFd RX4 13 5 4 RX4 TX4 9 (.array .long) := ⟨kinX4, ⟨_, tyX4_ok⟩, nmX4, rfl, by decide, kw_1056, by decide +kernel⟩
theorem kf_X4_17 : mFd RX4 17 5 5 RX4 TX4 9 (.array .int) := ⟨kinX4, ⟨_, tyX4_ok⟩, nmX4, rfl, by decide, kw_1057, by decide +kernel⟩
theorem kf_X4_20 : mFd RX4 20 5 6 RX4 TX4 9 (.array .int) := ⟨kinX4, ⟨_, tyX4_ok⟩, nmX4, rfl, by decide, kw_1058, by decide +kernel⟩
theorem kf_X4_23 : mFd RX4 23 5 7 RX4 TX4 9 (.array .int) := ⟨kinX4, ⟨_, tyX4_ok⟩, nmX4, rfl, by decide, kw_1059, by decide +kernel⟩
theorem kf_X4_26 : mFd RX4 26 5 8 RX4 TX4 9 (.array .int) := ⟨kinX4, ⟨_, tyX4_ok⟩, nmX4, rfl, by decide, kw_1060, by decide +kernel⟩
theorem kv_L_162 : mWV RL 162 yX4_thrown cX4_thrown 1 (some .int) 0 := ⟨kw_1080, kw_1081, kw_1082, kw_42, kw_1083, nmh_5, pmd_0⟩
theorem kv_L_139 : mWV RL 139 yX4_offset cX4_offset 4 (some .int) 2 := ⟨kw_1084, kw_1085, kw_1086, kw_42, kw_1087, nmh_5, pmd_19⟩
theorem ks_X4_61 : mWS RX4 61 yX4_isNone cX4_isNone 1 (some .boolean) 1 := ⟨kw_1088, kw_1089, kw_42, kw_1090, nmh_5, pmd_20⟩
theorem kc_X4_36 : (Cond.constantLong RX4 36 (3)) ∈ mW := kw_1091
theorem ks_X4_38 : mWS RX4 38 yX4_isIn cX4_isIn 6 (some .boolean) 3 := ⟨kw_1092, kw_1093, kw_42, kw_1094, nmh_5, pmd_10⟩
theorem kc_X4_64 : (Cond.constantLong RX4 64 (-64800)) ∈ mW := kw_1095
theorem kc_X4_66 : (Cond.constantLong RX4 66 (64800)) ∈ mW := kw_1096
theorem kv_X4_68 : mWV RX4 68 yX4_isStopped cX4_isStopped 3 (some .boolean) 2 := ⟨kw_1097, kw_1099, kw_24, kw_42, kw_1100, nmh_5, pmd_47⟩
theorem kv_L_143 : mWV RL 143 yX4_offsetOf cX4_offsetOf 7 (some .int) 4 := ⟨kw_1101, kw_1102, kw_1103, kw_42, kw_1104, nmh_5, pmd_24⟩
theorem kc_X4_72 : (Cond.constantLong RX4 72 (-18)) ∈ mW := kw_1105
theorem kc_X4_74 : (Cond.constantLong RX4 74 (18)) ∈ mW := kw_1106
theorem kc_X4_76 : (Cond.constantLong RX4 76 (-59)) ∈ mW := kw_1107
theorem kc_X4_78 : (Cond.constantLong RX4 78 (59)) ∈ mW := kw_1108
theorem kv_X4_80 : mWV RX4 80 yX4_no cX4_no 1 (some .int) 0 := ⟨kw_1109, kw_1111, kw_25, kw_42, kw_1112, nmh_5, pmd_0⟩
theorem kv_L_147 : mWV RL 147 yX4_seconds cX4_seconds 2 (some .int) 1 := ⟨kw_1113, kw_1114, kw_1115, kw_42, kw_1116, nmh_5, pmd_15⟩
theorem kv_L_150 : mWV RL 150 yX4_orderOffset cX4_orderOffset 3 (some .int) 2 := ⟨kw_1117, kw_1118, kw_1119, kw_42, kw_1120, nmh_5, pmd_19⟩
theorem ks_X4_88 : mWS RX4 88 yX4_order cX4_order 4 (some .int) 2 := ⟨kw_1121, kw_1122, kw_42, kw_1123, nmh_5, pmd_14⟩
theorem ks_X4_84 : mWS RX4 84 yX4_one cX4_one 1 (some .int) 1 := ⟨kw_1124, kw_1125, kw_42, kw_1126, nmh_5, pmd_48⟩
theorem kv_L_154 : mWV RL 154 yX4_moment cX4_moment 4 (some .int) 3 := ⟨kw_1127, kw_1128, kw_1129, kw_42, kw_1130, nmh_5, pmd_27⟩
theorem kc_X4_96 : (Cond.constantLong RX4 96 (1000000000)) ∈ mW := kw_1131
theorem kv_X4_105 : mWV RX4 105 yX4_become cX4_become 4 (some .int) 2 := ⟨kw_1132, kw_1134, kw_26, kw_42, kw_1135, nmh_5, pmd_28⟩
theorem ks_X4_92 : mWS RX4 92 yX4_whole cX4_whole 4 (some .long) 2 := ⟨kw_1136, kw_1137, kw_42, kw_1138, nmh_5, pmd_3⟩
theorem kc_X4_98 : (Cond.constantLong RX4 98 (-1800000000)) ∈ mW := kw_1139
theorem kc_X4_100 : (Cond.constantLong RX4 100 (1800000000)) ∈ mW := kw_1140
theorem ks_X4_102 : mWS RX4 102 yX4_rest cX4_rest 4 (some .int) 2 := ⟨kw_1141, kw_1142, kw_42, kw_1143, nmh_5, pmd_14⟩
theorem kv_L_157 : mWV RL 157 yX4_milli cX4_milli 4 (some .int) 3 := ⟨kw_1144, kw_1145, kw_1146, kw_42, kw_1147, nmh_5, pmd_27⟩
theorem kc_X4_109 : (Cond.constantLong RX4 109 (1000)) ∈ mW := kw_1148
theorem kc_X4_111 : (Cond.constantLong RX4 111 (1000000)) ∈ mW := kw_1149
theorem kv_L_161 : mWV RL 161 yX4_move cX4_move 7 (some .int) 4 := ⟨kw_1150, kw_1151, kw_1152, kw_42, kw_1153, nmh_5, pmd_30⟩
theorem kc_X4_42 : (Cond.constantLong RX4 42 (2)) ∈ mW := kw_1154
theorem kv_L_168 : mWV RL 168 yX4_momentOf cX4_momentOf 3 (some .int) 2 := ⟨kw_1155, kw_1156, kw_1157, kw_42, kw_1158, nmh_5, pmd_19⟩
theorem kv_X4_115 : mWV RX4 115 yX4_number cX4_number 2 (some .long) 1 := ⟨kw_1159, kw_1161, kw_27, kw_42, kw_1162, nmh_5, pmd_49⟩
theorem kc_X4_113 : (Cond.constantLong RX4 113 (86400)) ∈ mW := kw_1163
theorem kv_L_184 : mWV RL 184 yX4_copyMoment cX4_copyMoment 3 (some .int) 2 := ⟨kw_1164, kw_1165, kw_1166, kw_42, kw_1167, nmh_5, pmd_19⟩
theorem kv_L_172 : mWV RL 172 yX4_ofMoment cX4_ofMoment 3 (some .int) 2 := ⟨kw_1168, kw_1169, kw_1170, kw_42, kw_1171, nmh_5, pmd_17⟩
theorem kv_L_175 : mWV RL 175 yX4_millis cX4_millis 2 (some (.object "java/lang/String")) 1 := ⟨kw_1172, kw_1173, kw_1174, kw_42, kw_1175, nmh_5, pmd_33⟩
theorem kl_X4_121 : (Cond.classLink RX4 121 "java/lang/StringBuilder") ∈ mW := kw_1177
theorem kv_L_178 : mWV RL 178 yX4_orderMoment cX4_orderMoment 3 (some .int) 2 := ⟨kw_1208, kw_1209, kw_1210, kw_42, kw_1211, nmh_5, pmd_19⟩
theorem kv_L_181 : mWV RL 181 yX4_isMoment cX4_isMoment 4 (some .boolean) 3 := ⟨kw_1212, kw_1213, kw_1214, kw_42, kw_1215, nmh_5, pmd_35⟩
theorem kv_L_188 : mWV RL 188 yX4_date cX4_date 7 (some .int) 6 := ⟨kw_1216, kw_1217, kw_1218, kw_42, kw_1219, nmh_5, pmd_37⟩
theorem kc_X4_153 : (Cond.constantLong RX4 153 (9999)) ∈ mW := kw_1220
theorem ks_X4_155 : mWS RX4 155 yX4_isTime cX4_isTime 2 (some .boolean) 2 := ⟨kw_1221, kw_1222, kw_42, kw_1223, nmh_5, pmd_50⟩
theorem kc_X4_143 : (Cond.constantLong RX4 143 (86399)) ∈ mW := kw_1224
theorem kc_X4_145 : (Cond.constantLong RX4 145 (999999999)) ∈ mW := kw_1225
theorem ks_X4_159 : mWS RX4 159 yX4_isThere cX4_isThere 3 (some .boolean) 3 := ⟨kw_1226, kw_1227, kw_42, kw_1228, nmh_5, pmd_35⟩
theorem kc_X4_147 : (Cond.constantLong RX4 147 (1910)) ∈ mW := kw_1229
theorem kc_X4_149 : (Cond.constantLong RX4 149 (2030)) ∈ mW := kw_1230
theorem kc_X4_151 : (Cond.constantLong RX4 151 (12)) ∈ mW := kw_1231
theorem ks_X4_55 : mWS RX4 55 yX4_daysOf cX4_daysOf 2 (some .int) 2 := ⟨kw_1232, kw_1233, kw_42, kw_1234, nmh_5, pmd_19⟩
theorem ks_X4_44 : mWS RX4 44 yX4_isLeap cX4_isLeap 1 (some .boolean) 1 := ⟨kw_1235, kw_1236, kw_42, kw_1237, nmh_5, pmd_20⟩
theorem ks_X4_163 : mWS RX4 163 yX4_dayOf cX4_dayOf 5 (some .int) 3 := ⟨kw_1238, kw_1239, kw_42, kw_1240, nmh_5, pmd_27⟩
theorem ks_X4_52 : mWS RX4 52 yX4_firstOf cX4_firstOf 3 (some .int) 1 := ⟨kw_1241, kw_1242, kw_42, kw_1243, nmh_5, pmd_15⟩
theorem ks_X4_48 : mWS RX4 48 yX4_daysOf_ cX4_daysOf_ 1 (some .int) 1 := ⟨kw_1244, kw_1245, kw_42, kw_1246, nmh_5, pmd_15⟩
theorem kv_X4_139 : mWV RX4 139 yX4_put cX4_put 6 (some .int) 5 := ⟨kw_1247, kw_1249, kw_28, kw_42, kw_1250, nmh_5, pmd_51⟩
theorem kv_L_191 : mWV RL 191 yX4_dateOf cX4_dateOf 4 (some .int) 3 := ⟨kw_1251, kw_1252, kw_1253, kw_42, kw_1254, nmh_5, pmd_27⟩
theorem kv_X4_167 : mWV RX4 167 yX4_put_ cX4_put_ 10 (some .int) 5 := ⟨kw_1255, kw_1257, kw_29, kw_42, kw_1258, nmh_5, pmd_52⟩
theorem ks_X4_135 : mWS RX4 135 yX4_isDay cX4_isDay 2 (some .boolean) 1 := ⟨kw_1259, kw_1260, kw_42, kw_1261, nmh_5, pmd_53⟩
theorem kv_L_194 : mWV RL 194 yX4_moveDate cX4_moveDate 9 (some .int) 4 := ⟨kw_1262, kw_1263, kw_1264, kw_42, kw_1265, nmh_5, pmd_30⟩
theorem kc_X4_183 : (Cond.constantLong RX4 183 (7)) ∈ mW := kw_1266
theorem kv_X4_185 : mWV RX4 185 yX4_moveMonths cX4_moveMonths 9 (some .int) 2 := ⟨kw_1267, kw_1269, kw_30, kw_42, kw_1270, nmh_5, pmd_28⟩
theorem ks_X4_170 : mWS RX4 170 yX4_parts cX4_parts 5 (some (.array .int)) 1 := ⟨kw_1271, kw_1272, kw_42, kw_1273, nmh_5, pmd_54⟩
theorem ks_X4_58 : mWS RX4 58 yX4_yearOf cX4_yearOf 3 (some .int) 1 := ⟨kw_1274, kw_1275, kw_42, kw_1276, nmh_5, pmd_15⟩
theorem kv_X4_174 : mWV RX4 174 yX4_putDay cX4_putDay 5 (some .int) 4 := ⟨kw_1277, kw_1279, kw_31, kw_42, kw_1280, nmh_5, pmd_24⟩
theorem ks_X4_178 : mWS RX4 178 yJ9_min_7cf53 cJ9_min_7cf53 2 (some .int) 2 := ⟨kw_1281, kw_596, kw_49, kw_597, nmh_1, pmd_19⟩
theorem ks_X4_188 : mWS RX4 188 yX4_secondsOf cX4_secondsOf 1 (some .int) 1 := ⟨kw_1282, kw_1283, kw_42, kw_1284, nmh_5, pmd_15⟩
theorem kv_L_197 : mWV RL 197 yX4_set cX4_set 6 (some .int) 3 := ⟨kw_1285, kw_1286, kw_1287, kw_42, kw_1288, nmh_5, pmd_27⟩
theorem kc_X4_191 : (Cond.constantLong RX4 191 (23)) ∈ mW := kw_1289
theorem kv_L_201 : mWV RL 201 yX4_anew cX4_anew 5 (some .int) 3 := ⟨kw_1290, kw_1291, kw_1292, kw_42, kw_1293, nmh_5, pmd_45⟩
theorem kv_L_204 : mWV RL 204 yX4_copy cX4_copy 3 (some .int) 2 := ⟨kw_1294, kw_1295, kw_1296, kw_42, kw_1297, nmh_5, pmd_19⟩
theorem kv_L_207 : mWV RL 207 yX4_ofDate cX4_ofDate 3 (some .int) 2 := ⟨kw_1298, kw_1299, kw_1300, kw_42, kw_1301, nmh_5, pmd_19⟩
theorem kv_X4_193 : mWV RX4 193 yX4_told cX4_told 4 (some .int) 2 := ⟨kw_1302, kw_1304, kw_32, kw_42, kw_1305, nmh_5, pmd_19⟩
theorem kv_L_210 : mWV RL 210 yX4_orderDate cX4_orderDate 3 (some .int) 2 := ⟨kw_1306, kw_1307, kw_1308, kw_42, kw_1309, nmh_5, pmd_19⟩
theorem kv_X4_196 : mWV RX4 196 yX4_ordered cX4_ordered 3 (some .int) 2 := ⟨kw_1310, kw_1312, kw_33, kw_42, kw_1313, nmh_5, pmd_19⟩
theorem kv_L_213 : mWV RL 213 yX4_isDate cX4_isDate 4 (some .boolean) 3 := ⟨kw_1314, kw_1315, kw_1316, kw_42, kw_1317, nmh_5, pmd_35⟩
theorem kv_X4_199 : mWV RX4 199 yX4_is cX4_is 4 (some .boolean) 3 := ⟨kw_1318, kw_1320, kw_34, kw_42, kw_1321, nmh_5, pmd_35⟩
theorem kv_L_216 : mWV RL 216 yX4_clock cX4_clock 5 (some .int) 4 := ⟨kw_1322, kw_1323, kw_1324, kw_42, kw_1325, nmh_5, pmd_24⟩
theorem ks_X4_205 : mWS RX4 205 yX4_isNoClock cX4_isNoClock 1 (some .boolean) 1 := ⟨kw_1326, kw_1327, kw_42, kw_1328, nmh_5, pmd_20⟩
theorem kv_X4_208 : mWV RX4 208 yX4_turn cX4_turn 6 (some .int) 4 := ⟨kw_1329, kw_1331, kw_35, kw_42, kw_1332, nmh_5, pmd_55⟩
theorem kv_X4_202 : mWV RX4 202 yX4_ofSecond cX4_ofSecond 2 (some .int) 1 := ⟨kw_1333, kw_1335, kw_36, kw_42, kw_1336, nmh_5, pmd_15⟩
theorem kv_L_219 : mWV RL 219 yX4_clockOf cX4_clockOf 3 (some .int) 2 := ⟨kw_1337, kw_1338, kw_1339, kw_42, kw_1340, nmh_5, pmd_19⟩
theorem kv_L_231 : mWV RL 231 yX4_copyClock cX4_copyClock 3 (some .int) 2 := ⟨kw_1341, kw_1342, kw_1343, kw_42, kw_1344, nmh_5, pmd_19⟩
theorem kv_L_222 : mWV RL 222 yX4_strike cX4_strike 3 (some .int) 2 := ⟨kw_1345, kw_1346, kw_1347, kw_42, kw_1348, nmh_5, pmd_19⟩
theorem kv_L_225 : mWV RL 225 yX4_moveClock cX4_moveClock 9 (some .int) 4 := ⟨kw_1349, kw_1350, kw_1351, kw_42, kw_1352, nmh_5, pmd_30⟩
theorem kc_X4_212 : (Cond.constantLong RX4 212 (4)) ∈ mW := kw_1353
theorem kv_L_228 : mWV RL 228 yX4_anewClock cX4_anewClock 5 (some .int) 3 := ⟨kw_1354, kw_1355, kw_1356, kw_42, kw_1357, nmh_5, pmd_45⟩
theorem kv_L_234 : mWV RL 234 yX4_ofClock cX4_ofClock 3 (some .int) 2 := ⟨kw_1358, kw_1359, kw_1360, kw_42, kw_1361, nmh_5, pmd_19⟩
theorem kc_X4_214 : (Cond.constantLong RX4 214 (5)) ∈ mW := kw_1362
theorem kv_X4_216 : mWV RX4 216 yX4_clockTold cX4_clockTold 3 (some .int) 2 := ⟨kw_1363, kw_1365, kw_37, kw_42, kw_1366, nmh_5, pmd_19⟩
theorem kv_L_237 : mWV RL 237 yX4_orderClock cX4_orderClock 3 (some .int) 2 := ⟨kw_1367, kw_1368, kw_1369, kw_42, kw_1370, nmh_5, pmd_19⟩
theorem kv_L_240 : mWV RL 240 yX4_isClock cX4_isClock 4 (some .boolean) 3 := ⟨kw_1371, kw_1372, kw_1373, kw_42, kw_1374, nmh_5, pmd_35⟩
theorem kv_L_244 : mWV RL 244 yX4_knock cX4_knock 1 (some .int) 0 := ⟨kw_1375, kw_1376, kw_1377, kw_42, kw_1378, nmh_5, pmd_0⟩
theorem kv_L_247 : mWV RL 247 yX4_house cX4_house 2 (some .int) 1 := ⟨kw_1379, kw_1380, kw_1381, kw_42, kw_1382, nmh_5, pmd_15⟩
theorem kv_X4_222 : mWV RX4 222 yX4_houseTold cX4_houseTold 5 (some .int) 1 := ⟨kw_1383, kw_1385, kw_38, kw_42, kw_1386, nmh_5, pmd_15⟩
theorem kv_L_252 : mWV RL 252 yX4_isSound cX4_isSound 1 (some .boolean) 0 := ⟨kw_1387, kw_1388, kw_1389, kw_42, kw_1390, nmh_5, pmd_1⟩
theorem kv_L_257 : mWV RL 257 yX4_digest cX4_digest 8 (some .long) 0 := ⟨kw_1391, kw_1392, kw_1393, kw_42, kw_1394, nmh_5, pmd_7⟩
theorem kc_X4_225 : (Cond.constantLong RX4 225 (6199)) ∈ mW := kw_1395
theorem kc_X4_227 : (Cond.constantLong RX4 227 (31)) ∈ mW := kw_1396

