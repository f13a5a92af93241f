-- 83 zcase
section
/-! The law's cases, exact. (Rows by a program of this repository.) -/
set_option maxHeartbeats 1000000 in
theorem law_z17 {X : mC} {b L : Nat} {xs : Nat → Int32} {ad ae : Nat → Nat} {cs : ClassId × ClassId × ClassId} {S : mS} {T : mT2} {th : Int32} {ao t k n : Nat} {n0 : Int64} {s0 : Value} (hX : mOK X RL code 7 room_1 [] (mTy cs)) (hg : mHas X mNc) (hScr : mScr X b L xs) (hE : mLE X b) (hS : sWF S) (hL : L ≤ 3584) (hi : 7 * t + 6 < L) (hk : k + 100 ≤ 652172) (hn : n + 2500 ≤ 7139589) (back : mBkZ X b ad ae cs ao t k n) : mV X 1086 [(0, some (.ref b)), (1, some (.ref (ad 0))), (2, some (.ref (ae 0))), (3, some (.ref ao)), (4, some (.int (nI (7 * t))))] [] (mRw ad ae cs (mKof S T) (mJof S th) [(ao, .inr (4, [.long n0, s0]))]) k n := by
  refine r_aload_n hX dlaw_1086 rfl rfl (r_argZ (c := 1) hX hScr rfl rfl (by decide) (by omega) (by omega) dlaw_1087 dlaw_1088 dlaw_1090 dlaw_1091 dlaw_1092 (r_argZ (c := 2) hX hScr rfl rfl (by decide) (by omega) (by omega) dlaw_1093 dlaw_1094 dlaw_1096 dlaw_1097 dlaw_1098 (r_argZ (c := 3) hX hScr rfl rfl (by decide) (by omega) (by omega) dlaw_1099 dlaw_1100 dlaw_1102 dlaw_1103 dlaw_1104 (r_ne0Z hX (iZ_rng _) dlaw_1105 dlaw_1108 dlaw_1109 dlaw_1112 (r_aload_n hX dlaw_1113 rfl rfl (r_callW hX hg (z_L_anew ad ae cs S T (mJof S th) [] hS ao n0 s0 _ (iZ_rng _) _ (iZ_rng _) _) kh_L_194 rfl rfl (Nat.le_of_ble_eq_true rfl) ⟨(Nat.le_of_ble_eq_true rfl), (Nat.le_of_ble_eq_true rfl)⟩ ⟨by show k + 2 ≤ 652172; omega, by show n + 12 ≤ 7139589; omega⟩ dlaw_1114 (fun v9 ws9 h9 => ?_)))))))
  obtain ⟨r9, n9, S9, g9, rfl, hw9⟩ := zU9 (W := fun S9 n9 => mRw ad ae cs (mKof S9 T) (mJof S th) [(ao, .inr (4, [.long n9, s0]))]) h9
  replace hw9 : ws9 = mRw ad ae cs (mKof S9 T) (mJof S th) [(ao, .inr (4, [.long n9, s0]))] := hw9
  subst hw9
  dsimp only [mPush]
  refine r_istore hX dlaw_1117 (by decide) rfl (r_aload_n hX dlaw_1119 rfl rfl (r_argZ (c := 1) hX hScr rfl rfl (by decide) (by omega) (by omega) dlaw_1120 dlaw_1121 dlaw_1123 dlaw_1124 dlaw_1125 (r_argZ (c := 2) hX hScr rfl rfl (by decide) (by omega) (by omega) dlaw_1126 dlaw_1127 dlaw_1129 dlaw_1130 dlaw_1131 (r_argZ (c := 3) hX hScr rfl rfl (by decide) (by omega) (by omega) dlaw_1132 dlaw_1133 dlaw_1135 dlaw_1136 dlaw_1137 (r_ne0Z hX (iZ_rng _) dlaw_1138 dlaw_1141 dlaw_1142 dlaw_1145 (r_callV hX (z_X4_anew ad ae cs (mKof S9 T) S th [(ao, .inr (4, [.long n9, s0]))] hS _ (iZ_rng _) _ (iZ_rng _) _) kv_L_197 14 rfl rfl rfl rfl (Nat.le_of_ble_eq_true rfl) ⟨(Nat.le_of_ble_eq_true rfl), (Nat.le_of_ble_eq_true rfl)⟩ ⟨by show k + 2 + 0 ≤ 652172; omega, by show n + 12 + 0 ≤ 7139589; omega⟩ dlaw_1146 (fun _ _ z => False.elim z) (fun v8 ws8 h8 => ?_)))))))
  obtain ⟨r8, th8, S8, g8, rfl, hw8⟩ := zU8 (W := fun S8 th8 => mRw ad ae cs (mKof S9 T) (mJof S8 th8) [(ao, .inr (4, [.long n9, s0]))]) h8
  replace hw8 : ws8 = mRw ad ae cs (mKof S9 T) (mJof S8 th8) [(ao, .inr (4, [.long n9, s0]))] := hw8
  subst hw8
  dsimp only [mPush]
  obtain ⟨e1, e2, hn9, hwf⟩ := zM g9 g8 hS (fun g => hS.oLoc (by omega) (hS.2.2.1 (((xs (7 * t + 1)).toInt).toNat) (by omega)).1 (hS.1 (((xs (7 * t + 2)).toInt).toNat) (by omega)))
  subst S8
  subst th8
  refine r_istore hX dlaw_1149 (by decide) rfl (r_goto (tgt := 1858) hX dlaw_1151 (by decide) ?_)
  exact r_loc (lv' := [(0, some (.ref b)), (1, some (.ref (ad 0))), (2, some (.ref (ae 0))), (3, some (.ref ao)), (4, some (.int (nI (7 * t))))]) (by exact ⟨rfl, rfl, rfl, rfl, rfl, trivial⟩) (Nat.le_refl _) (Nat.le_refl _) (back S9 T r9 n9 s0 _ _ hwf (by omega) (by omega))
set_option maxHeartbeats 1000000 in
theorem law_z18 {X : mC} {b L : Nat} {xs : Nat → Int32} {ad ae : Nat → Nat} {cs : ClassId × ClassId × ClassId} {S : mS} {T : mT2} {th : Int32} {ao t k n : Nat} {n0 : Int64} {s0 : Value} (hX : mOK X RL code 7 room_1 [] (mTy cs)) (hg : mHas X mNc) (hScr : mScr X b L xs) (hE : mLE X b) (hS : sWF S) (hL : L ≤ 3584) (hi : 7 * t + 6 < L) (hk : k + 100 ≤ 652172) (hn : n + 2500 ≤ 7139589) (back : mBkZ X b ad ae cs ao t k n) : mV X 1154 [(0, some (.ref b)), (1, some (.ref (ad 0))), (2, some (.ref (ae 0))), (3, some (.ref ao)), (4, some (.int (nI (7 * t))))] [] (mRw ad ae cs (mKof S T) (mJof S th) [(ao, .inr (4, [.long n0, s0]))]) k n := by
  refine r_aload_n hX dlaw_1154 rfl rfl (r_argZ (c := 1) hX hScr rfl rfl (by decide) (by omega) (by omega) dlaw_1155 dlaw_1156 dlaw_1158 dlaw_1159 dlaw_1160 (r_argZ (c := 2) hX hScr rfl rfl (by decide) (by omega) (by omega) dlaw_1161 dlaw_1162 dlaw_1164 dlaw_1165 dlaw_1166 (r_aload_n hX dlaw_1167 rfl rfl (r_callW hX hg (z_L_copy ad ae cs S T (mJof S th) [] hS ao n0 s0 _ (iZ_rng _) _ (iZ_rng _)) kh_L_198 rfl rfl (Nat.le_of_ble_eq_true rfl) ⟨(Nat.le_of_ble_eq_true rfl), (Nat.le_of_ble_eq_true rfl)⟩ ⟨by show k + 2 ≤ 652172; omega, by show n + 12 ≤ 7139589; omega⟩ dlaw_1168 (fun v9 ws9 h9 => ?_)))))
  obtain ⟨r9, n9, S9, g9, rfl, hw9⟩ := zU9 (W := fun S9 n9 => mRw ad ae cs (mKof S9 T) (mJof S th) [(ao, .inr (4, [.long n9, s0]))]) h9
  replace hw9 : ws9 = mRw ad ae cs (mKof S9 T) (mJof S th) [(ao, .inr (4, [.long n9, s0]))] := hw9
  subst hw9
  dsimp only [mPush]
  refine r_istore hX dlaw_1171 (by decide) rfl (r_aload_n hX dlaw_1173 rfl rfl (r_argZ (c := 1) hX hScr rfl rfl (by decide) (by omega) (by omega) dlaw_1174 dlaw_1175 dlaw_1177 dlaw_1178 dlaw_1179 (r_argZ (c := 2) hX hScr rfl rfl (by decide) (by omega) (by omega) dlaw_1180 dlaw_1181 dlaw_1183 dlaw_1184 dlaw_1185 (r_callV hX (z_X4_copy ad ae cs (mKof S9 T) S th [(ao, .inr (4, [.long n9, s0]))] hS _ (iZ_rng _) _ (iZ_rng _)) kv_L_200 14 rfl rfl rfl rfl (Nat.le_of_ble_eq_true rfl) ⟨(Nat.le_of_ble_eq_true rfl), (Nat.le_of_ble_eq_true rfl)⟩ ⟨by show k + 2 + 0 ≤ 652172; omega, by show n + 12 + 0 ≤ 7139589; omega⟩ dlaw_1186 (fun _ _ z => False.elim z) (fun v8 ws8 h8 => ?_)))))
  obtain ⟨r8, th8, S8, g8, rfl, hw8⟩ := zU8 (W := fun S8 th8 => mRw ad ae cs (mKof S9 T) (mJof S8 th8) [(ao, .inr (4, [.long n9, s0]))]) h8
  replace hw8 : ws8 = mRw ad ae cs (mKof S9 T) (mJof S8 th8) [(ao, .inr (4, [.long n9, s0]))] := hw8
  subst hw8
  dsimp only [mPush]
  obtain ⟨e1, e2, hn9, hwf⟩ := zM g9 g8 hS (fun g => hS.oLoc (by omega) (hS.2.2.1 (((xs (7 * t + 2)).toInt).toNat) (by omega)).1 (hS.2.2.1 (((xs (7 * t + 2)).toInt).toNat) (by omega)).2)
  subst S8
  subst th8
  refine r_istore hX dlaw_1189 (by decide) rfl (r_goto (tgt := 1858) hX dlaw_1191 (by decide) ?_)
  exact r_loc (lv' := [(0, some (.ref b)), (1, some (.ref (ad 0))), (2, some (.ref (ae 0))), (3, some (.ref ao)), (4, some (.int (nI (7 * t))))]) (by exact ⟨rfl, rfl, rfl, rfl, rfl, trivial⟩) (Nat.le_refl _) (Nat.le_refl _) (back S9 T r9 n9 s0 _ _ hwf (by omega) (by omega))
set_option maxHeartbeats 1000000 in
theorem law_z19 {X : mC} {b L : Nat} {xs : Nat → Int32} {ad ae : Nat → Nat} {cs : ClassId × ClassId × ClassId} {S : mS} {T : mT2} {th : Int32} {ao t k n : Nat} {n0 : Int64} {s0 : Value} (hX : mOK X RL code 7 room_1 [] (mTy cs)) (hg : mHas X mNc) (hScr : mScr X b L xs) (hE : mLE X b) (hS : sWF S) (hL : L ≤ 3584) (hi : 7 * t + 6 < L) (hk : k + 100 ≤ 652172) (hn : n + 2500 ≤ 7139589) (back : mBkZ X b ad ae cs ao t k n) : mV X 1194 [(0, some (.ref b)), (1, some (.ref (ad 0))), (2, some (.ref (ae 0))), (3, some (.ref ao)), (4, some (.int (nI (7 * t))))] [] (mRw ad ae cs (mKof S T) (mJof S th) [(ao, .inr (4, [.long n0, s0]))]) k n := by
  refine r_aload_n hX dlaw_1194 rfl rfl (r_argZ (c := 1) hX hScr rfl rfl (by decide) (by omega) (by omega) dlaw_1195 dlaw_1196 dlaw_1198 dlaw_1199 dlaw_1200 (r_argZ (c := 2) hX hScr rfl rfl (by decide) (by omega) (by omega) dlaw_1201 dlaw_1202 dlaw_1204 dlaw_1205 dlaw_1206 (r_aload_n hX dlaw_1207 rfl rfl (r_callW hX hg (z_L_ofDate ad ae cs S T (mJof S th) [] hS ao n0 s0 _ (iZ_rng _) _ (iZ_rng _)) kh_L_201 rfl rfl (Nat.le_of_ble_eq_true rfl) ⟨(Nat.le_of_ble_eq_true rfl), (Nat.le_of_ble_eq_true rfl)⟩ ⟨by show k + 2 ≤ 652172; omega, by show n + 12 ≤ 7139589; omega⟩ dlaw_1208 (fun v9 ws9 h9 => ?_)))))
  obtain ⟨r9, n9, S9, g9, rfl, hw9⟩ := zU9 (W := fun S9 n9 => mRw ad ae cs (mKof S9 T) (mJof S th) [(ao, .inr (4, [.long n9, s0]))]) h9
  replace hw9 : ws9 = mRw ad ae cs (mKof S9 T) (mJof S th) [(ao, .inr (4, [.long n9, s0]))] := hw9
  subst hw9
  dsimp only [mPush]
  refine r_istore hX dlaw_1211 (by decide) rfl (r_aload_n hX dlaw_1213 rfl rfl (r_argZ (c := 1) hX hScr rfl rfl (by decide) (by omega) (by omega) dlaw_1214 dlaw_1215 dlaw_1217 dlaw_1218 dlaw_1219 (r_argZ (c := 2) hX hScr rfl rfl (by decide) (by omega) (by omega) dlaw_1220 dlaw_1221 dlaw_1223 dlaw_1224 dlaw_1225 (r_callV hX (z_X4_ofDate ad ae cs (mKof S9 T) S th [(ao, .inr (4, [.long n9, s0]))] hS _ (iZ_rng _) _ (iZ_rng _)) kv_L_203 14 rfl rfl rfl rfl (Nat.le_of_ble_eq_true rfl) ⟨(Nat.le_of_ble_eq_true rfl), (Nat.le_of_ble_eq_true rfl)⟩ ⟨by show k + 2 + 1 ≤ 652172; omega, by show n + 12 + 4 ≤ 7139589; omega⟩ dlaw_1226 (fun _ _ z => False.elim z) (fun v8 ws8 h8 => ?_)))))
  obtain ⟨r8, th8, S8, g8, rfl, hw8⟩ := zU8 (W := fun S8 th8 => mRw ad ae cs (mKof S9 T) (mJof S8 th8) [(ao, .inr (4, [.long n9, s0]))]) h8
  replace hw8 : ws8 = mRw ad ae cs (mKof S9 T) (mJof S8 th8) [(ao, .inr (4, [.long n9, s0]))] := hw8
  subst hw8
  dsimp only [mPush]
  obtain ⟨e1, e2, hn9, hwf⟩ := zM g9 g8 hS (fun g => hS)
  subst S8
  subst th8
  refine r_istore hX dlaw_1229 (by decide) rfl (r_goto (tgt := 1858) hX dlaw_1231 (by decide) ?_)
  exact r_loc (lv' := [(0, some (.ref b)), (1, some (.ref (ad 0))), (2, some (.ref (ae 0))), (3, some (.ref ao)), (4, some (.int (nI (7 * t))))]) (by exact ⟨rfl, rfl, rfl, rfl, rfl, trivial⟩) (Nat.le_refl _) (Nat.le_refl _) (back S9 T r9 n9 s0 _ _ hwf (by omega) (by omega))
set_option maxHeartbeats 1000000 in
theorem law_z20 {X : mC} {b L : Nat} {xs : Nat → Int32} {ad ae : Nat → Nat} {cs : ClassId × ClassId × ClassId} {S : mS} {T : mT2} {th : Int32} {ao t k n : Nat} {n0 : Int64} {s0 : Value} (hX : mOK X RL code 7 room_1 [] (mTy cs)) (hg : mHas X mNc) (hScr : mScr X b L xs) (hE : mLE X b) (hS : sWF S) (hL : L ≤ 3584) (hi : 7 * t + 6 < L) (hk : k + 100 ≤ 652172) (hn : n + 2500 ≤ 7139589) (back : mBkZ X b ad ae cs ao t k n) : mV X 1234 [(0, some (.ref b)), (1, some (.ref (ad 0))), (2, some (.ref (ae 0))), (3, some (.ref ao)), (4, some (.int (nI (7 * t))))] [] (mRw ad ae cs (mKof S T) (mJof S th) [(ao, .inr (4, [.long n0, s0]))]) k n := by
  refine r_aload_n hX dlaw_1234 rfl rfl (r_argZ (c := 1) hX hScr rfl rfl (by decide) (by omega) (by omega) dlaw_1235 dlaw_1236 dlaw_1238 dlaw_1239 dlaw_1240 (r_argZ (c := 2) hX hScr rfl rfl (by decide) (by omega) (by omega) dlaw_1241 dlaw_1242 dlaw_1244 dlaw_1245 dlaw_1246 (r_aload_n hX dlaw_1247 rfl rfl (r_callW hX hg (z_L_orderDate ad ae cs S T (mJof S th) [] hS ao n0 s0 _ (iZ_rng _) _ (iZ_rng _)) kh_L_204 rfl rfl (Nat.le_of_ble_eq_true rfl) ⟨(Nat.le_of_ble_eq_true rfl), (Nat.le_of_ble_eq_true rfl)⟩ ⟨by show k + 2 ≤ 652172; omega, by show n + 12 ≤ 7139589; omega⟩ dlaw_1248 (fun v9 ws9 h9 => ?_)))))
  obtain ⟨r9, n9, S9, g9, rfl, hw9⟩ := zU9 (W := fun S9 n9 => mRw ad ae cs (mKof S9 T) (mJof S th) [(ao, .inr (4, [.long n9, s0]))]) h9
  replace hw9 : ws9 = mRw ad ae cs (mKof S9 T) (mJof S th) [(ao, .inr (4, [.long n9, s0]))] := hw9
  subst hw9
  dsimp only [mPush]
  refine r_istore hX dlaw_1251 (by decide) rfl (r_aload_n hX dlaw_1253 rfl rfl (r_argZ (c := 1) hX hScr rfl rfl (by decide) (by omega) (by omega) dlaw_1254 dlaw_1255 dlaw_1257 dlaw_1258 dlaw_1259 (r_argZ (c := 2) hX hScr rfl rfl (by decide) (by omega) (by omega) dlaw_1260 dlaw_1261 dlaw_1263 dlaw_1264 dlaw_1265 (r_callV hX (z_X4_orderDate ad ae cs (mKof S9 T) S th [(ao, .inr (4, [.long n9, s0]))] hS _ (iZ_rng _) _ (iZ_rng _)) kv_L_206 14 rfl rfl rfl rfl (Nat.le_of_ble_eq_true rfl) ⟨(Nat.le_of_ble_eq_true rfl), (Nat.le_of_ble_eq_true rfl)⟩ ⟨by show k + 2 + 0 ≤ 652172; omega, by show n + 12 + 0 ≤ 7139589; omega⟩ dlaw_1266 (fun _ _ z => False.elim z) (fun v8 ws8 h8 => ?_)))))
  obtain ⟨r8, th8, S8, g8, rfl, hw8⟩ := zU8 (W := fun S8 th8 => mRw ad ae cs (mKof S9 T) (mJof S8 th8) [(ao, .inr (4, [.long n9, s0]))]) h8
  replace hw8 : ws8 = mRw ad ae cs (mKof S9 T) (mJof S8 th8) [(ao, .inr (4, [.long n9, s0]))] := hw8
  subst hw8
  dsimp only [mPush]
  obtain ⟨e1, e2, hn9, hwf⟩ := zM g9 g8 hS (fun g => hS)
  subst S8
  subst th8
  refine r_istore hX dlaw_1269 (by decide) rfl (r_goto (tgt := 1858) hX dlaw_1271 (by decide) ?_)
  exact r_loc (lv' := [(0, some (.ref b)), (1, some (.ref (ad 0))), (2, some (.ref (ae 0))), (3, some (.ref ao)), (4, some (.int (nI (7 * t))))]) (by exact ⟨rfl, rfl, rfl, rfl, rfl, trivial⟩) (Nat.le_refl _) (Nat.le_refl _) (back S9 T r9 n9 s0 _ _ hwf (by omega) (by omega))
set_option maxHeartbeats 1000000 in
theorem law_z21 {X : mC} {b L : Nat} {xs : Nat → Int32} {ad ae : Nat → Nat} {cs : ClassId × ClassId × ClassId} {S : mS} {T : mT2} {th : Int32} {ao t k n : Nat} {n0 : Int64} {s0 : Value} (hX : mOK X RL code 7 room_1 [] (mTy cs)) (hg : mHas X mNc) (hScr : mScr X b L xs) (hE : mLE X b) (hS : sWF S) (hL : L ≤ 3584) (hi : 7 * t + 6 < L) (hk : k + 100 ≤ 652172) (hn : n + 2500 ≤ 7139589) (back : mBkZ X b ad ae cs ao t k n) : mV X 1274 [(0, some (.ref b)), (1, some (.ref (ad 0))), (2, some (.ref (ae 0))), (3, some (.ref ao)), (4, some (.int (nI (7 * t))))] [] (mRw ad ae cs (mKof S T) (mJof S th) [(ao, .inr (4, [.long n0, s0]))]) k n := by
  refine r_aload_n hX dlaw_1274 rfl rfl (r_argZ (c := 1) hX hScr rfl rfl (by decide) (by omega) (by omega) dlaw_1275 dlaw_1276 dlaw_1278 dlaw_1279 dlaw_1280 (r_argZ (c := 2) hX hScr rfl rfl (by decide) (by omega) (by omega) dlaw_1281 dlaw_1282 dlaw_1284 dlaw_1285 dlaw_1286 (r_argZ (c := 3) hX hScr rfl rfl (by decide) (by omega) (by omega) dlaw_1287 dlaw_1288 dlaw_1290 dlaw_1291 dlaw_1292 (r_aload_n hX dlaw_1293 rfl rfl (r_callW hX hg (z_L_isDate ad ae cs S T (mJof S th) [] hS ao n0 s0 _ (iZ_rng _) _ (iZ_rng _) _ (iZ_rng _)) kh_L_207 rfl rfl (Nat.le_of_ble_eq_true rfl) ⟨(Nat.le_of_ble_eq_true rfl), (Nat.le_of_ble_eq_true rfl)⟩ ⟨by show k + 3 ≤ 652172; omega, by show n + 18 ≤ 7139589; omega⟩ dlaw_1294 (fun v9 ws9 h9 => ?_))))))
  obtain ⟨r9, n9, S9, g9, rfl, hw9⟩ := zU9 (W := fun S9 n9 => mRw ad ae cs (mKof S9 T) (mJof S th) [(ao, .inr (4, [.long n9, s0]))]) h9
  replace hw9 : ws9 = mRw ad ae cs (mKof S9 T) (mJof S th) [(ao, .inr (4, [.long n9, s0]))] := hw9
  subst hw9
  dsimp only [mPush]
  refine r_istore hX dlaw_1297 (by decide) rfl (r_aload_n hX dlaw_1299 rfl rfl (r_argZ (c := 1) hX hScr rfl rfl (by decide) (by omega) (by omega) dlaw_1300 dlaw_1301 dlaw_1303 dlaw_1304 dlaw_1305 (r_argZ (c := 2) hX hScr rfl rfl (by decide) (by omega) (by omega) dlaw_1306 dlaw_1307 dlaw_1309 dlaw_1310 dlaw_1311 (r_argZ (c := 3) hX hScr rfl rfl (by decide) (by omega) (by omega) dlaw_1312 dlaw_1313 dlaw_1315 dlaw_1316 dlaw_1317 (r_callV hX (z_X4_isDate ad ae cs (mKof S9 T) S th [(ao, .inr (4, [.long n9, s0]))] hS _ (iZ_rng _) _ (iZ_rng _) _ (iZ_rng _)) kv_L_209 14 rfl rfl rfl rfl (Nat.le_of_ble_eq_true rfl) ⟨(Nat.le_of_ble_eq_true rfl), (Nat.le_of_ble_eq_true rfl)⟩ ⟨by show k + 3 + 0 ≤ 652172; omega, by show n + 18 + 0 ≤ 7139589; omega⟩ dlaw_1318 (fun _ _ z => False.elim z) (fun v8 ws8 h8 => ?_))))))
  obtain ⟨r8, th8, S8, g8, rfl, hw8⟩ := zU8 (W := fun S8 th8 => mRw ad ae cs (mKof S9 T) (mJof S8 th8) [(ao, .inr (4, [.long n9, s0]))]) h8
  replace hw8 : ws8 = mRw ad ae cs (mKof S9 T) (mJof S8 th8) [(ao, .inr (4, [.long n9, s0]))] := hw8
  subst hw8
  dsimp only [mPush]
  obtain ⟨e1, e2, hn9, hwf⟩ := zM g9 g8 hS (fun g => hS)
  subst S8
  subst th8
  refine r_istore hX dlaw_1321 (by decide) rfl (r_goto (tgt := 1858) hX dlaw_1323 (by decide) ?_)
  exact r_loc (lv' := [(0, some (.ref b)), (1, some (.ref (ad 0))), (2, some (.ref (ae 0))), (3, some (.ref ao)), (4, some (.int (nI (7 * t))))]) (by exact ⟨rfl, rfl, rfl, rfl, rfl, trivial⟩) (Nat.le_refl _) (Nat.le_refl _) (back S9 T r9 n9 s0 _ _ hwf (by omega) (by omega))
set_option maxHeartbeats 1000000 in
theorem law_z22 {X : mC} {b L : Nat} {xs : Nat → Int32} {ad ae : Nat → Nat} {cs : ClassId × ClassId × ClassId} {S : mS} {T : mT2} {th : Int32} {ao t k n : Nat} {n0 : Int64} {s0 : Value} (hX : mOK X RL code 7 room_1 [] (mTy cs)) (hg : mHas X mNc) (hScr : mScr X b L xs) (hE : mLE X b) (hS : sWF S) (hL : L ≤ 3584) (hi : 7 * t + 6 < L) (hk : k + 100 ≤ 652172) (hn : n + 2500 ≤ 7139589) (back : mBkZ X b ad ae cs ao t k n) : mV X 1326 [(0, some (.ref b)), (1, some (.ref (ad 0))), (2, some (.ref (ae 0))), (3, some (.ref ao)), (4, some (.int (nI (7 * t))))] [] (mRw ad ae cs (mKof S T) (mJof S th) [(ao, .inr (4, [.long n0, s0]))]) k n := by
  refine r_aload_n hX dlaw_1326 rfl rfl (r_argZ (c := 1) hX hScr rfl rfl (by decide) (by omega) (by omega) dlaw_1327 dlaw_1328 dlaw_1330 dlaw_1331 dlaw_1332 (r_argZ (c := 2) hX hScr rfl rfl (by decide) (by omega) (by omega) dlaw_1333 dlaw_1334 dlaw_1336 dlaw_1337 dlaw_1338 (r_argZ (c := 3) hX hScr rfl rfl (by decide) (by omega) (by omega) dlaw_1339 dlaw_1340 dlaw_1342 dlaw_1343 dlaw_1344 (r_argZ (c := 4) hX hScr rfl rfl (by decide) (by omega) (by omega) dlaw_1345 dlaw_1346 dlaw_1348 dlaw_1349 dlaw_1350 (r_aload_n hX dlaw_1351 rfl rfl (r_callW hX hg (z_L_clock ad ae cs S T (mJof S th) [] hS ao n0 s0 _ (iZ_rng _) _ (iZ_rng _) _ (iZ_rng _) _ (iZ_rng _)) kh_L_210 rfl rfl (Nat.le_of_ble_eq_true rfl) ⟨(Nat.le_of_ble_eq_true rfl), (Nat.le_of_ble_eq_true rfl)⟩ ⟨by show k + 4 ≤ 652172; omega, by show n + 24 ≤ 7139589; omega⟩ dlaw_1352 (fun v9 ws9 h9 => ?_)))))))
  obtain ⟨r9, n9, S9, g9, rfl, hw9⟩ := zU9 (W := fun S9 n9 => mRw ad ae cs (mKof S9 T) (mJof S th) [(ao, .inr (4, [.long n9, s0]))]) h9
  replace hw9 : ws9 = mRw ad ae cs (mKof S9 T) (mJof S th) [(ao, .inr (4, [.long n9, s0]))] := hw9
  subst hw9
  dsimp only [mPush]
  refine r_istore hX dlaw_1355 (by decide) rfl (r_aload_n hX dlaw_1357 rfl rfl (r_argZ (c := 1) hX hScr rfl rfl (by decide) (by omega) (by omega) dlaw_1358 dlaw_1359 dlaw_1361 dlaw_1362 dlaw_1363 (r_argZ (c := 2) hX hScr rfl rfl (by decide) (by omega) (by omega) dlaw_1364 dlaw_1365 dlaw_1367 dlaw_1368 dlaw_1369 (r_argZ (c := 3) hX hScr rfl rfl (by decide) (by omega) (by omega) dlaw_1370 dlaw_1371 dlaw_1373 dlaw_1374 dlaw_1375 (r_argZ (c := 4) hX hScr rfl rfl (by decide) (by omega) (by omega) dlaw_1376 dlaw_1377 dlaw_1379 dlaw_1380 dlaw_1381 (r_callV hX (z_X4_clock ad ae cs (mKof S9 T) S th [(ao, .inr (4, [.long n9, s0]))] hS _ (iZ_rng _) _ (iZ_rng _) _ (iZ_rng _) _ (iZ_rng _)) kv_L_212 14 rfl rfl rfl rfl (Nat.le_of_ble_eq_true rfl) ⟨(Nat.le_of_ble_eq_true rfl), (Nat.le_of_ble_eq_true rfl)⟩ ⟨by show k + 4 + 0 ≤ 652172; omega, by show n + 24 + 0 ≤ 7139589; omega⟩ dlaw_1382 (fun _ _ z => False.elim z) (fun v8 ws8 h8 => ?_)))))))
  obtain ⟨r8, th8, S8, g8, rfl, hw8⟩ := zU8 (W := fun S8 th8 => mRw ad ae cs (mKof S9 T) (mJof S8 th8) [(ao, .inr (4, [.long n9, s0]))]) h8
  replace hw8 : ws8 = mRw ad ae cs (mKof S9 T) (mJof S8 th8) [(ao, .inr (4, [.long n9, s0]))] := hw8
  subst hw8
  dsimp only [mPush]
  obtain ⟨e1, e2, hn9, hwf⟩ := zM g9 g8 hS (fun g => hS.oClk g.2.2 (hS.1 (((xs (7 * t + 4)).toInt).toNat) (by omega)))
  subst S8
  subst th8
  refine r_istore hX dlaw_1385 (by decide) rfl (r_goto (tgt := 1858) hX dlaw_1387 (by decide) ?_)
  exact r_loc (lv' := [(0, some (.ref b)), (1, some (.ref (ad 0))), (2, some (.ref (ae 0))), (3, some (.ref ao)), (4, some (.int (nI (7 * t))))]) (by exact ⟨rfl, rfl, rfl, rfl, rfl, trivial⟩) (Nat.le_refl _) (Nat.le_refl _) (back S9 T r9 n9 s0 _ _ hwf (by omega) (by omega))
set_option maxHeartbeats 1000000 in
theorem law_z23 {X : mC} {b L : Nat} {xs : Nat → Int32} {ad ae : Nat → Nat} {cs : ClassId × ClassId × ClassId} {S : mS} {T : mT2} {th : Int32} {ao t k n : Nat} {n0 : Int64} {s0 : Value} (hX : mOK X RL code 7 room_1 [] (mTy cs)) (hg : mHas X mNc) (hScr : mScr X b L xs) (hE : mLE X b) (hS : sWF S) (hL : L ≤ 3584) (hi : 7 * t + 6 < L) (hk : k + 100 ≤ 652172) (hn : n + 2500 ≤ 7139589) (back : mBkZ X b ad ae cs ao t k n) : mV X 1390 [(0, some (.ref b)), (1, some (.ref (ad 0))), (2, some (.ref (ae 0))), (3, some (.ref ao)), (4, some (.int (nI (7 * t))))] [] (mRw ad ae cs (mKof S T) (mJof S th) [(ao, .inr (4, [.long n0, s0]))]) k n := by
  refine r_aload_n hX dlaw_1390 rfl rfl (r_argZ (c := 1) hX hScr rfl rfl (by decide) (by omega) (by omega) dlaw_1391 dlaw_1392 dlaw_1394 dlaw_1395 dlaw_1396 (r_argZ (c := 2) hX hScr rfl rfl (by decide) (by omega) (by omega) dlaw_1397 dlaw_1398 dlaw_1400 dlaw_1401 dlaw_1402 (r_aload_n hX dlaw_1403 rfl rfl (r_callW hX hg (z_L_clockOf ad ae cs S T (mJof S th) [] hS ao n0 s0 _ (iZ_rng _) _ (iZ_rng _)) kh_L_213 rfl rfl (Nat.le_of_ble_eq_true rfl) ⟨(Nat.le_of_ble_eq_true rfl), (Nat.le_of_ble_eq_true rfl)⟩ ⟨by show k + 2 ≤ 652172; omega, by show n + 12 ≤ 7139589; omega⟩ dlaw_1404 (fun v9 ws9 h9 => ?_)))))
  obtain ⟨r9, n9, S9, g9, rfl, hw9⟩ := zU9 (W := fun S9 n9 => mRw ad ae cs (mKof S9 T) (mJof S th) [(ao, .inr (4, [.long n9, s0]))]) h9
  replace hw9 : ws9 = mRw ad ae cs (mKof S9 T) (mJof S th) [(ao, .inr (4, [.long n9, s0]))] := hw9
  subst hw9
  dsimp only [mPush]
  refine r_istore hX dlaw_1407 (by decide) rfl (r_aload_n hX dlaw_1409 rfl rfl (r_argZ (c := 1) hX hScr rfl rfl (by decide) (by omega) (by omega) dlaw_1410 dlaw_1411 dlaw_1413 dlaw_1414 dlaw_1415 (r_argZ (c := 2) hX hScr rfl rfl (by decide) (by omega) (by omega) dlaw_1416 dlaw_1417 dlaw_1419 dlaw_1420 dlaw_1421 (r_callV hX (z_X4_clockOf ad ae cs (mKof S9 T) S th [(ao, .inr (4, [.long n9, s0]))] hS _ (iZ_rng _) _ (iZ_rng _)) kv_L_215 14 rfl rfl rfl rfl (Nat.le_of_ble_eq_true rfl) ⟨(Nat.le_of_ble_eq_true rfl), (Nat.le_of_ble_eq_true rfl)⟩ ⟨by show k + 2 + 0 ≤ 652172; omega, by show n + 12 + 0 ≤ 7139589; omega⟩ dlaw_1422 (fun _ _ z => False.elim z) (fun v8 ws8 h8 => ?_)))))
  obtain ⟨r8, th8, S8, g8, rfl, hw8⟩ := zU8 (W := fun S8 th8 => mRw ad ae cs (mKof S9 T) (mJof S8 th8) [(ao, .inr (4, [.long n9, s0]))]) h8
  replace hw8 : ws8 = mRw ad ae cs (mKof S9 T) (mJof S8 th8) [(ao, .inr (4, [.long n9, s0]))] := hw8
  subst hw8
  dsimp only [mPush]
  obtain ⟨e1, e2, hn9, hwf⟩ := zM g9 g8 hS (fun g => hS.oClk (hS.2.2.1 (((xs (7 * t + 2)).toInt).toNat) (by omega)).1 (hS.2.2.1 (((xs (7 * t + 2)).toInt).toNat) (by omega)).2)
  subst S8
  subst th8
  refine r_istore hX dlaw_1425 (by decide) rfl (r_goto (tgt := 1858) hX dlaw_1427 (by decide) ?_)
  exact r_loc (lv' := [(0, some (.ref b)), (1, some (.ref (ad 0))), (2, some (.ref (ae 0))), (3, some (.ref ao)), (4, some (.int (nI (7 * t))))]) (by exact ⟨rfl, rfl, rfl, rfl, rfl, trivial⟩) (Nat.le_refl _) (Nat.le_refl _) (back S9 T r9 n9 s0 _ _ hwf (by omega) (by omega))
set_option maxHeartbeats 1000000 in
theorem law_z24 {X : mC} {b L : Nat} {xs : Nat → Int32} {ad ae : Nat → Nat} {cs : ClassId × ClassId × ClassId} {S : mS} {T : mT2} {th : Int32} {ao t k n : Nat} {n0 : Int64} {s0 : Value} (hX : mOK X RL code 7 room_1 [] (mTy cs)) (hg : mHas X mNc) (hScr : mScr X b L xs) (hE : mLE X b) (hS : sWF S) (hL : L ≤ 3584) (hi : 7 * t + 6 < L) (hk : k + 100 ≤ 652172) (hn : n + 2500 ≤ 7139589) (back : mBkZ X b ad ae cs ao t k n) : mV X 1430 [(0, some (.ref b)), (1, some (.ref (ad 0))), (2, some (.ref (ae 0))), (3, some (.ref ao)), (4, some (.int (nI (7 * t))))] [] (mRw ad ae cs (mKof S T) (mJof S th) [(ao, .inr (4, [.long n0, s0]))]) k n := by
  refine r_aload_n hX dlaw_1430 rfl rfl (r_argZ (c := 1) hX hScr rfl rfl (by decide) (by omega) (by omega) dlaw_1431 dlaw_1432 dlaw_1434 dlaw_1435 dlaw_1436 (r_argZ (c := 2) hX hScr rfl rfl (by decide) (by omega) (by omega) dlaw_1437 dlaw_1438 dlaw_1440 dlaw_1441 dlaw_1442 (r_aload_n hX dlaw_1443 rfl rfl (r_callW hX hg (z_L_strike ad ae cs S T (mJof S th) [] hS ao n0 s0 _ (iZ_rng _) _ (iZ_rng _)) kh_L_216 rfl rfl (Nat.le_of_ble_eq_true rfl) ⟨(Nat.le_of_ble_eq_true rfl), (Nat.le_of_ble_eq_true rfl)⟩ ⟨by show k + 2 ≤ 652172; omega, by show n + 12 ≤ 7139589; omega⟩ dlaw_1444 (fun v9 ws9 h9 => ?_)))))
  obtain ⟨r9, n9, S9, g9, rfl, hw9⟩ := zU9 (W := fun S9 n9 => mRw ad ae cs (mKof S9 T) (mJof S th) [(ao, .inr (4, [.long n9, s0]))]) h9
  replace hw9 : ws9 = mRw ad ae cs (mKof S9 T) (mJof S th) [(ao, .inr (4, [.long n9, s0]))] := hw9
  subst hw9
  dsimp only [mPush]
  refine r_istore hX dlaw_1447 (by decide) rfl (r_aload_n hX dlaw_1449 rfl rfl (r_argZ (c := 1) hX hScr rfl rfl (by decide) (by omega) (by omega) dlaw_1450 dlaw_1451 dlaw_1453 dlaw_1454 dlaw_1455 (r_argZ (c := 2) hX hScr rfl rfl (by decide) (by omega) (by omega) dlaw_1456 dlaw_1457 dlaw_1459 dlaw_1460 dlaw_1461 (r_callV hX (z_X4_strike ad ae cs (mKof S9 T) S th [(ao, .inr (4, [.long n9, s0]))] hS _ (iZ_rng _) _ (iZ_rng _)) kv_L_218 14 rfl rfl rfl rfl (Nat.le_of_ble_eq_true rfl) ⟨(Nat.le_of_ble_eq_true rfl), (Nat.le_of_ble_eq_true rfl)⟩ ⟨by show k + 2 + 0 ≤ 652172; omega, by show n + 12 + 0 ≤ 7139589; omega⟩ dlaw_1462 (fun _ _ z => False.elim z) (fun v8 ws8 h8 => ?_)))))
  obtain ⟨r8, th8, S8, g8, rfl, hw8⟩ := zU8 (W := fun S8 th8 => mRw ad ae cs (mKof S9 T) (mJof S8 th8) [(ao, .inr (4, [.long n9, s0]))]) h8
  replace hw8 : ws8 = mRw ad ae cs (mKof S9 T) (mJof S8 th8) [(ao, .inr (4, [.long n9, s0]))] := hw8
  subst hw8
  dsimp only [mPush]
  obtain ⟨e1, e2, hn9, hwf⟩ := zM g9 g8 hS (fun g => hS.oLoc (by omega) (hS.2.2.1 (((xs (7 * t + 2)).toInt).toNat + 4) (by omega)).1 (hS.2.2.1 (((xs (7 * t + 2)).toInt).toNat + 4) (by omega)).2)
  subst S8
  subst th8
  refine r_istore hX dlaw_1465 (by decide) rfl (r_goto (tgt := 1858) hX dlaw_1467 (by decide) ?_)
  exact r_loc (lv' := [(0, some (.ref b)), (1, some (.ref (ad 0))), (2, some (.ref (ae 0))), (3, some (.ref ao)), (4, some (.int (nI (7 * t))))]) (by exact ⟨rfl, rfl, rfl, rfl, rfl, trivial⟩) (Nat.le_refl _) (Nat.le_refl _) (back S9 T r9 n9 s0 _ _ hwf (by omega) (by omega))
set_option maxHeartbeats 1000000 in
theorem law_z25 {X : mC} {b L : Nat} {xs : Nat → Int32} {ad ae : Nat → Nat} {cs : ClassId × ClassId × ClassId} {S : mS} {T : mT2} {th : Int32} {ao t k n : Nat} {n0 : Int64} {s0 : Value} (hX : mOK X RL code 7 room_1 [] (mTy cs)) (hg : mHas X mNc) (hScr : mScr X b L xs) (hE : mLE X b) (hS : sWF S) (hL : L ≤ 3584) (hi : 7 * t + 6 < L) (hk : k + 100 ≤ 652172) (hn : n + 2500 ≤ 7139589) (back : mBkZ X b ad ae cs ao t k n) : mV X 1470 [(0, some (.ref b)), (1, some (.ref (ad 0))), (2, some (.ref (ae 0))), (3, some (.ref ao)), (4, some (.int (nI (7 * t))))] [] (mRw ad ae cs (mKof S T) (mJof S th) [(ao, .inr (4, [.long n0, s0]))]) k n := by
  refine r_aload_n hX dlaw_1470 rfl rfl (r_argZ (c := 1) hX hScr rfl rfl (by decide) (by omega) (by omega) dlaw_1471 dlaw_1472 dlaw_1474 dlaw_1475 dlaw_1476 (r_argZ (c := 2) hX hScr rfl rfl (by decide) (by omega) (by omega) dlaw_1477 dlaw_1478 dlaw_1480 dlaw_1481 dlaw_1482 (r_argZ (c := 3) hX hScr rfl rfl (by decide) (by omega) (by omega) dlaw_1483 dlaw_1484 dlaw_1486 dlaw_1487 dlaw_1488 (r_argZ (c := 4) hX hScr rfl rfl (by decide) (by omega) (by omega) dlaw_1489 dlaw_1490 dlaw_1492 dlaw_1493 dlaw_1494 (r_ne0Z hX (iZ_rng _) dlaw_1495 dlaw_1498 dlaw_1499 dlaw_1502 (r_aload_n hX dlaw_1503 rfl rfl (r_callW hX hg (z_L_moveClock ad ae cs S T (mJof S th) [] hS ao n0 s0 _ (iZ_rng _) _ (iZ_rng _) _ (iZ_rng _) _) kh_L_219 rfl rfl (Nat.le_of_ble_eq_true rfl) ⟨(Nat.le_of_ble_eq_true rfl), (Nat.le_of_ble_eq_true rfl)⟩ ⟨by show k + 2 ≤ 652172; omega, by show n + 12 ≤ 7139589; omega⟩ dlaw_1504 (fun v9 ws9 h9 => ?_))))))))
  obtain ⟨r9, n9, S9, g9, rfl, hw9⟩ := zU9 (W := fun S9 n9 => mRw ad ae cs (mKof S9 T) (mJof S th) [(ao, .inr (4, [.long n9, s0]))]) h9
  replace hw9 : ws9 = mRw ad ae cs (mKof S9 T) (mJof S th) [(ao, .inr (4, [.long n9, s0]))] := hw9
  subst hw9
  dsimp only [mPush]
  refine r_istore hX dlaw_1507 (by decide) rfl (r_aload_n hX dlaw_1509 rfl rfl (r_argZ (c := 1) hX hScr rfl rfl (by decide) (by omega) (by omega) dlaw_1510 dlaw_1511 dlaw_1513 dlaw_1514 dlaw_1515 (r_argZ (c := 2) hX hScr rfl rfl (by decide) (by omega) (by omega) dlaw_1516 dlaw_1517 dlaw_1519 dlaw_1520 dlaw_1521 (r_argZ (c := 3) hX hScr rfl rfl (by decide) (by omega) (by omega) dlaw_1522 dlaw_1523 dlaw_1525 dlaw_1526 dlaw_1527 (r_argZ (c := 4) hX hScr rfl rfl (by decide) (by omega) (by omega) dlaw_1528 dlaw_1529 dlaw_1531 dlaw_1532 dlaw_1533 (r_ne0Z hX (iZ_rng _) dlaw_1534 dlaw_1537 dlaw_1538 dlaw_1541 (r_callV hX (z_X4_moveClock ad ae cs (mKof S9 T) S th [(ao, .inr (4, [.long n9, s0]))] hS _ (iZ_rng _) _ (iZ_rng _) _ (iZ_rng _) _) kv_L_221 14 rfl rfl rfl rfl (Nat.le_of_ble_eq_true rfl) ⟨(Nat.le_of_ble_eq_true rfl), (Nat.le_of_ble_eq_true rfl)⟩ ⟨by show k + 2 + 0 ≤ 652172; omega, by show n + 12 + 0 ≤ 7139589; omega⟩ dlaw_1542 (fun _ _ z => False.elim z) (fun v8 ws8 h8 => ?_))))))))
  obtain ⟨r8, th8, S8, g8, rfl, hw8⟩ := zU8 (W := fun S8 th8 => mRw ad ae cs (mKof S9 T) (mJof S8 th8) [(ao, .inr (4, [.long n9, s0]))]) h8
  replace hw8 : ws8 = mRw ad ae cs (mKof S9 T) (mJof S8 th8) [(ao, .inr (4, [.long n9, s0]))] := hw8
  subst hw8
  dsimp only [mPush]
  obtain ⟨e1, e2, hn9, hwf⟩ := zM g9 g8 hS (fun g => hS.oClk (zNn_r (hS.2.2.1 (((xs (7 * t + 1)).toInt).toNat + 4) (by omega)).1) (hS.2.2.1 (((xs (7 * t + 1)).toInt).toNat + 4) (by omega)).2)
  subst S8
  subst th8
  refine r_istore hX dlaw_1545 (by decide) rfl (r_goto (tgt := 1858) hX dlaw_1547 (by decide) ?_)
  exact r_loc (lv' := [(0, some (.ref b)), (1, some (.ref (ad 0))), (2, some (.ref (ae 0))), (3, some (.ref ao)), (4, some (.int (nI (7 * t))))]) (by exact ⟨rfl, rfl, rfl, rfl, rfl, trivial⟩) (Nat.le_refl _) (Nat.le_refl _) (back S9 T r9 n9 s0 _ _ hwf (by omega) (by omega))
set_option maxHeartbeats 1000000 in
theorem law_z26 {X : mC} {b L : Nat} {xs : Nat → Int32} {ad ae : Nat → Nat} {cs : ClassId × ClassId × ClassId} {S : mS} {T : mT2} {th : Int32} {ao t k n : Nat} {n0 : Int64} {s0 : Value} (hX : mOK X RL code 7 room_1 [] (mTy cs)) (hg : mHas X mNc) (hScr : mScr X b L xs) (hE : mLE X b) (hS : sWF S) (hL : L ≤ 3584) (hi : 7 * t + 6 < L) (hk : k + 100 ≤ 652172) (hn : n + 2500 ≤ 7139589) (back : mBkZ X b ad ae cs ao t k n) : mV X 1550 [(0, some (.ref b)), (1, some (.ref (ad 0))), (2, some (.ref (ae 0))), (3, some (.ref ao)), (4, some (.int (nI (7 * t))))] [] (mRw ad ae cs (mKof S T) (mJof S th) [(ao, .inr (4, [.long n0, s0]))]) k n := by
  refine r_aload_n hX dlaw_1550 rfl rfl (r_argZ (c := 1) hX hScr rfl rfl (by decide) (by omega) (by omega) dlaw_1551 dlaw_1552 dlaw_1554 dlaw_1555 dlaw_1556 (r_argZ (c := 2) hX hScr rfl rfl (by decide) (by omega) (by omega) dlaw_1557 dlaw_1558 dlaw_1560 dlaw_1561 dlaw_1562 (r_argZ (c := 3) hX hScr rfl rfl (by decide) (by omega) (by omega) dlaw_1563 dlaw_1564 dlaw_1566 dlaw_1567 dlaw_1568 (r_ne0Z hX (iZ_rng _) dlaw_1569 dlaw_1572 dlaw_1573 dlaw_1576 (r_aload_n hX dlaw_1577 rfl rfl (r_callW hX hg (z_L_anewClock ad ae cs S T (mJof S th) [] hS ao n0 s0 _ (iZ_rng _) _ (iZ_rng _) _) kh_L_222 rfl rfl (Nat.le_of_ble_eq_true rfl) ⟨(Nat.le_of_ble_eq_true rfl), (Nat.le_of_ble_eq_true rfl)⟩ ⟨by show k + 2 ≤ 652172; omega, by show n + 12 ≤ 7139589; omega⟩ dlaw_1578 (fun v9 ws9 h9 => ?_)))))))
  obtain ⟨r9, n9, S9, g9, rfl, hw9⟩ := zU9 (W := fun S9 n9 => mRw ad ae cs (mKof S9 T) (mJof S th) [(ao, .inr (4, [.long n9, s0]))]) h9
  replace hw9 : ws9 = mRw ad ae cs (mKof S9 T) (mJof S th) [(ao, .inr (4, [.long n9, s0]))] := hw9
  subst hw9
  dsimp only [mPush]
  refine r_istore hX dlaw_1581 (by decide) rfl (r_aload_n hX dlaw_1583 rfl rfl (r_argZ (c := 1) hX hScr rfl rfl (by decide) (by omega) (by omega) dlaw_1584 dlaw_1585 dlaw_1587 dlaw_1588 dlaw_1589 (r_argZ (c := 2) hX hScr rfl rfl (by decide) (by omega) (by omega) dlaw_1590 dlaw_1591 dlaw_1593 dlaw_1594 dlaw_1595 (r_argZ (c := 3) hX hScr rfl rfl (by decide) (by omega) (by omega) dlaw_1596 dlaw_1597 dlaw_1599 dlaw_1600 dlaw_1601 (r_ne0Z hX (iZ_rng _) dlaw_1602 dlaw_1605 dlaw_1606 dlaw_1609 (r_callV hX (z_X4_anewClock ad ae cs (mKof S9 T) S th [(ao, .inr (4, [.long n9, s0]))] hS _ (iZ_rng _) _ (iZ_rng _) _) kv_L_224 14 rfl rfl rfl rfl (Nat.le_of_ble_eq_true rfl) ⟨(Nat.le_of_ble_eq_true rfl), (Nat.le_of_ble_eq_true rfl)⟩ ⟨by show k + 2 + 0 ≤ 652172; omega, by show n + 12 + 0 ≤ 7139589; omega⟩ dlaw_1610 (fun _ _ z => False.elim z) (fun v8 ws8 h8 => ?_)))))))
  obtain ⟨r8, th8, S8, g8, rfl, hw8⟩ := zU8 (W := fun S8 th8 => mRw ad ae cs (mKof S9 T) (mJof S8 th8) [(ao, .inr (4, [.long n9, s0]))]) h8
  replace hw8 : ws8 = mRw ad ae cs (mKof S9 T) (mJof S8 th8) [(ao, .inr (4, [.long n9, s0]))] := hw8
  subst hw8
  dsimp only [mPush]
  obtain ⟨e1, e2, hn9, hwf⟩ := zM g9 g8 hS (fun g => hS.oClk (hS.2.2.1 (((xs (7 * t + 1)).toInt).toNat + 4) (by omega)).1 (hS.1 (((xs (7 * t + 2)).toInt).toNat) (by omega)))
  subst S8
  subst th8
  refine r_istore hX dlaw_1613 (by decide) rfl (r_goto (tgt := 1858) hX dlaw_1615 (by decide) ?_)
  exact r_loc (lv' := [(0, some (.ref b)), (1, some (.ref (ad 0))), (2, some (.ref (ae 0))), (3, some (.ref ao)), (4, some (.int (nI (7 * t))))]) (by exact ⟨rfl, rfl, rfl, rfl, rfl, trivial⟩) (Nat.le_refl _) (Nat.le_refl _) (back S9 T r9 n9 s0 _ _ hwf (by omega) (by omega))
set_option maxHeartbeats 1000000 in
theorem law_z27 {X : mC} {b L : Nat} {xs : Nat → Int32} {ad ae : Nat → Nat} {cs : ClassId × ClassId × ClassId} {S : mS} {T : mT2} {th : Int32} {ao t k n : Nat} {n0 : Int64} {s0 : Value} (hX : mOK X RL code 7 room_1 [] (mTy cs)) (hg : mHas X mNc) (hScr : mScr X b L xs) (hE : mLE X b) (hS : sWF S) (hL : L ≤ 3584) (hi : 7 * t + 6 < L) (hk : k + 100 ≤ 652172) (hn : n + 2500 ≤ 7139589) (back : mBkZ X b ad ae cs ao t k n) : mV X 1618 [(0, some (.ref b)), (1, some (.ref (ad 0))), (2, some (.ref (ae 0))), (3, some (.ref ao)), (4, some (.int (nI (7 * t))))] [] (mRw ad ae cs (mKof S T) (mJof S th) [(ao, .inr (4, [.long n0, s0]))]) k n := by
  refine r_aload_n hX dlaw_1618 rfl rfl (r_argZ (c := 1) hX hScr rfl rfl (by decide) (by omega) (by omega) dlaw_1619 dlaw_1620 dlaw_1622 dlaw_1623 dlaw_1624 (r_argZ (c := 2) hX hScr rfl rfl (by decide) (by omega) (by omega) dlaw_1625 dlaw_1626 dlaw_1628 dlaw_1629 dlaw_1630 (r_aload_n hX dlaw_1631 rfl rfl (r_callW hX hg (z_L_copyClock ad ae cs S T (mJof S th) [] hS ao n0 s0 _ (iZ_rng _) _ (iZ_rng _)) kh_L_225 rfl rfl (Nat.le_of_ble_eq_true rfl) ⟨(Nat.le_of_ble_eq_true rfl), (Nat.le_of_ble_eq_true rfl)⟩ ⟨by show k + 2 ≤ 652172; omega, by show n + 12 ≤ 7139589; omega⟩ dlaw_1632 (fun v9 ws9 h9 => ?_)))))
  obtain ⟨r9, n9, S9, g9, rfl, hw9⟩ := zU9 (W := fun S9 n9 => mRw ad ae cs (mKof S9 T) (mJof S th) [(ao, .inr (4, [.long n9, s0]))]) h9
  replace hw9 : ws9 = mRw ad ae cs (mKof S9 T) (mJof S th) [(ao, .inr (4, [.long n9, s0]))] := hw9
  subst hw9
  dsimp only [mPush]
  refine r_istore hX dlaw_1635 (by decide) rfl (r_aload_n hX dlaw_1637 rfl rfl (r_argZ (c := 1) hX hScr rfl rfl (by decide) (by omega) (by omega) dlaw_1638 dlaw_1639 dlaw_1641 dlaw_1642 dlaw_1643 (r_argZ (c := 2) hX hScr rfl rfl (by decide) (by omega) (by omega) dlaw_1644 dlaw_1645 dlaw_1647 dlaw_1648 dlaw_1649 (r_callV hX (z_X4_copyClock ad ae cs (mKof S9 T) S th [(ao, .inr (4, [.long n9, s0]))] hS _ (iZ_rng _) _ (iZ_rng _)) kv_L_227 14 rfl rfl rfl rfl (Nat.le_of_ble_eq_true rfl) ⟨(Nat.le_of_ble_eq_true rfl), (Nat.le_of_ble_eq_true rfl)⟩ ⟨by show k + 2 + 0 ≤ 652172; omega, by show n + 12 + 0 ≤ 7139589; omega⟩ dlaw_1650 (fun _ _ z => False.elim z) (fun v8 ws8 h8 => ?_)))))
  obtain ⟨r8, th8, S8, g8, rfl, hw8⟩ := zU8 (W := fun S8 th8 => mRw ad ae cs (mKof S9 T) (mJof S8 th8) [(ao, .inr (4, [.long n9, s0]))]) h8
  replace hw8 : ws8 = mRw ad ae cs (mKof S9 T) (mJof S8 th8) [(ao, .inr (4, [.long n9, s0]))] := hw8
  subst hw8
  dsimp only [mPush]
  obtain ⟨e1, e2, hn9, hwf⟩ := zM g9 g8 hS (fun g => hS.oClk (hS.2.2.1 (((xs (7 * t + 2)).toInt).toNat + 4) (by omega)).1 (hS.2.2.1 (((xs (7 * t + 2)).toInt).toNat + 4) (by omega)).2)
  subst S8
  subst th8
  refine r_istore hX dlaw_1653 (by decide) rfl (r_goto (tgt := 1858) hX dlaw_1655 (by decide) ?_)
  exact r_loc (lv' := [(0, some (.ref b)), (1, some (.ref (ad 0))), (2, some (.ref (ae 0))), (3, some (.ref ao)), (4, some (.int (nI (7 * t))))]) (by exact ⟨rfl, rfl, rfl, rfl, rfl, trivial⟩) (Nat.le_refl _) (Nat.le_refl _) (back S9 T r9 n9 s0 _ _ hwf (by omega) (by omega))
set_option maxHeartbeats 1000000 in
theorem law_z28 {X : mC} {b L : Nat} {xs : Nat → Int32} {ad ae : Nat → Nat} {cs : ClassId × ClassId × ClassId} {S : mS} {T : mT2} {th : Int32} {ao t k n : Nat} {n0 : Int64} {s0 : Value} (hX : mOK X RL code 7 room_1 [] (mTy cs)) (hg : mHas X mNc) (hScr : mScr X b L xs) (hE : mLE X b) (hS : sWF S) (hL : L ≤ 3584) (hi : 7 * t + 6 < L) (hk : k + 100 ≤ 652172) (hn : n + 2500 ≤ 7139589) (back : mBkZ X b ad ae cs ao t k n) : mV X 1658 [(0, some (.ref b)), (1, some (.ref (ad 0))), (2, some (.ref (ae 0))), (3, some (.ref ao)), (4, some (.int (nI (7 * t))))] [] (mRw ad ae cs (mKof S T) (mJof S th) [(ao, .inr (4, [.long n0, s0]))]) k n := by
  refine r_aload_n hX dlaw_1658 rfl rfl (r_argZ (c := 1) hX hScr rfl rfl (by decide) (by omega) (by omega) dlaw_1659 dlaw_1660 dlaw_1662 dlaw_1663 dlaw_1664 (r_argZ (c := 2) hX hScr rfl rfl (by decide) (by omega) (by omega) dlaw_1665 dlaw_1666 dlaw_1668 dlaw_1669 dlaw_1670 (r_aload_n hX dlaw_1671 rfl rfl (r_callW hX hg (z_L_ofClock ad ae cs S T (mJof S th) [] hS ao n0 s0 _ (iZ_rng _) _ (iZ_rng _)) kh_L_228 rfl rfl (Nat.le_of_ble_eq_true rfl) ⟨(Nat.le_of_ble_eq_true rfl), (Nat.le_of_ble_eq_true rfl)⟩ ⟨by show k + 2 ≤ 652172; omega, by show n + 12 ≤ 7139589; omega⟩ dlaw_1672 (fun v9 ws9 h9 => ?_)))))
  obtain ⟨r9, n9, S9, g9, rfl, hw9⟩ := zU9 (W := fun S9 n9 => mRw ad ae cs (mKof S9 T) (mJof S th) [(ao, .inr (4, [.long n9, s0]))]) h9
  replace hw9 : ws9 = mRw ad ae cs (mKof S9 T) (mJof S th) [(ao, .inr (4, [.long n9, s0]))] := hw9
  subst hw9
  dsimp only [mPush]
  refine r_istore hX dlaw_1675 (by decide) rfl (r_aload_n hX dlaw_1677 rfl rfl (r_argZ (c := 1) hX hScr rfl rfl (by decide) (by omega) (by omega) dlaw_1678 dlaw_1679 dlaw_1681 dlaw_1682 dlaw_1683 (r_argZ (c := 2) hX hScr rfl rfl (by decide) (by omega) (by omega) dlaw_1684 dlaw_1685 dlaw_1687 dlaw_1688 dlaw_1689 (r_callV hX (z_X4_ofClock ad ae cs (mKof S9 T) S th [(ao, .inr (4, [.long n9, s0]))] hS _ (iZ_rng _) _ (iZ_rng _)) kv_L_230 14 rfl rfl rfl rfl (Nat.le_of_ble_eq_true rfl) ⟨(Nat.le_of_ble_eq_true rfl), (Nat.le_of_ble_eq_true rfl)⟩ ⟨by show k + 2 + 1 ≤ 652172; omega, by show n + 12 + 4 ≤ 7139589; omega⟩ dlaw_1690 (fun _ _ z => False.elim z) (fun v8 ws8 h8 => ?_)))))
  obtain ⟨r8, th8, S8, g8, rfl, hw8⟩ := zU8 (W := fun S8 th8 => mRw ad ae cs (mKof S9 T) (mJof S8 th8) [(ao, .inr (4, [.long n9, s0]))]) h8
  replace hw8 : ws8 = mRw ad ae cs (mKof S9 T) (mJof S8 th8) [(ao, .inr (4, [.long n9, s0]))] := hw8
  subst hw8
  dsimp only [mPush]
  obtain ⟨e1, e2, hn9, hwf⟩ := zM g9 g8 hS (fun g => hS)
  subst S8
  subst th8
  refine r_istore hX dlaw_1693 (by decide) rfl (r_goto (tgt := 1858) hX dlaw_1695 (by decide) ?_)
  exact r_loc (lv' := [(0, some (.ref b)), (1, some (.ref (ad 0))), (2, some (.ref (ae 0))), (3, some (.ref ao)), (4, some (.int (nI (7 * t))))]) (by exact ⟨rfl, rfl, rfl, rfl, rfl, trivial⟩) (Nat.le_refl _) (Nat.le_refl _) (back S9 T r9 n9 s0 _ _ hwf (by omega) (by omega))
set_option maxHeartbeats 1000000 in
theorem law_z29 {X : mC} {b L : Nat} {xs : Nat → Int32} {ad ae : Nat → Nat} {cs : ClassId × ClassId × ClassId} {S : mS} {T : mT2} {th : Int32} {ao t k n : Nat} {n0 : Int64} {s0 : Value} (hX : mOK X RL code 7 room_1 [] (mTy cs)) (hg : mHas X mNc) (hScr : mScr X b L xs) (hE : mLE X b) (hS : sWF S) (hL : L ≤ 3584) (hi : 7 * t + 6 < L) (hk : k + 100 ≤ 652172) (hn : n + 2500 ≤ 7139589) (back : mBkZ X b ad ae cs ao t k n) : mV X 1698 [(0, some (.ref b)), (1, some (.ref (ad 0))), (2, some (.ref (ae 0))), (3, some (.ref ao)), (4, some (.int (nI (7 * t))))] [] (mRw ad ae cs (mKof S T) (mJof S th) [(ao, .inr (4, [.long n0, s0]))]) k n := by
  refine r_aload_n hX dlaw_1698 rfl rfl (r_argZ (c := 1) hX hScr rfl rfl (by decide) (by omega) (by omega) dlaw_1699 dlaw_1700 dlaw_1702 dlaw_1703 dlaw_1704 (r_argZ (c := 2) hX hScr rfl rfl (by decide) (by omega) (by omega) dlaw_1705 dlaw_1706 dlaw_1708 dlaw_1709 dlaw_1710 (r_aload_n hX dlaw_1711 rfl rfl (r_callW hX hg (z_L_orderClock ad ae cs S T (mJof S th) [] hS ao n0 s0 _ (iZ_rng _) _ (iZ_rng _)) kh_L_231 rfl rfl (Nat.le_of_ble_eq_true rfl) ⟨(Nat.le_of_ble_eq_true rfl), (Nat.le_of_ble_eq_true rfl)⟩ ⟨by show k + 2 ≤ 652172; omega, by show n + 12 ≤ 7139589; omega⟩ dlaw_1712 (fun v9 ws9 h9 => ?_)))))
  obtain ⟨r9, n9, S9, g9, rfl, hw9⟩ := zU9 (W := fun S9 n9 => mRw ad ae cs (mKof S9 T) (mJof S th) [(ao, .inr (4, [.long n9, s0]))]) h9
  replace hw9 : ws9 = mRw ad ae cs (mKof S9 T) (mJof S th) [(ao, .inr (4, [.long n9, s0]))] := hw9
  subst hw9
  dsimp only [mPush]
  refine r_istore hX dlaw_1715 (by decide) rfl (r_aload_n hX dlaw_1717 rfl rfl (r_argZ (c := 1) hX hScr rfl rfl (by decide) (by omega) (by omega) dlaw_1718 dlaw_1719 dlaw_1721 dlaw_1722 dlaw_1723 (r_argZ (c := 2) hX hScr rfl rfl (by decide) (by omega) (by omega) dlaw_1724 dlaw_1725 dlaw_1727 dlaw_1728 dlaw_1729 (r_callV hX (z_X4_orderClock ad ae cs (mKof S9 T) S th [(ao, .inr (4, [.long n9, s0]))] hS _ (iZ_rng _) _ (iZ_rng _)) kv_L_233 14 rfl rfl rfl rfl (Nat.le_of_ble_eq_true rfl) ⟨(Nat.le_of_ble_eq_true rfl), (Nat.le_of_ble_eq_true rfl)⟩ ⟨by show k + 2 + 0 ≤ 652172; omega, by show n + 12 + 0 ≤ 7139589; omega⟩ dlaw_1730 (fun _ _ z => False.elim z) (fun v8 ws8 h8 => ?_)))))
  obtain ⟨r8, th8, S8, g8, rfl, hw8⟩ := zU8 (W := fun S8 th8 => mRw ad ae cs (mKof S9 T) (mJof S8 th8) [(ao, .inr (4, [.long n9, s0]))]) h8
  replace hw8 : ws8 = mRw ad ae cs (mKof S9 T) (mJof S8 th8) [(ao, .inr (4, [.long n9, s0]))] := hw8
  subst hw8
  dsimp only [mPush]
  obtain ⟨e1, e2, hn9, hwf⟩ := zM g9 g8 hS (fun g => hS)
  subst S8
  subst th8
  refine r_istore hX dlaw_1733 (by decide) rfl (r_goto (tgt := 1858) hX dlaw_1735 (by decide) ?_)
  exact r_loc (lv' := [(0, some (.ref b)), (1, some (.ref (ad 0))), (2, some (.ref (ae 0))), (3, some (.ref ao)), (4, some (.int (nI (7 * t))))]) (by exact ⟨rfl, rfl, rfl, rfl, rfl, trivial⟩) (Nat.le_refl _) (Nat.le_refl _) (back S9 T r9 n9 s0 _ _ hwf (by omega) (by omega))
set_option maxHeartbeats 1000000 in
theorem law_z30 {X : mC} {b L : Nat} {xs : Nat → Int32} {ad ae : Nat → Nat} {cs : ClassId × ClassId × ClassId} {S : mS} {T : mT2} {th : Int32} {ao t k n : Nat} {n0 : Int64} {s0 : Value} (hX : mOK X RL code 7 room_1 [] (mTy cs)) (hg : mHas X mNc) (hScr : mScr X b L xs) (hE : mLE X b) (hS : sWF S) (hL : L ≤ 3584) (hi : 7 * t + 6 < L) (hk : k + 100 ≤ 652172) (hn : n + 2500 ≤ 7139589) (back : mBkZ X b ad ae cs ao t k n) : mV X 1738 [(0, some (.ref b)), (1, some (.ref (ad 0))), (2, some (.ref (ae 0))), (3, some (.ref ao)), (4, some (.int (nI (7 * t))))] [] (mRw ad ae cs (mKof S T) (mJof S th) [(ao, .inr (4, [.long n0, s0]))]) k n := by
  refine r_aload_n hX dlaw_1738 rfl rfl (r_argZ (c := 1) hX hScr rfl rfl (by decide) (by omega) (by omega) dlaw_1739 dlaw_1740 dlaw_1742 dlaw_1743 dlaw_1744 (r_argZ (c := 2) hX hScr rfl rfl (by decide) (by omega) (by omega) dlaw_1745 dlaw_1746 dlaw_1748 dlaw_1749 dlaw_1750 (r_argZ (c := 3) hX hScr rfl rfl (by decide) (by omega) (by omega) dlaw_1751 dlaw_1752 dlaw_1754 dlaw_1755 dlaw_1756 (r_aload_n hX dlaw_1757 rfl rfl (r_callW hX hg (z_L_isClock ad ae cs S T (mJof S th) [] hS ao n0 s0 _ (iZ_rng _) _ (iZ_rng _) _ (iZ_rng _)) kh_L_234 rfl rfl (Nat.le_of_ble_eq_true rfl) ⟨(Nat.le_of_ble_eq_true rfl), (Nat.le_of_ble_eq_true rfl)⟩ ⟨by show k + 3 ≤ 652172; omega, by show n + 18 ≤ 7139589; omega⟩ dlaw_1758 (fun v9 ws9 h9 => ?_))))))
  obtain ⟨r9, n9, S9, g9, rfl, hw9⟩ := zU9 (W := fun S9 n9 => mRw ad ae cs (mKof S9 T) (mJof S th) [(ao, .inr (4, [.long n9, s0]))]) h9
  replace hw9 : ws9 = mRw ad ae cs (mKof S9 T) (mJof S th) [(ao, .inr (4, [.long n9, s0]))] := hw9
  subst hw9
  dsimp only [mPush]
  refine r_istore hX dlaw_1761 (by decide) rfl (r_aload_n hX dlaw_1763 rfl rfl (r_argZ (c := 1) hX hScr rfl rfl (by decide) (by omega) (by omega) dlaw_1764 dlaw_1765 dlaw_1767 dlaw_1768 dlaw_1769 (r_argZ (c := 2) hX hScr rfl rfl (by decide) (by omega) (by omega) dlaw_1770 dlaw_1771 dlaw_1773 dlaw_1774 dlaw_1775 (r_argZ (c := 3) hX hScr rfl rfl (by decide) (by omega) (by omega) dlaw_1776 dlaw_1777 dlaw_1779 dlaw_1780 dlaw_1781 (r_callV hX (z_X4_isClock ad ae cs (mKof S9 T) S th [(ao, .inr (4, [.long n9, s0]))] hS _ (iZ_rng _) _ (iZ_rng _) _ (iZ_rng _)) kv_L_236 14 rfl rfl rfl rfl (Nat.le_of_ble_eq_true rfl) ⟨(Nat.le_of_ble_eq_true rfl), (Nat.le_of_ble_eq_true rfl)⟩ ⟨by show k + 3 + 0 ≤ 652172; omega, by show n + 18 + 0 ≤ 7139589; omega⟩ dlaw_1782 (fun _ _ z => False.elim z) (fun v8 ws8 h8 => ?_))))))
  obtain ⟨r8, th8, S8, g8, rfl, hw8⟩ := zU8 (W := fun S8 th8 => mRw ad ae cs (mKof S9 T) (mJof S8 th8) [(ao, .inr (4, [.long n9, s0]))]) h8
  replace hw8 : ws8 = mRw ad ae cs (mKof S9 T) (mJof S8 th8) [(ao, .inr (4, [.long n9, s0]))] := hw8
  subst hw8
  dsimp only [mPush]
  obtain ⟨e1, e2, hn9, hwf⟩ := zM g9 g8 hS (fun g => hS)
  subst S8
  subst th8
  refine r_istore hX dlaw_1785 (by decide) rfl (r_goto (tgt := 1858) hX dlaw_1787 (by decide) ?_)
  exact r_loc (lv' := [(0, some (.ref b)), (1, some (.ref (ad 0))), (2, some (.ref (ae 0))), (3, some (.ref ao)), (4, some (.int (nI (7 * t))))]) (by exact ⟨rfl, rfl, rfl, rfl, rfl, trivial⟩) (Nat.le_refl _) (Nat.le_refl _) (back S9 T r9 n9 s0 _ _ hwf (by omega) (by omega))
set_option maxHeartbeats 1000000 in
theorem law_z31 {X : mC} {b L : Nat} {xs : Nat → Int32} {ad ae : Nat → Nat} {cs : ClassId × ClassId × ClassId} {S : mS} {T : mT2} {th : Int32} {ao t k n : Nat} {n0 : Int64} {s0 : Value} (hX : mOK X RL code 7 room_1 [] (mTy cs)) (hg : mHas X mNc) (hScr : mScr X b L xs) (hE : mLE X b) (hS : sWF S) (hL : L ≤ 3584) (hi : 7 * t + 6 < L) (hk : k + 100 ≤ 652172) (hn : n + 2500 ≤ 7139589) (back : mBkZ X b ad ae cs ao t k n) : mV X 1790 [(0, some (.ref b)), (1, some (.ref (ad 0))), (2, some (.ref (ae 0))), (3, some (.ref ao)), (4, some (.int (nI (7 * t))))] [] (mRw ad ae cs (mKof S T) (mJof S th) [(ao, .inr (4, [.long n0, s0]))]) k n := by
  refine r_aload_n hX dlaw_1790 rfl rfl (r_callV hX (z_X2_knock ad cs S T _) kv_L_237 0 rfl rfl rfl rfl (Nat.le_of_ble_eq_true rfl) ⟨(Nat.le_of_ble_eq_true rfl), (Nat.le_of_ble_eq_true rfl)⟩ ⟨by show k + 0 ≤ 652172; omega, by show n + 0 ≤ 7139589; omega⟩ dlaw_1791 (fun _ _ z => False.elim z) (fun v9 ws9 h9 => ?_))
  obtain ⟨rfl, hw9⟩ := h9
  replace hw9 : ws9 = mRw ad ae cs (mKof (sKn S) T) (mJof S th) [(ao, .inr (4, [.long n0, s0]))] := hw9
  subst hw9
  dsimp only [mPush]
  refine r_pop hX dlaw_1794 rfl (r_aload_n hX dlaw_1795 rfl rfl (r_callV hX (z_X4_knock ad ae cs (mKof (sKn S) T) S th [(ao, .inr (4, [.long n0, s0]))]) kv_L_241 14 rfl rfl rfl rfl (Nat.le_of_ble_eq_true rfl) ⟨(Nat.le_of_ble_eq_true rfl), (Nat.le_of_ble_eq_true rfl)⟩ ⟨by show k + 0 + 0 ≤ 652172; omega, by show n + 0 + 0 ≤ 7139589; omega⟩ dlaw_1796 (fun _ _ z => False.elim z) (fun v8 ws8 h8 => ?_)))
  obtain ⟨rfl, hw8⟩ := h8
  replace hw8 : ws8 = mRw ad ae cs (mKof (sKn S) T) (mJof (sKn S) 0) [(ao, .inr (4, [.long n0, s0]))] := hw8
  subst hw8
  dsimp only [mPush]
  refine r_pop hX dlaw_1799 rfl (r_goto (tgt := 1858) hX dlaw_1800 (by decide) ?_)
  exact r_loc (lv' := [(0, some (.ref b)), (1, some (.ref (ad 0))), (2, some (.ref (ae 0))), (3, some (.ref ao)), (4, some (.int (nI (7 * t))))]) (by exact ⟨rfl, rfl, rfl, rfl, rfl, trivial⟩) (Nat.le_refl _) (Nat.le_refl _) (back (sKn S) T 0 n0 s0 _ _ hS.kn (by omega) (by omega))
set_option maxHeartbeats 1000000 in
theorem law_z32 {X : mC} {b L : Nat} {xs : Nat → Int32} {ad ae : Nat → Nat} {cs : ClassId × ClassId × ClassId} {S : mS} {T : mT2} {th : Int32} {ao t k n : Nat} {n0 : Int64} {s0 : Value} (hX : mOK X RL code 7 room_1 [] (mTy cs)) (hg : mHas X mNc) (hScr : mScr X b L xs) (hE : mLE X b) (hS : sWF S) (hL : L ≤ 3584) (hi : 7 * t + 6 < L) (hk : k + 100 ≤ 652172) (hn : n + 2500 ≤ 7139589) (back : mBkZ X b ad ae cs ao t k n) : mV X 1803 [(0, some (.ref b)), (1, some (.ref (ad 0))), (2, some (.ref (ae 0))), (3, some (.ref ao)), (4, some (.int (nI (7 * t))))] [] (mRw ad ae cs (mKof S T) (mJof S th) [(ao, .inr (4, [.long n0, s0]))]) k n := by
  refine r_aload_n hX dlaw_1803 rfl rfl (r_argZ (c := 1) hX hScr rfl rfl (by decide) (by omega) (by omega) dlaw_1804 dlaw_1805 dlaw_1807 dlaw_1808 dlaw_1809 (r_aload_n hX dlaw_1810 rfl rfl (r_callW hX hg (z_L_house ad ae cs S T (mJof S th) [] hS ao n0 s0 _ (iZ_rng _)) kh_L_242 rfl rfl (Nat.le_of_ble_eq_true rfl) ⟨(Nat.le_of_ble_eq_true rfl), (Nat.le_of_ble_eq_true rfl)⟩ ⟨by show k + 1 ≤ 652172; omega, by show n + 6 ≤ 7139589; omega⟩ dlaw_1811 (fun v9 ws9 h9 => ?_))))
  obtain ⟨r9, n9, S9, g9, rfl, hw9⟩ := zU9 (W := fun S9 n9 => mRw ad ae cs (mKof S9 T) (mJof S th) [(ao, .inr (4, [.long n9, s0]))]) h9
  replace hw9 : ws9 = mRw ad ae cs (mKof S9 T) (mJof S th) [(ao, .inr (4, [.long n9, s0]))] := hw9
  subst hw9
  dsimp only [mPush]
  refine r_istore hX dlaw_1814 (by decide) rfl (r_aload_n hX dlaw_1816 rfl rfl (r_argZ (c := 1) hX hScr rfl rfl (by decide) (by omega) (by omega) dlaw_1817 dlaw_1818 dlaw_1820 dlaw_1821 dlaw_1822 (r_callV hX (z_X4_house ad ae cs (mKof S9 T) S th [(ao, .inr (4, [.long n9, s0]))] hS _ (iZ_rng _)) kv_L_244 14 rfl rfl rfl rfl (Nat.le_of_ble_eq_true rfl) ⟨(Nat.le_of_ble_eq_true rfl), (Nat.le_of_ble_eq_true rfl)⟩ ⟨by show k + 1 + 0 ≤ 652172; omega, by show n + 6 + 0 ≤ 7139589; omega⟩ dlaw_1823 (fun _ _ z => False.elim z) (fun v8 ws8 h8 => ?_))))
  obtain ⟨r8, th8, S8, g8, rfl, hw8⟩ := zU8h (W := fun S8 th8 => mRw ad ae cs (mKof S9 T) (mJof S8 th8) [(ao, .inr (4, [.long n9, s0]))]) h8
  replace hw8 : ws8 = mRw ad ae cs (mKof S9 T) (mJof S8 th8) [(ao, .inr (4, [.long n9, s0]))] := hw8
  subst hw8
  dsimp only [mPush]
  obtain ⟨e1, e2, hn9, hwf⟩ := zM g9 g8 hS (fun g => hS)
  subst S8
  subst th8
  refine r_istore hX dlaw_1826 (by decide) rfl (r_goto (tgt := 1858) hX dlaw_1828 (by decide) ?_)
  exact r_loc (lv' := [(0, some (.ref b)), (1, some (.ref (ad 0))), (2, some (.ref (ae 0))), (3, some (.ref ao)), (4, some (.int (nI (7 * t))))]) (by exact ⟨rfl, rfl, rfl, rfl, rfl, trivial⟩) (Nat.le_refl _) (Nat.le_refl _) (back S9 T r9 n9 s0 _ _ hwf (by omega) (by omega))
set_option maxHeartbeats 1000000 in
theorem law_z33 {X : mC} {b L : Nat} {xs : Nat → Int32} {ad ae : Nat → Nat} {cs : ClassId × ClassId × ClassId} {S : mS} {T : mT2} {th : Int32} {ao t k n : Nat} {n0 : Int64} {s0 : Value} (hX : mOK X RL code 7 room_1 [] (mTy cs)) (hg : mHas X mNc) (hScr : mScr X b L xs) (hE : mLE X b) (hS : sWF S) (hL : L ≤ 3584) (hi : 7 * t + 6 < L) (hk : k + 100 ≤ 652172) (hn : n + 2500 ≤ 7139589) (back : mBkZ X b ad ae cs ao t k n) : mV X 1831 [(0, some (.ref b)), (1, some (.ref (ad 0))), (2, some (.ref (ae 0))), (3, some (.ref ao)), (4, some (.int (nI (7 * t))))] [] (mRw ad ae cs (mKof S T) (mJof S th) [(ao, .inr (4, [.long n0, s0]))]) k n := by
  refine r_aload_n hX dlaw_1831 rfl rfl (r_callV hX (z_X2_isSound ad cs S T _ hS) kv_L_245 0 rfl rfl rfl rfl (Nat.le_of_ble_eq_true rfl) ⟨(Nat.le_of_ble_eq_true rfl), (Nat.le_of_ble_eq_true rfl)⟩ ⟨by show k + 0 ≤ 652172; omega, by show n + 0 ≤ 7139589; omega⟩ dlaw_1832 (fun _ _ z => False.elim z) (fun v9 ws9 h9 => ?_))
  obtain ⟨rfl, T9, hw9⟩ := h9
  replace hw9 : ws9 = mRw ad ae cs (mKof S T9) (mJof S th) [(ao, .inr (4, [.long n0, s0]))] := hw9
  subst hw9
  dsimp only [mPush]
  refine r_pop hX dlaw_1835 rfl (r_aload_n hX dlaw_1836 rfl rfl (r_callV hX (z_X4_isSound ad ae cs (mKof S T9) S th [(ao, .inr (4, [.long n0, s0]))]) kv_L_249 14 rfl rfl rfl rfl (Nat.le_of_ble_eq_true rfl) ⟨(Nat.le_of_ble_eq_true rfl), (Nat.le_of_ble_eq_true rfl)⟩ ⟨by show k + 0 + 0 ≤ 652172; omega, by show n + 0 + 0 ≤ 7139589; omega⟩ dlaw_1837 (fun _ _ z => False.elim z) (fun v8 ws8 h8 => ?_)))
  obtain ⟨rfl, hw8⟩ := h8
  replace hw8 : ws8 = mRw ad ae cs (mKof S T9) (mJof S 0) [(ao, .inr (4, [.long n0, s0]))] := hw8
  subst hw8
  dsimp only [mPush]
  refine r_pop hX dlaw_1840 rfl (r_goto (tgt := 1858) hX dlaw_1841 (by decide) ?_)
  exact r_loc (lv' := [(0, some (.ref b)), (1, some (.ref (ad 0))), (2, some (.ref (ae 0))), (3, some (.ref ao)), (4, some (.int (nI (7 * t))))]) (by exact ⟨rfl, rfl, rfl, rfl, rfl, trivial⟩) (Nat.le_refl _) (Nat.le_refl _) (back S T9 0 n0 s0 _ _ hS (by omega) (by omega))
set_option maxHeartbeats 1000000 in
theorem law_z34 {X : mC} {b L : Nat} {xs : Nat → Int32} {ad ae : Nat → Nat} {cs : ClassId × ClassId × ClassId} {S : mS} {T : mT2} {th : Int32} {ao t k n : Nat} {n0 : Int64} {s0 : Value} (hX : mOK X RL code 7 room_1 [] (mTy cs)) (hg : mHas X mNc) (hScr : mScr X b L xs) (hE : mLE X b) (hS : sWF S) (hL : L ≤ 3584) (hi : 7 * t + 6 < L) (hk : k + 100 ≤ 652172) (hn : n + 2500 ≤ 7139589) (back : mBkZ X b ad ae cs ao t k n) : mV X 1844 [(0, some (.ref b)), (1, some (.ref (ad 0))), (2, some (.ref (ae 0))), (3, some (.ref ao)), (4, some (.int (nI (7 * t))))] [] (mRw ad ae cs (mKof S T) (mJof S th) [(ao, .inr (4, [.long n0, s0]))]) k n := by
  refine r_aload_n hX dlaw_1844 rfl rfl (r_callV hX (z_X2_digest ad cs S T _ hS) kv_L_250 0 rfl rfl rfl rfl (Nat.le_of_ble_eq_true rfl) ⟨(Nat.le_of_ble_eq_true rfl), (Nat.le_of_ble_eq_true rfl)⟩ ⟨by show k + 12 ≤ 652172; omega, by show n + 72 ≤ 7139589; omega⟩ dlaw_1845 (fun _ _ z => False.elim z) (fun v9 ws9 h9 => ?_))
  obtain ⟨rfl, T9, hw9⟩ := h9
  replace hw9 : ws9 = mRw ad ae cs (mKof S T9) (mJof S th) [(ao, .inr (4, [.long n0, s0]))] := hw9
  subst hw9
  dsimp only [mPush]
  refine r_aload_n hX dlaw_1848 rfl rfl (r_callV hX (z_X4_digest ad ae cs (mKof S T9) S th [(ao, .inr (4, [.long n0, s0]))] hS) kv_L_254 14 rfl rfl rfl rfl (Nat.le_of_ble_eq_true rfl) ⟨(Nat.le_of_ble_eq_true rfl), (Nat.le_of_ble_eq_true rfl)⟩ ⟨by show k + 12 + 70 ≤ 652172; omega, by show n + 72 + 280 ≤ 7139589; omega⟩ dlaw_1849 (fun _ _ z => False.elim z) (fun v8 ws8 h8 => ?_))
  obtain ⟨rfl, hw8⟩ := h8
  replace hw8 : ws8 = mRw ad ae cs (mKof S T9) (mJof S 0) [(ao, .inr (4, [.long n0, s0]))] := hw8
  subst hw8
  dsimp only [mPush]
  refine r_lcmp hX dlaw_1852 (r_if_eq (tgt := 1858) hX dlaw_1853 (by decide) (fun _ => ?_) (fun h7 => absurd ((lg_cmp_eq _ _).mpr rfl) h7))
  exact r_loc (lv' := [(0, some (.ref b)), (1, some (.ref (ad 0))), (2, some (.ref (ae 0))), (3, some (.ref ao)), (4, some (.int (nI (7 * t))))]) (by exact ⟨rfl, rfl, rfl, rfl, rfl, trivial⟩) (Nat.le_refl _) (Nat.le_refl _) (back S T9 0 n0 s0 _ _ hS (by omega) (by omega))
end
