-- 83 zcase
section
/-! The law's cases, exact. (Rows by a program of this repository.) -/
set_option maxHeartbeats 1000000 in
theorem law_z17 {X : mC} {b L : Nat} {xs : Nat → Int32} {ad ae : Nat → Nat} {cs : ClassId × ClassId × ClassId} {S : mS} {T : mT2} {th : Int32} {ao t k n : Nat} {n0 : Int64} {s0 : Value} (hX : mOK X RL code 7 room_1 [] (mTy cs)) (hg : mHas X mNc) (hScr : mScr X b L xs) (hE : mLE X b) (hS : sWF S) (hL : L ≤ 3584) (hi : 7 * t + 6 < L) (hk : k + 100 ≤ 652172) (hn : n + 2500 ≤ 7139589) (back : mBkZ X b ad ae cs ao t k n) : mV X 1122 [(0, some (.ref b)), (1, some (.ref (ad 0))), (2, some (.ref (ae 0))), (3, some (.ref ao)), (4, some (.int (nI (7 * t))))] [] (mRw ad ae cs (mKof S T) (mJof S th) [(ao, .inr (4, [.long n0, s0]))]) k n := by
  refine r_aload_n hX dlaw_1122 rfl rfl ?_
  refine r_argZ (c := 1) hX hScr rfl rfl (by decide) (by omega) (by omega) dlaw_1123 dlaw_1124 dlaw_1126 dlaw_1127 dlaw_1128 ?_
  refine r_argZ (c := 2) hX hScr rfl rfl (by decide) (by omega) (by omega) dlaw_1129 dlaw_1130 dlaw_1132 dlaw_1133 dlaw_1134 ?_
  refine r_argZ (c := 3) hX hScr rfl rfl (by decide) (by omega) (by omega) dlaw_1135 dlaw_1136 dlaw_1138 dlaw_1139 dlaw_1140 ?_
  refine r_ne0Z hX (iZ_rng _) dlaw_1141 dlaw_1144 dlaw_1145 dlaw_1148 ?_
  refine r_aload_n hX dlaw_1149 rfl rfl ?_
  refine r_callW hX hg (z_L_anew ad ae cs S T (mJof S th) [] hS ao n0 s0 _ (iZ_rng _) _ (iZ_rng _) _) kh_L_198 rfl rfl (Nat.le_of_ble_eq_true rfl) ⟨(Nat.le_of_ble_eq_true rfl), (Nat.le_of_ble_eq_true rfl)⟩ ⟨by show k + 2 ≤ 652172; omega, by show n + 12 ≤ 7139589; omega⟩ dlaw_1150 (fun v9 ws9 h9 => ?_)
  obtain ⟨r9, n9, S9, g9, rfl, hw9⟩ := zU9 (W := fun S9 n9 => mRw ad ae cs (mKof S9 T) (mJof S th) [(ao, .inr (4, [.long n9, s0]))]) h9
  replace hw9 : ws9 = mRw ad ae cs (mKof S9 T) (mJof S th) [(ao, .inr (4, [.long n9, s0]))] := hw9
  subst hw9
  dsimp only [mPush]
  refine r_istore hX dlaw_1153 (by decide) rfl ?_
  refine r_aload_n hX dlaw_1155 rfl rfl ?_
  refine r_argZ (c := 1) hX hScr rfl rfl (by decide) (by omega) (by omega) dlaw_1156 dlaw_1157 dlaw_1159 dlaw_1160 dlaw_1161 ?_
  refine r_argZ (c := 2) hX hScr rfl rfl (by decide) (by omega) (by omega) dlaw_1162 dlaw_1163 dlaw_1165 dlaw_1166 dlaw_1167 ?_
  refine r_argZ (c := 3) hX hScr rfl rfl (by decide) (by omega) (by omega) dlaw_1168 dlaw_1169 dlaw_1171 dlaw_1172 dlaw_1173 ?_
  refine r_ne0Z hX (iZ_rng _) dlaw_1174 dlaw_1177 dlaw_1178 dlaw_1181 ?_
  refine r_callV hX (z_X4_anew ad ae cs (mKof S9 T) S th [(ao, .inr (4, [.long n9, s0]))] hS _ (iZ_rng _) _ (iZ_rng _) _) kv_L_201 14 rfl rfl rfl rfl (Nat.le_of_ble_eq_true rfl) ⟨(Nat.le_of_ble_eq_true rfl), (Nat.le_of_ble_eq_true rfl)⟩ ⟨by show k + 2 + 0 ≤ 652172; omega, by show n + 12 + 0 ≤ 7139589; omega⟩ dlaw_1182 (fun _ _ z => False.elim z) (fun v8 ws8 h8 => ?_)
  obtain ⟨r8, th8, S8, g8, rfl, hw8⟩ := zU8 (W := fun S8 th8 => mRw ad ae cs (mKof S9 T) (mJof S8 th8) [(ao, .inr (4, [.long n9, s0]))]) h8
  replace hw8 : ws8 = mRw ad ae cs (mKof S9 T) (mJof S8 th8) [(ao, .inr (4, [.long n9, s0]))] := hw8
  subst hw8
  dsimp only [mPush]
  obtain ⟨e1, e2, hn9, hwf⟩ := zM g9 g8 hS (fun g => hS.oLoc (by omega) (hS.2.2.1 (((xs (7 * t + 1)).toInt).toNat) (by omega)).1 (hS.1 (((xs (7 * t + 2)).toInt).toNat) (by omega)))
  subst S8
  subst th8
  refine r_istore hX dlaw_1185 (by decide) rfl ?_
  refine r_goto (tgt := 1893) hX dlaw_1187 (by decide) ?_
  exact r_loc (lv' := [(0, some (.ref b)), (1, some (.ref (ad 0))), (2, some (.ref (ae 0))), (3, some (.ref ao)), (4, some (.int (nI (7 * t))))]) (by exact ⟨rfl, rfl, rfl, rfl, rfl, trivial⟩) (Nat.le_refl _) (Nat.le_refl _) (back S9 T r9 n9 s0 _ _ hwf (by omega) (by omega))
set_option maxHeartbeats 1000000 in
theorem law_z18 {X : mC} {b L : Nat} {xs : Nat → Int32} {ad ae : Nat → Nat} {cs : ClassId × ClassId × ClassId} {S : mS} {T : mT2} {th : Int32} {ao t k n : Nat} {n0 : Int64} {s0 : Value} (hX : mOK X RL code 7 room_1 [] (mTy cs)) (hg : mHas X mNc) (hScr : mScr X b L xs) (hE : mLE X b) (hS : sWF S) (hL : L ≤ 3584) (hi : 7 * t + 6 < L) (hk : k + 100 ≤ 652172) (hn : n + 2500 ≤ 7139589) (back : mBkZ X b ad ae cs ao t k n) : mV X 1190 [(0, some (.ref b)), (1, some (.ref (ad 0))), (2, some (.ref (ae 0))), (3, some (.ref ao)), (4, some (.int (nI (7 * t))))] [] (mRw ad ae cs (mKof S T) (mJof S th) [(ao, .inr (4, [.long n0, s0]))]) k n := by
  refine r_aload_n hX dlaw_1190 rfl rfl ?_
  refine r_argZ (c := 1) hX hScr rfl rfl (by decide) (by omega) (by omega) dlaw_1191 dlaw_1192 dlaw_1194 dlaw_1195 dlaw_1196 ?_
  refine r_argZ (c := 2) hX hScr rfl rfl (by decide) (by omega) (by omega) dlaw_1197 dlaw_1198 dlaw_1200 dlaw_1201 dlaw_1202 ?_
  refine r_aload_n hX dlaw_1203 rfl rfl ?_
  refine r_callW hX hg (z_L_copy ad ae cs S T (mJof S th) [] hS ao n0 s0 _ (iZ_rng _) _ (iZ_rng _)) kh_L_202 rfl rfl (Nat.le_of_ble_eq_true rfl) ⟨(Nat.le_of_ble_eq_true rfl), (Nat.le_of_ble_eq_true rfl)⟩ ⟨by show k + 2 ≤ 652172; omega, by show n + 12 ≤ 7139589; omega⟩ dlaw_1204 (fun v9 ws9 h9 => ?_)
  obtain ⟨r9, n9, S9, g9, rfl, hw9⟩ := zU9 (W := fun S9 n9 => mRw ad ae cs (mKof S9 T) (mJof S th) [(ao, .inr (4, [.long n9, s0]))]) h9
  replace hw9 : ws9 = mRw ad ae cs (mKof S9 T) (mJof S th) [(ao, .inr (4, [.long n9, s0]))] := hw9
  subst hw9
  dsimp only [mPush]
  refine r_istore hX dlaw_1207 (by decide) rfl ?_
  refine r_aload_n hX dlaw_1209 rfl rfl ?_
  refine r_argZ (c := 1) hX hScr rfl rfl (by decide) (by omega) (by omega) dlaw_1210 dlaw_1211 dlaw_1213 dlaw_1214 dlaw_1215 ?_
  refine r_argZ (c := 2) hX hScr rfl rfl (by decide) (by omega) (by omega) dlaw_1216 dlaw_1217 dlaw_1219 dlaw_1220 dlaw_1221 ?_
  refine r_callV hX (z_X4_copy ad ae cs (mKof S9 T) S th [(ao, .inr (4, [.long n9, s0]))] hS _ (iZ_rng _) _ (iZ_rng _)) kv_L_204 14 rfl rfl rfl rfl (Nat.le_of_ble_eq_true rfl) ⟨(Nat.le_of_ble_eq_true rfl), (Nat.le_of_ble_eq_true rfl)⟩ ⟨by show k + 2 + 0 ≤ 652172; omega, by show n + 12 + 0 ≤ 7139589; omega⟩ dlaw_1222 (fun _ _ z => False.elim z) (fun v8 ws8 h8 => ?_)
  obtain ⟨r8, th8, S8, g8, rfl, hw8⟩ := zU8 (W := fun S8 th8 => mRw ad ae cs (mKof S9 T) (mJof S8 th8) [(ao, .inr (4, [.long n9, s0]))]) h8
  replace hw8 : ws8 = mRw ad ae cs (mKof S9 T) (mJof S8 th8) [(ao, .inr (4, [.long n9, s0]))] := hw8
  subst hw8
  dsimp only [mPush]
  obtain ⟨e1, e2, hn9, hwf⟩ := zM g9 g8 hS (fun g => hS.oLoc (by omega) (hS.2.2.1 (((xs (7 * t + 2)).toInt).toNat) (by omega)).1 (hS.2.2.1 (((xs (7 * t + 2)).toInt).toNat) (by omega)).2)
  subst S8
  subst th8
  refine r_istore hX dlaw_1225 (by decide) rfl ?_
  refine r_goto (tgt := 1893) hX dlaw_1227 (by decide) ?_
  exact r_loc (lv' := [(0, some (.ref b)), (1, some (.ref (ad 0))), (2, some (.ref (ae 0))), (3, some (.ref ao)), (4, some (.int (nI (7 * t))))]) (by exact ⟨rfl, rfl, rfl, rfl, rfl, trivial⟩) (Nat.le_refl _) (Nat.le_refl _) (back S9 T r9 n9 s0 _ _ hwf (by omega) (by omega))
set_option maxHeartbeats 1000000 in
theorem law_z19 {X : mC} {b L : Nat} {xs : Nat → Int32} {ad ae : Nat → Nat} {cs : ClassId × ClassId × ClassId} {S : mS} {T : mT2} {th : Int32} {ao t k n : Nat} {n0 : Int64} {s0 : Value} (hX : mOK X RL code 7 room_1 [] (mTy cs)) (hg : mHas X mNc) (hScr : mScr X b L xs) (hE : mLE X b) (hS : sWF S) (hL : L ≤ 3584) (hi : 7 * t + 6 < L) (hk : k + 100 ≤ 652172) (hn : n + 2500 ≤ 7139589) (back : mBkZ X b ad ae cs ao t k n) : mV X 1230 [(0, some (.ref b)), (1, some (.ref (ad 0))), (2, some (.ref (ae 0))), (3, some (.ref ao)), (4, some (.int (nI (7 * t))))] [] (mRw ad ae cs (mKof S T) (mJof S th) [(ao, .inr (4, [.long n0, s0]))]) k n := by
  refine r_aload_n hX dlaw_1230 rfl rfl ?_
  refine r_argZ (c := 1) hX hScr rfl rfl (by decide) (by omega) (by omega) dlaw_1231 dlaw_1232 dlaw_1234 dlaw_1235 dlaw_1236 ?_
  refine r_argZ (c := 2) hX hScr rfl rfl (by decide) (by omega) (by omega) dlaw_1237 dlaw_1238 dlaw_1240 dlaw_1241 dlaw_1242 ?_
  refine r_aload_n hX dlaw_1243 rfl rfl ?_
  refine r_callW hX hg (z_L_ofDate ad ae cs S T (mJof S th) [] hS ao n0 s0 _ (iZ_rng _) _ (iZ_rng _)) kh_L_205 rfl rfl (Nat.le_of_ble_eq_true rfl) ⟨(Nat.le_of_ble_eq_true rfl), (Nat.le_of_ble_eq_true rfl)⟩ ⟨by show k + 2 ≤ 652172; omega, by show n + 12 ≤ 7139589; omega⟩ dlaw_1244 (fun v9 ws9 h9 => ?_)
  obtain ⟨r9, n9, S9, g9, rfl, hw9⟩ := zU9 (W := fun S9 n9 => mRw ad ae cs (mKof S9 T) (mJof S th) [(ao, .inr (4, [.long n9, s0]))]) h9
  replace hw9 : ws9 = mRw ad ae cs (mKof S9 T) (mJof S th) [(ao, .inr (4, [.long n9, s0]))] := hw9
  subst hw9
  dsimp only [mPush]
  refine r_istore hX dlaw_1247 (by decide) rfl ?_
  refine r_aload_n hX dlaw_1249 rfl rfl ?_
  refine r_argZ (c := 1) hX hScr rfl rfl (by decide) (by omega) (by omega) dlaw_1250 dlaw_1251 dlaw_1253 dlaw_1254 dlaw_1255 ?_
  refine r_argZ (c := 2) hX hScr rfl rfl (by decide) (by omega) (by omega) dlaw_1256 dlaw_1257 dlaw_1259 dlaw_1260 dlaw_1261 ?_
  refine r_callV hX (z_X4_ofDate ad ae cs (mKof S9 T) S th [(ao, .inr (4, [.long n9, s0]))] hS _ (iZ_rng _) _ (iZ_rng _)) kv_L_207 14 rfl rfl rfl rfl (Nat.le_of_ble_eq_true rfl) ⟨(Nat.le_of_ble_eq_true rfl), (Nat.le_of_ble_eq_true rfl)⟩ ⟨by show k + 2 + 1 ≤ 652172; omega, by show n + 12 + 4 ≤ 7139589; omega⟩ dlaw_1262 (fun _ _ z => False.elim z) (fun v8 ws8 h8 => ?_)
  obtain ⟨r8, th8, S8, g8, rfl, hw8⟩ := zU8 (W := fun S8 th8 => mRw ad ae cs (mKof S9 T) (mJof S8 th8) [(ao, .inr (4, [.long n9, s0]))]) h8
  replace hw8 : ws8 = mRw ad ae cs (mKof S9 T) (mJof S8 th8) [(ao, .inr (4, [.long n9, s0]))] := hw8
  subst hw8
  dsimp only [mPush]
  obtain ⟨e1, e2, hn9, hwf⟩ := zM g9 g8 hS (fun g => hS)
  subst S8
  subst th8
  refine r_istore hX dlaw_1265 (by decide) rfl ?_
  refine r_goto (tgt := 1893) hX dlaw_1267 (by decide) ?_
  exact r_loc (lv' := [(0, some (.ref b)), (1, some (.ref (ad 0))), (2, some (.ref (ae 0))), (3, some (.ref ao)), (4, some (.int (nI (7 * t))))]) (by exact ⟨rfl, rfl, rfl, rfl, rfl, trivial⟩) (Nat.le_refl _) (Nat.le_refl _) (back S9 T r9 n9 s0 _ _ hwf (by omega) (by omega))
set_option maxHeartbeats 1000000 in
theorem law_z20 {X : mC} {b L : Nat} {xs : Nat → Int32} {ad ae : Nat → Nat} {cs : ClassId × ClassId × ClassId} {S : mS} {T : mT2} {th : Int32} {ao t k n : Nat} {n0 : Int64} {s0 : Value} (hX : mOK X RL code 7 room_1 [] (mTy cs)) (hg : mHas X mNc) (hScr : mScr X b L xs) (hE : mLE X b) (hS : sWF S) (hL : L ≤ 3584) (hi : 7 * t + 6 < L) (hk : k + 100 ≤ 652172) (hn : n + 2500 ≤ 7139589) (back : mBkZ X b ad ae cs ao t k n) : mV X 1270 [(0, some (.ref b)), (1, some (.ref (ad 0))), (2, some (.ref (ae 0))), (3, some (.ref ao)), (4, some (.int (nI (7 * t))))] [] (mRw ad ae cs (mKof S T) (mJof S th) [(ao, .inr (4, [.long n0, s0]))]) k n := by
  refine r_aload_n hX dlaw_1270 rfl rfl ?_
  refine r_argZ (c := 1) hX hScr rfl rfl (by decide) (by omega) (by omega) dlaw_1271 dlaw_1272 dlaw_1274 dlaw_1275 dlaw_1276 ?_
  refine r_argZ (c := 2) hX hScr rfl rfl (by decide) (by omega) (by omega) dlaw_1277 dlaw_1278 dlaw_1280 dlaw_1281 dlaw_1282 ?_
  refine r_aload_n hX dlaw_1283 rfl rfl ?_
  refine r_callW hX hg (z_L_orderDate ad ae cs S T (mJof S th) [] hS ao n0 s0 _ (iZ_rng _) _ (iZ_rng _)) kh_L_208 rfl rfl (Nat.le_of_ble_eq_true rfl) ⟨(Nat.le_of_ble_eq_true rfl), (Nat.le_of_ble_eq_true rfl)⟩ ⟨by show k + 2 ≤ 652172; omega, by show n + 12 ≤ 7139589; omega⟩ dlaw_1284 (fun v9 ws9 h9 => ?_)
  obtain ⟨r9, n9, S9, g9, rfl, hw9⟩ := zU9 (W := fun S9 n9 => mRw ad ae cs (mKof S9 T) (mJof S th) [(ao, .inr (4, [.long n9, s0]))]) h9
  replace hw9 : ws9 = mRw ad ae cs (mKof S9 T) (mJof S th) [(ao, .inr (4, [.long n9, s0]))] := hw9
  subst hw9
  dsimp only [mPush]
  refine r_istore hX dlaw_1287 (by decide) rfl ?_
  refine r_aload_n hX dlaw_1289 rfl rfl ?_
  refine r_argZ (c := 1) hX hScr rfl rfl (by decide) (by omega) (by omega) dlaw_1290 dlaw_1291 dlaw_1293 dlaw_1294 dlaw_1295 ?_
  refine r_argZ (c := 2) hX hScr rfl rfl (by decide) (by omega) (by omega) dlaw_1296 dlaw_1297 dlaw_1299 dlaw_1300 dlaw_1301 ?_
  refine r_callV hX (z_X4_orderDate ad ae cs (mKof S9 T) S th [(ao, .inr (4, [.long n9, s0]))] hS _ (iZ_rng _) _ (iZ_rng _)) kv_L_210 14 rfl rfl rfl rfl (Nat.le_of_ble_eq_true rfl) ⟨(Nat.le_of_ble_eq_true rfl), (Nat.le_of_ble_eq_true rfl)⟩ ⟨by show k + 2 + 0 ≤ 652172; omega, by show n + 12 + 0 ≤ 7139589; omega⟩ dlaw_1302 (fun _ _ z => False.elim z) (fun v8 ws8 h8 => ?_)
  obtain ⟨r8, th8, S8, g8, rfl, hw8⟩ := zU8 (W := fun S8 th8 => mRw ad ae cs (mKof S9 T) (mJof S8 th8) [(ao, .inr (4, [.long n9, s0]))]) h8
  replace hw8 : ws8 = mRw ad ae cs (mKof S9 T) (mJof S8 th8) [(ao, .inr (4, [.long n9, s0]))] := hw8
  subst hw8
  dsimp only [mPush]
  obtain ⟨e1, e2, hn9, hwf⟩ := zM g9 g8 hS (fun g => hS)
  subst S8
  subst th8
  refine r_istore hX dlaw_1305 (by decide) rfl ?_
  refine r_goto (tgt := 1893) hX dlaw_1307 (by decide) ?_
  exact r_loc (lv' := [(0, some (.ref b)), (1, some (.ref (ad 0))), (2, some (.ref (ae 0))), (3, some (.ref ao)), (4, some (.int (nI (7 * t))))]) (by exact ⟨rfl, rfl, rfl, rfl, rfl, trivial⟩) (Nat.le_refl _) (Nat.le_refl _) (back S9 T r9 n9 s0 _ _ hwf (by omega) (by omega))
set_option maxHeartbeats 1000000 in
theorem law_z21 {X : mC} {b L : Nat} {xs : Nat → Int32} {ad ae : Nat → Nat} {cs : ClassId × ClassId × ClassId} {S : mS} {T : mT2} {th : Int32} {ao t k n : Nat} {n0 : Int64} {s0 : Value} (hX : mOK X RL code 7 room_1 [] (mTy cs)) (hg : mHas X mNc) (hScr : mScr X b L xs) (hE : mLE X b) (hS : sWF S) (hL : L ≤ 3584) (hi : 7 * t + 6 < L) (hk : k + 100 ≤ 652172) (hn : n + 2500 ≤ 7139589) (back : mBkZ X b ad ae cs ao t k n) : mV X 1310 [(0, some (.ref b)), (1, some (.ref (ad 0))), (2, some (.ref (ae 0))), (3, some (.ref ao)), (4, some (.int (nI (7 * t))))] [] (mRw ad ae cs (mKof S T) (mJof S th) [(ao, .inr (4, [.long n0, s0]))]) k n := by
  refine r_aload_n hX dlaw_1310 rfl rfl ?_
  refine r_argZ (c := 1) hX hScr rfl rfl (by decide) (by omega) (by omega) dlaw_1311 dlaw_1312 dlaw_1314 dlaw_1315 dlaw_1316 ?_
  refine r_argZ (c := 2) hX hScr rfl rfl (by decide) (by omega) (by omega) dlaw_1317 dlaw_1318 dlaw_1320 dlaw_1321 dlaw_1322 ?_
  refine r_argZ (c := 3) hX hScr rfl rfl (by decide) (by omega) (by omega) dlaw_1323 dlaw_1324 dlaw_1326 dlaw_1327 dlaw_1328 ?_
  refine r_aload_n hX dlaw_1329 rfl rfl ?_
  refine r_callW hX hg (z_L_isDate ad ae cs S T (mJof S th) [] hS ao n0 s0 _ (iZ_rng _) _ (iZ_rng _) _ (iZ_rng _)) kh_L_211 rfl rfl (Nat.le_of_ble_eq_true rfl) ⟨(Nat.le_of_ble_eq_true rfl), (Nat.le_of_ble_eq_true rfl)⟩ ⟨by show k + 3 ≤ 652172; omega, by show n + 18 ≤ 7139589; omega⟩ dlaw_1330 (fun v9 ws9 h9 => ?_)
  obtain ⟨r9, n9, S9, g9, rfl, hw9⟩ := zU9 (W := fun S9 n9 => mRw ad ae cs (mKof S9 T) (mJof S th) [(ao, .inr (4, [.long n9, s0]))]) h9
  replace hw9 : ws9 = mRw ad ae cs (mKof S9 T) (mJof S th) [(ao, .inr (4, [.long n9, s0]))] := hw9
  subst hw9
  dsimp only [mPush]
  refine r_istore hX dlaw_1333 (by decide) rfl ?_
  refine r_aload_n hX dlaw_1335 rfl rfl ?_
  refine r_argZ (c := 1) hX hScr rfl rfl (by decide) (by omega) (by omega) dlaw_1336 dlaw_1337 dlaw_1339 dlaw_1340 dlaw_1341 ?_
  refine r_argZ (c := 2) hX hScr rfl rfl (by decide) (by omega) (by omega) dlaw_1342 dlaw_1343 dlaw_1345 dlaw_1346 dlaw_1347 ?_
  refine r_argZ (c := 3) hX hScr rfl rfl (by decide) (by omega) (by omega) dlaw_1348 dlaw_1349 dlaw_1351 dlaw_1352 dlaw_1353 ?_
  refine r_callV hX (z_X4_isDate ad ae cs (mKof S9 T) S th [(ao, .inr (4, [.long n9, s0]))] hS _ (iZ_rng _) _ (iZ_rng _) _ (iZ_rng _)) kv_L_213 14 rfl rfl rfl rfl (Nat.le_of_ble_eq_true rfl) ⟨(Nat.le_of_ble_eq_true rfl), (Nat.le_of_ble_eq_true rfl)⟩ ⟨by show k + 3 + 0 ≤ 652172; omega, by show n + 18 + 0 ≤ 7139589; omega⟩ dlaw_1354 (fun _ _ z => False.elim z) (fun v8 ws8 h8 => ?_)
  obtain ⟨r8, th8, S8, g8, rfl, hw8⟩ := zU8 (W := fun S8 th8 => mRw ad ae cs (mKof S9 T) (mJof S8 th8) [(ao, .inr (4, [.long n9, s0]))]) h8
  replace hw8 : ws8 = mRw ad ae cs (mKof S9 T) (mJof S8 th8) [(ao, .inr (4, [.long n9, s0]))] := hw8
  subst hw8
  dsimp only [mPush]
  obtain ⟨e1, e2, hn9, hwf⟩ := zM g9 g8 hS (fun g => hS)
  subst S8
  subst th8
  refine r_istore hX dlaw_1357 (by decide) rfl ?_
  refine r_goto (tgt := 1893) hX dlaw_1359 (by decide) ?_
  exact r_loc (lv' := [(0, some (.ref b)), (1, some (.ref (ad 0))), (2, some (.ref (ae 0))), (3, some (.ref ao)), (4, some (.int (nI (7 * t))))]) (by exact ⟨rfl, rfl, rfl, rfl, rfl, trivial⟩) (Nat.le_refl _) (Nat.le_refl _) (back S9 T r9 n9 s0 _ _ hwf (by omega) (by omega))
set_option maxHeartbeats 1000000 in
theorem law_z22 {X : mC} {b L : Nat} {xs : Nat → Int32} {ad ae : Nat → Nat} {cs : ClassId × ClassId × ClassId} {S : mS} {T : mT2} {th : Int32} {ao t k n : Nat} {n0 : Int64} {s0 : Value} (hX : mOK X RL code 7 room_1 [] (mTy cs)) (hg : mHas X mNc) (hScr : mScr X b L xs) (hE : mLE X b) (hS : sWF S) (hL : L ≤ 3584) (hi : 7 * t + 6 < L) (hk : k + 100 ≤ 652172) (hn : n + 2500 ≤ 7139589) (back : mBkZ X b ad ae cs ao t k n) : mV X 1362 [(0, some (.ref b)), (1, some (.ref (ad 0))), (2, some (.ref (ae 0))), (3, some (.ref ao)), (4, some (.int (nI (7 * t))))] [] (mRw ad ae cs (mKof S T) (mJof S th) [(ao, .inr (4, [.long n0, s0]))]) k n := by
  refine r_aload_n hX dlaw_1362 rfl rfl ?_
  refine r_argZ (c := 1) hX hScr rfl rfl (by decide) (by omega) (by omega) dlaw_1363 dlaw_1364 dlaw_1366 dlaw_1367 dlaw_1368 ?_
  refine r_argZ (c := 2) hX hScr rfl rfl (by decide) (by omega) (by omega) dlaw_1369 dlaw_1370 dlaw_1372 dlaw_1373 dlaw_1374 ?_
  refine r_argZ (c := 3) hX hScr rfl rfl (by decide) (by omega) (by omega) dlaw_1375 dlaw_1376 dlaw_1378 dlaw_1379 dlaw_1380 ?_
  refine r_argZ (c := 4) hX hScr rfl rfl (by decide) (by omega) (by omega) dlaw_1381 dlaw_1382 dlaw_1384 dlaw_1385 dlaw_1386 ?_
  refine r_aload_n hX dlaw_1387 rfl rfl ?_
  refine r_callW hX hg (z_L_clock ad ae cs S T (mJof S th) [] hS ao n0 s0 _ (iZ_rng _) _ (iZ_rng _) _ (iZ_rng _) _ (iZ_rng _)) kh_L_214 rfl rfl (Nat.le_of_ble_eq_true rfl) ⟨(Nat.le_of_ble_eq_true rfl), (Nat.le_of_ble_eq_true rfl)⟩ ⟨by show k + 4 ≤ 652172; omega, by show n + 24 ≤ 7139589; omega⟩ dlaw_1388 (fun v9 ws9 h9 => ?_)
  obtain ⟨r9, n9, S9, g9, rfl, hw9⟩ := zU9 (W := fun S9 n9 => mRw ad ae cs (mKof S9 T) (mJof S th) [(ao, .inr (4, [.long n9, s0]))]) h9
  replace hw9 : ws9 = mRw ad ae cs (mKof S9 T) (mJof S th) [(ao, .inr (4, [.long n9, s0]))] := hw9
  subst hw9
  dsimp only [mPush]
  refine r_istore hX dlaw_1391 (by decide) rfl ?_
  refine r_aload_n hX dlaw_1393 rfl rfl ?_
  refine r_argZ (c := 1) hX hScr rfl rfl (by decide) (by omega) (by omega) dlaw_1394 dlaw_1395 dlaw_1397 dlaw_1398 dlaw_1399 ?_
  refine r_argZ (c := 2) hX hScr rfl rfl (by decide) (by omega) (by omega) dlaw_1400 dlaw_1401 dlaw_1403 dlaw_1404 dlaw_1405 ?_
  refine r_argZ (c := 3) hX hScr rfl rfl (by decide) (by omega) (by omega) dlaw_1406 dlaw_1407 dlaw_1409 dlaw_1410 dlaw_1411 ?_
  refine r_argZ (c := 4) hX hScr rfl rfl (by decide) (by omega) (by omega) dlaw_1412 dlaw_1413 dlaw_1415 dlaw_1416 dlaw_1417 ?_
  refine r_callV hX (z_X4_clock ad ae cs (mKof S9 T) S th [(ao, .inr (4, [.long n9, s0]))] hS _ (iZ_rng _) _ (iZ_rng _) _ (iZ_rng _) _ (iZ_rng _)) kv_L_216 14 rfl rfl rfl rfl (Nat.le_of_ble_eq_true rfl) ⟨(Nat.le_of_ble_eq_true rfl), (Nat.le_of_ble_eq_true rfl)⟩ ⟨by show k + 4 + 0 ≤ 652172; omega, by show n + 24 + 0 ≤ 7139589; omega⟩ dlaw_1418 (fun _ _ z => False.elim z) (fun v8 ws8 h8 => ?_)
  obtain ⟨r8, th8, S8, g8, rfl, hw8⟩ := zU8 (W := fun S8 th8 => mRw ad ae cs (mKof S9 T) (mJof S8 th8) [(ao, .inr (4, [.long n9, s0]))]) h8
  replace hw8 : ws8 = mRw ad ae cs (mKof S9 T) (mJof S8 th8) [(ao, .inr (4, [.long n9, s0]))] := hw8
  subst hw8
  dsimp only [mPush]
  obtain ⟨e1, e2, hn9, hwf⟩ := zM g9 g8 hS (fun g => hS.oClk g.2.2 (hS.1 (((xs (7 * t + 4)).toInt).toNat) (by omega)))
  subst S8
  subst th8
  refine r_istore hX dlaw_1421 (by decide) rfl ?_
  refine r_goto (tgt := 1893) hX dlaw_1423 (by decide) ?_
  exact r_loc (lv' := [(0, some (.ref b)), (1, some (.ref (ad 0))), (2, some (.ref (ae 0))), (3, some (.ref ao)), (4, some (.int (nI (7 * t))))]) (by exact ⟨rfl, rfl, rfl, rfl, rfl, trivial⟩) (Nat.le_refl _) (Nat.le_refl _) (back S9 T r9 n9 s0 _ _ hwf (by omega) (by omega))
set_option maxHeartbeats 1000000 in
theorem law_z23 {X : mC} {b L : Nat} {xs : Nat → Int32} {ad ae : Nat → Nat} {cs : ClassId × ClassId × ClassId} {S : mS} {T : mT2} {th : Int32} {ao t k n : Nat} {n0 : Int64} {s0 : Value} (hX : mOK X RL code 7 room_1 [] (mTy cs)) (hg : mHas X mNc) (hScr : mScr X b L xs) (hE : mLE X b) (hS : sWF S) (hL : L ≤ 3584) (hi : 7 * t + 6 < L) (hk : k + 100 ≤ 652172) (hn : n + 2500 ≤ 7139589) (back : mBkZ X b ad ae cs ao t k n) : mV X 1426 [(0, some (.ref b)), (1, some (.ref (ad 0))), (2, some (.ref (ae 0))), (3, some (.ref ao)), (4, some (.int (nI (7 * t))))] [] (mRw ad ae cs (mKof S T) (mJof S th) [(ao, .inr (4, [.long n0, s0]))]) k n := by
  refine r_aload_n hX dlaw_1426 rfl rfl ?_
  refine r_argZ (c := 1) hX hScr rfl rfl (by decide) (by omega) (by omega) dlaw_1427 dlaw_1428 dlaw_1430 dlaw_1431 dlaw_1432 ?_
  refine r_argZ (c := 2) hX hScr rfl rfl (by decide) (by omega) (by omega) dlaw_1433 dlaw_1434 dlaw_1436 dlaw_1437 dlaw_1438 ?_
  refine r_aload_n hX dlaw_1439 rfl rfl ?_
  refine r_callW hX hg (z_L_clockOf ad ae cs S T (mJof S th) [] hS ao n0 s0 _ (iZ_rng _) _ (iZ_rng _)) kh_L_217 rfl rfl (Nat.le_of_ble_eq_true rfl) ⟨(Nat.le_of_ble_eq_true rfl), (Nat.le_of_ble_eq_true rfl)⟩ ⟨by show k + 2 ≤ 652172; omega, by show n + 12 ≤ 7139589; omega⟩ dlaw_1440 (fun v9 ws9 h9 => ?_)
  obtain ⟨r9, n9, S9, g9, rfl, hw9⟩ := zU9 (W := fun S9 n9 => mRw ad ae cs (mKof S9 T) (mJof S th) [(ao, .inr (4, [.long n9, s0]))]) h9
  replace hw9 : ws9 = mRw ad ae cs (mKof S9 T) (mJof S th) [(ao, .inr (4, [.long n9, s0]))] := hw9
  subst hw9
  dsimp only [mPush]
  refine r_istore hX dlaw_1443 (by decide) rfl ?_
  refine r_aload_n hX dlaw_1445 rfl rfl ?_
  refine r_argZ (c := 1) hX hScr rfl rfl (by decide) (by omega) (by omega) dlaw_1446 dlaw_1447 dlaw_1449 dlaw_1450 dlaw_1451 ?_
  refine r_argZ (c := 2) hX hScr rfl rfl (by decide) (by omega) (by omega) dlaw_1452 dlaw_1453 dlaw_1455 dlaw_1456 dlaw_1457 ?_
  refine r_callV hX (z_X4_clockOf ad ae cs (mKof S9 T) S th [(ao, .inr (4, [.long n9, s0]))] hS _ (iZ_rng _) _ (iZ_rng _)) kv_L_219 14 rfl rfl rfl rfl (Nat.le_of_ble_eq_true rfl) ⟨(Nat.le_of_ble_eq_true rfl), (Nat.le_of_ble_eq_true rfl)⟩ ⟨by show k + 2 + 0 ≤ 652172; omega, by show n + 12 + 0 ≤ 7139589; omega⟩ dlaw_1458 (fun _ _ z => False.elim z) (fun v8 ws8 h8 => ?_)
  obtain ⟨r8, th8, S8, g8, rfl, hw8⟩ := zU8 (W := fun S8 th8 => mRw ad ae cs (mKof S9 T) (mJof S8 th8) [(ao, .inr (4, [.long n9, s0]))]) h8
  replace hw8 : ws8 = mRw ad ae cs (mKof S9 T) (mJof S8 th8) [(ao, .inr (4, [.long n9, s0]))] := hw8
  subst hw8
  dsimp only [mPush]
  obtain ⟨e1, e2, hn9, hwf⟩ := zM g9 g8 hS (fun g => hS.oClk (hS.2.2.1 (((xs (7 * t + 2)).toInt).toNat) (by omega)).1 (hS.2.2.1 (((xs (7 * t + 2)).toInt).toNat) (by omega)).2)
  subst S8
  subst th8
  refine r_istore hX dlaw_1461 (by decide) rfl ?_
  refine r_goto (tgt := 1893) hX dlaw_1463 (by decide) ?_
  exact r_loc (lv' := [(0, some (.ref b)), (1, some (.ref (ad 0))), (2, some (.ref (ae 0))), (3, some (.ref ao)), (4, some (.int (nI (7 * t))))]) (by exact ⟨rfl, rfl, rfl, rfl, rfl, trivial⟩) (Nat.le_refl _) (Nat.le_refl _) (back S9 T r9 n9 s0 _ _ hwf (by omega) (by omega))
set_option maxHeartbeats 1000000 in
theorem law_z24 {X : mC} {b L : Nat} {xs : Nat → Int32} {ad ae : Nat → Nat} {cs : ClassId × ClassId × ClassId} {S : mS} {T : mT2} {th : Int32} {ao t k n : Nat} {n0 : Int64} {s0 : Value} (hX : mOK X RL code 7 room_1 [] (mTy cs)) (hg : mHas X mNc) (hScr : mScr X b L xs) (hE : mLE X b) (hS : sWF S) (hL : L ≤ 3584) (hi : 7 * t + 6 < L) (hk : k + 100 ≤ 652172) (hn : n + 2500 ≤ 7139589) (back : mBkZ X b ad ae cs ao t k n) : mV X 1466 [(0, some (.ref b)), (1, some (.ref (ad 0))), (2, some (.ref (ae 0))), (3, some (.ref ao)), (4, some (.int (nI (7 * t))))] [] (mRw ad ae cs (mKof S T) (mJof S th) [(ao, .inr (4, [.long n0, s0]))]) k n := by
  refine r_aload_n hX dlaw_1466 rfl rfl ?_
  refine r_argZ (c := 1) hX hScr rfl rfl (by decide) (by omega) (by omega) dlaw_1467 dlaw_1468 dlaw_1470 dlaw_1471 dlaw_1472 ?_
  refine r_argZ (c := 2) hX hScr rfl rfl (by decide) (by omega) (by omega) dlaw_1473 dlaw_1474 dlaw_1476 dlaw_1477 dlaw_1478 ?_
  refine r_aload_n hX dlaw_1479 rfl rfl ?_
  refine r_callW hX hg (z_L_strike ad ae cs S T (mJof S th) [] hS ao n0 s0 _ (iZ_rng _) _ (iZ_rng _)) kh_L_220 rfl rfl (Nat.le_of_ble_eq_true rfl) ⟨(Nat.le_of_ble_eq_true rfl), (Nat.le_of_ble_eq_true rfl)⟩ ⟨by show k + 2 ≤ 652172; omega, by show n + 12 ≤ 7139589; omega⟩ dlaw_1480 (fun v9 ws9 h9 => ?_)
  obtain ⟨r9, n9, S9, g9, rfl, hw9⟩ := zU9 (W := fun S9 n9 => mRw ad ae cs (mKof S9 T) (mJof S th) [(ao, .inr (4, [.long n9, s0]))]) h9
  replace hw9 : ws9 = mRw ad ae cs (mKof S9 T) (mJof S th) [(ao, .inr (4, [.long n9, s0]))] := hw9
  subst hw9
  dsimp only [mPush]
  refine r_istore hX dlaw_1483 (by decide) rfl ?_
  refine r_aload_n hX dlaw_1485 rfl rfl ?_
  refine r_argZ (c := 1) hX hScr rfl rfl (by decide) (by omega) (by omega) dlaw_1486 dlaw_1487 dlaw_1489 dlaw_1490 dlaw_1491 ?_
  refine r_argZ (c := 2) hX hScr rfl rfl (by decide) (by omega) (by omega) dlaw_1492 dlaw_1493 dlaw_1495 dlaw_1496 dlaw_1497 ?_
  refine r_callV hX (z_X4_strike ad ae cs (mKof S9 T) S th [(ao, .inr (4, [.long n9, s0]))] hS _ (iZ_rng _) _ (iZ_rng _)) kv_L_222 14 rfl rfl rfl rfl (Nat.le_of_ble_eq_true rfl) ⟨(Nat.le_of_ble_eq_true rfl), (Nat.le_of_ble_eq_true rfl)⟩ ⟨by show k + 2 + 0 ≤ 652172; omega, by show n + 12 + 0 ≤ 7139589; omega⟩ dlaw_1498 (fun _ _ z => False.elim z) (fun v8 ws8 h8 => ?_)
  obtain ⟨r8, th8, S8, g8, rfl, hw8⟩ := zU8 (W := fun S8 th8 => mRw ad ae cs (mKof S9 T) (mJof S8 th8) [(ao, .inr (4, [.long n9, s0]))]) h8
  replace hw8 : ws8 = mRw ad ae cs (mKof S9 T) (mJof S8 th8) [(ao, .inr (4, [.long n9, s0]))] := hw8
  subst hw8
  dsimp only [mPush]
  obtain ⟨e1, e2, hn9, hwf⟩ := zM g9 g8 hS (fun g => hS.oLoc (by omega) (hS.2.2.1 (((xs (7 * t + 2)).toInt).toNat + 4) (by omega)).1 (hS.2.2.1 (((xs (7 * t + 2)).toInt).toNat + 4) (by omega)).2)
  subst S8
  subst th8
  refine r_istore hX dlaw_1501 (by decide) rfl ?_
  refine r_goto (tgt := 1893) hX dlaw_1503 (by decide) ?_
  exact r_loc (lv' := [(0, some (.ref b)), (1, some (.ref (ad 0))), (2, some (.ref (ae 0))), (3, some (.ref ao)), (4, some (.int (nI (7 * t))))]) (by exact ⟨rfl, rfl, rfl, rfl, rfl, trivial⟩) (Nat.le_refl _) (Nat.le_refl _) (back S9 T r9 n9 s0 _ _ hwf (by omega) (by omega))
set_option maxHeartbeats 1000000 in
theorem law_z25 {X : mC} {b L : Nat} {xs : Nat → Int32} {ad ae : Nat → Nat} {cs : ClassId × ClassId × ClassId} {S : mS} {T : mT2} {th : Int32} {ao t k n : Nat} {n0 : Int64} {s0 : Value} (hX : mOK X RL code 7 room_1 [] (mTy cs)) (hg : mHas X mNc) (hScr : mScr X b L xs) (hE : mLE X b) (hS : sWF S) (hL : L ≤ 3584) (hi : 7 * t + 6 < L) (hk : k + 100 ≤ 652172) (hn : n + 2500 ≤ 7139589) (back : mBkZ X b ad ae cs ao t k n) : mV X 1506 [(0, some (.ref b)), (1, some (.ref (ad 0))), (2, some (.ref (ae 0))), (3, some (.ref ao)), (4, some (.int (nI (7 * t))))] [] (mRw ad ae cs (mKof S T) (mJof S th) [(ao, .inr (4, [.long n0, s0]))]) k n := by
  refine r_aload_n hX dlaw_1506 rfl rfl ?_
  refine r_argZ (c := 1) hX hScr rfl rfl (by decide) (by omega) (by omega) dlaw_1507 dlaw_1508 dlaw_1510 dlaw_1511 dlaw_1512 ?_
  refine r_argZ (c := 2) hX hScr rfl rfl (by decide) (by omega) (by omega) dlaw_1513 dlaw_1514 dlaw_1516 dlaw_1517 dlaw_1518 ?_
  refine r_argZ (c := 3) hX hScr rfl rfl (by decide) (by omega) (by omega) dlaw_1519 dlaw_1520 dlaw_1522 dlaw_1523 dlaw_1524 ?_
  refine r_argZ (c := 4) hX hScr rfl rfl (by decide) (by omega) (by omega) dlaw_1525 dlaw_1526 dlaw_1528 dlaw_1529 dlaw_1530 ?_
  refine r_ne0Z hX (iZ_rng _) dlaw_1531 dlaw_1534 dlaw_1535 dlaw_1538 ?_
  refine r_aload_n hX dlaw_1539 rfl rfl ?_
  refine r_callW hX hg (z_L_moveClock ad ae cs S T (mJof S th) [] hS ao n0 s0 _ (iZ_rng _) _ (iZ_rng _) _ (iZ_rng _) _) kh_L_223 rfl rfl (Nat.le_of_ble_eq_true rfl) ⟨(Nat.le_of_ble_eq_true rfl), (Nat.le_of_ble_eq_true rfl)⟩ ⟨by show k + 2 ≤ 652172; omega, by show n + 12 ≤ 7139589; omega⟩ dlaw_1540 (fun v9 ws9 h9 => ?_)
  obtain ⟨r9, n9, S9, g9, rfl, hw9⟩ := zU9 (W := fun S9 n9 => mRw ad ae cs (mKof S9 T) (mJof S th) [(ao, .inr (4, [.long n9, s0]))]) h9
  replace hw9 : ws9 = mRw ad ae cs (mKof S9 T) (mJof S th) [(ao, .inr (4, [.long n9, s0]))] := hw9
  subst hw9
  dsimp only [mPush]
  refine r_istore hX dlaw_1543 (by decide) rfl ?_
  refine r_aload_n hX dlaw_1545 rfl rfl ?_
  refine r_argZ (c := 1) hX hScr rfl rfl (by decide) (by omega) (by omega) dlaw_1546 dlaw_1547 dlaw_1549 dlaw_1550 dlaw_1551 ?_
  refine r_argZ (c := 2) hX hScr rfl rfl (by decide) (by omega) (by omega) dlaw_1552 dlaw_1553 dlaw_1555 dlaw_1556 dlaw_1557 ?_
  refine r_argZ (c := 3) hX hScr rfl rfl (by decide) (by omega) (by omega) dlaw_1558 dlaw_1559 dlaw_1561 dlaw_1562 dlaw_1563 ?_
  refine r_argZ (c := 4) hX hScr rfl rfl (by decide) (by omega) (by omega) dlaw_1564 dlaw_1565 dlaw_1567 dlaw_1568 dlaw_1569 ?_
  refine r_ne0Z hX (iZ_rng _) dlaw_1570 dlaw_1573 dlaw_1574 dlaw_1577 ?_
  refine r_callV hX (z_X4_moveClock ad ae cs (mKof S9 T) S th [(ao, .inr (4, [.long n9, s0]))] hS _ (iZ_rng _) _ (iZ_rng _) _ (iZ_rng _) _) kv_L_225 14 rfl rfl rfl rfl (Nat.le_of_ble_eq_true rfl) ⟨(Nat.le_of_ble_eq_true rfl), (Nat.le_of_ble_eq_true rfl)⟩ ⟨by show k + 2 + 0 ≤ 652172; omega, by show n + 12 + 0 ≤ 7139589; omega⟩ dlaw_1578 (fun _ _ z => False.elim z) (fun v8 ws8 h8 => ?_)
  obtain ⟨r8, th8, S8, g8, rfl, hw8⟩ := zU8 (W := fun S8 th8 => mRw ad ae cs (mKof S9 T) (mJof S8 th8) [(ao, .inr (4, [.long n9, s0]))]) h8
  replace hw8 : ws8 = mRw ad ae cs (mKof S9 T) (mJof S8 th8) [(ao, .inr (4, [.long n9, s0]))] := hw8
  subst hw8
  dsimp only [mPush]
  obtain ⟨e1, e2, hn9, hwf⟩ := zM g9 g8 hS (fun g => hS.oClk (zNn_r (hS.2.2.1 (((xs (7 * t + 1)).toInt).toNat + 4) (by omega)).1) (hS.2.2.1 (((xs (7 * t + 1)).toInt).toNat + 4) (by omega)).2)
  subst S8
  subst th8
  refine r_istore hX dlaw_1581 (by decide) rfl ?_
  refine r_goto (tgt := 1893) hX dlaw_1583 (by decide) ?_
  exact r_loc (lv' := [(0, some (.ref b)), (1, some (.ref (ad 0))), (2, some (.ref (ae 0))), (3, some (.ref ao)), (4, some (.int (nI (7 * t))))]) (by exact ⟨rfl, rfl, rfl, rfl, rfl, trivial⟩) (Nat.le_refl _) (Nat.le_refl _) (back S9 T r9 n9 s0 _ _ hwf (by omega) (by omega))
set_option maxHeartbeats 1000000 in
theorem law_z26 {X : mC} {b L : Nat} {xs : Nat → Int32} {ad ae : Nat → Nat} {cs : ClassId × ClassId × ClassId} {S : mS} {T : mT2} {th : Int32} {ao t k n : Nat} {n0 : Int64} {s0 : Value} (hX : mOK X RL code 7 room_1 [] (mTy cs)) (hg : mHas X mNc) (hScr : mScr X b L xs) (hE : mLE X b) (hS : sWF S) (hL : L ≤ 3584) (hi : 7 * t + 6 < L) (hk : k + 100 ≤ 652172) (hn : n + 2500 ≤ 7139589) (back : mBkZ X b ad ae cs ao t k n) : mV X 1586 [(0, some (.ref b)), (1, some (.ref (ad 0))), (2, some (.ref (ae 0))), (3, some (.ref ao)), (4, some (.int (nI (7 * t))))] [] (mRw ad ae cs (mKof S T) (mJof S th) [(ao, .inr (4, [.long n0, s0]))]) k n := by
  refine r_aload_n hX dlaw_1586 rfl rfl ?_
  refine r_argZ (c := 1) hX hScr rfl rfl (by decide) (by omega) (by omega) dlaw_1587 dlaw_1588 dlaw_1590 dlaw_1591 dlaw_1592 ?_
  refine r_argZ (c := 2) hX hScr rfl rfl (by decide) (by omega) (by omega) dlaw_1593 dlaw_1594 dlaw_1596 dlaw_1597 dlaw_1598 ?_
  refine r_argZ (c := 3) hX hScr rfl rfl (by decide) (by omega) (by omega) dlaw_1599 dlaw_1600 dlaw_1602 dlaw_1603 dlaw_1604 ?_
  refine r_ne0Z hX (iZ_rng _) dlaw_1605 dlaw_1608 dlaw_1609 dlaw_1612 ?_
  refine r_aload_n hX dlaw_1613 rfl rfl ?_
  refine r_callW hX hg (z_L_anewClock ad ae cs S T (mJof S th) [] hS ao n0 s0 _ (iZ_rng _) _ (iZ_rng _) _) kh_L_226 rfl rfl (Nat.le_of_ble_eq_true rfl) ⟨(Nat.le_of_ble_eq_true rfl), (Nat.le_of_ble_eq_true rfl)⟩ ⟨by show k + 2 ≤ 652172; omega, by show n + 12 ≤ 7139589; omega⟩ dlaw_1614 (fun v9 ws9 h9 => ?_)
  obtain ⟨r9, n9, S9, g9, rfl, hw9⟩ := zU9 (W := fun S9 n9 => mRw ad ae cs (mKof S9 T) (mJof S th) [(ao, .inr (4, [.long n9, s0]))]) h9
  replace hw9 : ws9 = mRw ad ae cs (mKof S9 T) (mJof S th) [(ao, .inr (4, [.long n9, s0]))] := hw9
  subst hw9
  dsimp only [mPush]
  refine r_istore hX dlaw_1617 (by decide) rfl ?_
  refine r_aload_n hX dlaw_1619 rfl rfl ?_
  refine r_argZ (c := 1) hX hScr rfl rfl (by decide) (by omega) (by omega) dlaw_1620 dlaw_1621 dlaw_1623 dlaw_1624 dlaw_1625 ?_
  refine r_argZ (c := 2) hX hScr rfl rfl (by decide) (by omega) (by omega) dlaw_1626 dlaw_1627 dlaw_1629 dlaw_1630 dlaw_1631 ?_
  refine r_argZ (c := 3) hX hScr rfl rfl (by decide) (by omega) (by omega) dlaw_1632 dlaw_1633 dlaw_1635 dlaw_1636 dlaw_1637 ?_
  refine r_ne0Z hX (iZ_rng _) dlaw_1638 dlaw_1641 dlaw_1642 dlaw_1645 ?_
  refine r_callV hX (z_X4_anewClock ad ae cs (mKof S9 T) S th [(ao, .inr (4, [.long n9, s0]))] hS _ (iZ_rng _) _ (iZ_rng _) _) kv_L_228 14 rfl rfl rfl rfl (Nat.le_of_ble_eq_true rfl) ⟨(Nat.le_of_ble_eq_true rfl), (Nat.le_of_ble_eq_true rfl)⟩ ⟨by show k + 2 + 0 ≤ 652172; omega, by show n + 12 + 0 ≤ 7139589; omega⟩ dlaw_1646 (fun _ _ z => False.elim z) (fun v8 ws8 h8 => ?_)
  obtain ⟨r8, th8, S8, g8, rfl, hw8⟩ := zU8 (W := fun S8 th8 => mRw ad ae cs (mKof S9 T) (mJof S8 th8) [(ao, .inr (4, [.long n9, s0]))]) h8
  replace hw8 : ws8 = mRw ad ae cs (mKof S9 T) (mJof S8 th8) [(ao, .inr (4, [.long n9, s0]))] := hw8
  subst hw8
  dsimp only [mPush]
  obtain ⟨e1, e2, hn9, hwf⟩ := zM g9 g8 hS (fun g => hS.oClk (hS.2.2.1 (((xs (7 * t + 1)).toInt).toNat + 4) (by omega)).1 (hS.1 (((xs (7 * t + 2)).toInt).toNat) (by omega)))
  subst S8
  subst th8
  refine r_istore hX dlaw_1649 (by decide) rfl ?_
  refine r_goto (tgt := 1893) hX dlaw_1651 (by decide) ?_
  exact r_loc (lv' := [(0, some (.ref b)), (1, some (.ref (ad 0))), (2, some (.ref (ae 0))), (3, some (.ref ao)), (4, some (.int (nI (7 * t))))]) (by exact ⟨rfl, rfl, rfl, rfl, rfl, trivial⟩) (Nat.le_refl _) (Nat.le_refl _) (back S9 T r9 n9 s0 _ _ hwf (by omega) (by omega))
set_option maxHeartbeats 1000000 in
theorem law_z27 {X : mC} {b L : Nat} {xs : Nat → Int32} {ad ae : Nat → Nat} {cs : ClassId × ClassId × ClassId} {S : mS} {T : mT2} {th : Int32} {ao t k n : Nat} {n0 : Int64} {s0 : Value} (hX : mOK X RL code 7 room_1 [] (mTy cs)) (hg : mHas X mNc) (hScr : mScr X b L xs) (hE : mLE X b) (hS : sWF S) (hL : L ≤ 3584) (hi : 7 * t + 6 < L) (hk : k + 100 ≤ 652172) (hn : n + 2500 ≤ 7139589) (back : mBkZ X b ad ae cs ao t k n) : mV X 1654 [(0, some (.ref b)), (1, some (.ref (ad 0))), (2, some (.ref (ae 0))), (3, some (.ref ao)), (4, some (.int (nI (7 * t))))] [] (mRw ad ae cs (mKof S T) (mJof S th) [(ao, .inr (4, [.long n0, s0]))]) k n := by
  refine r_aload_n hX dlaw_1654 rfl rfl ?_
  refine r_argZ (c := 1) hX hScr rfl rfl (by decide) (by omega) (by omega) dlaw_1655 dlaw_1656 dlaw_1658 dlaw_1659 dlaw_1660 ?_
  refine r_argZ (c := 2) hX hScr rfl rfl (by decide) (by omega) (by omega) dlaw_1661 dlaw_1662 dlaw_1664 dlaw_1665 dlaw_1666 ?_
  refine r_aload_n hX dlaw_1667 rfl rfl ?_
  refine r_callW hX hg (z_L_copyClock ad ae cs S T (mJof S th) [] hS ao n0 s0 _ (iZ_rng _) _ (iZ_rng _)) kh_L_229 rfl rfl (Nat.le_of_ble_eq_true rfl) ⟨(Nat.le_of_ble_eq_true rfl), (Nat.le_of_ble_eq_true rfl)⟩ ⟨by show k + 2 ≤ 652172; omega, by show n + 12 ≤ 7139589; omega⟩ dlaw_1668 (fun v9 ws9 h9 => ?_)
  obtain ⟨r9, n9, S9, g9, rfl, hw9⟩ := zU9 (W := fun S9 n9 => mRw ad ae cs (mKof S9 T) (mJof S th) [(ao, .inr (4, [.long n9, s0]))]) h9
  replace hw9 : ws9 = mRw ad ae cs (mKof S9 T) (mJof S th) [(ao, .inr (4, [.long n9, s0]))] := hw9
  subst hw9
  dsimp only [mPush]
  refine r_istore hX dlaw_1671 (by decide) rfl ?_
  refine r_aload_n hX dlaw_1673 rfl rfl ?_
  refine r_argZ (c := 1) hX hScr rfl rfl (by decide) (by omega) (by omega) dlaw_1674 dlaw_1675 dlaw_1677 dlaw_1678 dlaw_1679 ?_
  refine r_argZ (c := 2) hX hScr rfl rfl (by decide) (by omega) (by omega) dlaw_1680 dlaw_1681 dlaw_1683 dlaw_1684 dlaw_1685 ?_
  refine r_callV hX (z_X4_copyClock ad ae cs (mKof S9 T) S th [(ao, .inr (4, [.long n9, s0]))] hS _ (iZ_rng _) _ (iZ_rng _)) kv_L_231 14 rfl rfl rfl rfl (Nat.le_of_ble_eq_true rfl) ⟨(Nat.le_of_ble_eq_true rfl), (Nat.le_of_ble_eq_true rfl)⟩ ⟨by show k + 2 + 0 ≤ 652172; omega, by show n + 12 + 0 ≤ 7139589; omega⟩ dlaw_1686 (fun _ _ z => False.elim z) (fun v8 ws8 h8 => ?_)
  obtain ⟨r8, th8, S8, g8, rfl, hw8⟩ := zU8 (W := fun S8 th8 => mRw ad ae cs (mKof S9 T) (mJof S8 th8) [(ao, .inr (4, [.long n9, s0]))]) h8
  replace hw8 : ws8 = mRw ad ae cs (mKof S9 T) (mJof S8 th8) [(ao, .inr (4, [.long n9, s0]))] := hw8
  subst hw8
  dsimp only [mPush]
  obtain ⟨e1, e2, hn9, hwf⟩ := zM g9 g8 hS (fun g => hS.oClk (hS.2.2.1 (((xs (7 * t + 2)).toInt).toNat + 4) (by omega)).1 (hS.2.2.1 (((xs (7 * t + 2)).toInt).toNat + 4) (by omega)).2)
  subst S8
  subst th8
  refine r_istore hX dlaw_1689 (by decide) rfl ?_
  refine r_goto (tgt := 1893) hX dlaw_1691 (by decide) ?_
  exact r_loc (lv' := [(0, some (.ref b)), (1, some (.ref (ad 0))), (2, some (.ref (ae 0))), (3, some (.ref ao)), (4, some (.int (nI (7 * t))))]) (by exact ⟨rfl, rfl, rfl, rfl, rfl, trivial⟩) (Nat.le_refl _) (Nat.le_refl _) (back S9 T r9 n9 s0 _ _ hwf (by omega) (by omega))
set_option maxHeartbeats 1000000 in
theorem law_z28 {X : mC} {b L : Nat} {xs : Nat → Int32} {ad ae : Nat → Nat} {cs : ClassId × ClassId × ClassId} {S : mS} {T : mT2} {th : Int32} {ao t k n : Nat} {n0 : Int64} {s0 : Value} (hX : mOK X RL code 7 room_1 [] (mTy cs)) (hg : mHas X mNc) (hScr : mScr X b L xs) (hE : mLE X b) (hS : sWF S) (hL : L ≤ 3584) (hi : 7 * t + 6 < L) (hk : k + 100 ≤ 652172) (hn : n + 2500 ≤ 7139589) (back : mBkZ X b ad ae cs ao t k n) : mV X 1694 [(0, some (.ref b)), (1, some (.ref (ad 0))), (2, some (.ref (ae 0))), (3, some (.ref ao)), (4, some (.int (nI (7 * t))))] [] (mRw ad ae cs (mKof S T) (mJof S th) [(ao, .inr (4, [.long n0, s0]))]) k n := by
  refine r_aload_n hX dlaw_1694 rfl rfl ?_
  refine r_argZ (c := 1) hX hScr rfl rfl (by decide) (by omega) (by omega) dlaw_1695 dlaw_1696 dlaw_1698 dlaw_1699 dlaw_1700 ?_
  refine r_argZ (c := 2) hX hScr rfl rfl (by decide) (by omega) (by omega) dlaw_1701 dlaw_1702 dlaw_1704 dlaw_1705 dlaw_1706 ?_
  refine r_aload_n hX dlaw_1707 rfl rfl ?_
  refine r_callW hX hg (z_L_ofClock ad ae cs S T (mJof S th) [] hS ao n0 s0 _ (iZ_rng _) _ (iZ_rng _)) kh_L_232 rfl rfl (Nat.le_of_ble_eq_true rfl) ⟨(Nat.le_of_ble_eq_true rfl), (Nat.le_of_ble_eq_true rfl)⟩ ⟨by show k + 2 ≤ 652172; omega, by show n + 12 ≤ 7139589; omega⟩ dlaw_1708 (fun v9 ws9 h9 => ?_)
  obtain ⟨r9, n9, S9, g9, rfl, hw9⟩ := zU9 (W := fun S9 n9 => mRw ad ae cs (mKof S9 T) (mJof S th) [(ao, .inr (4, [.long n9, s0]))]) h9
  replace hw9 : ws9 = mRw ad ae cs (mKof S9 T) (mJof S th) [(ao, .inr (4, [.long n9, s0]))] := hw9
  subst hw9
  dsimp only [mPush]
  refine r_istore hX dlaw_1711 (by decide) rfl ?_
  refine r_aload_n hX dlaw_1713 rfl rfl ?_
  refine r_argZ (c := 1) hX hScr rfl rfl (by decide) (by omega) (by omega) dlaw_1714 dlaw_1715 dlaw_1717 dlaw_1718 dlaw_1719 ?_
  refine r_argZ (c := 2) hX hScr rfl rfl (by decide) (by omega) (by omega) dlaw_1720 dlaw_1721 dlaw_1723 dlaw_1724 dlaw_1725 ?_
  refine r_callV hX (z_X4_ofClock ad ae cs (mKof S9 T) S th [(ao, .inr (4, [.long n9, s0]))] hS _ (iZ_rng _) _ (iZ_rng _)) kv_L_234 14 rfl rfl rfl rfl (Nat.le_of_ble_eq_true rfl) ⟨(Nat.le_of_ble_eq_true rfl), (Nat.le_of_ble_eq_true rfl)⟩ ⟨by show k + 2 + 1 ≤ 652172; omega, by show n + 12 + 4 ≤ 7139589; omega⟩ dlaw_1726 (fun _ _ z => False.elim z) (fun v8 ws8 h8 => ?_)
  obtain ⟨r8, th8, S8, g8, rfl, hw8⟩ := zU8 (W := fun S8 th8 => mRw ad ae cs (mKof S9 T) (mJof S8 th8) [(ao, .inr (4, [.long n9, s0]))]) h8
  replace hw8 : ws8 = mRw ad ae cs (mKof S9 T) (mJof S8 th8) [(ao, .inr (4, [.long n9, s0]))] := hw8
  subst hw8
  dsimp only [mPush]
  obtain ⟨e1, e2, hn9, hwf⟩ := zM g9 g8 hS (fun g => hS)
  subst S8
  subst th8
  refine r_istore hX dlaw_1729 (by decide) rfl ?_
  refine r_goto (tgt := 1893) hX dlaw_1731 (by decide) ?_
  exact r_loc (lv' := [(0, some (.ref b)), (1, some (.ref (ad 0))), (2, some (.ref (ae 0))), (3, some (.ref ao)), (4, some (.int (nI (7 * t))))]) (by exact ⟨rfl, rfl, rfl, rfl, rfl, trivial⟩) (Nat.le_refl _) (Nat.le_refl _) (back S9 T r9 n9 s0 _ _ hwf (by omega) (by omega))
set_option maxHeartbeats 1000000 in
theorem law_z29 {X : mC} {b L : Nat} {xs : Nat → Int32} {ad ae : Nat → Nat} {cs : ClassId × ClassId × ClassId} {S : mS} {T : mT2} {th : Int32} {ao t k n : Nat} {n0 : Int64} {s0 : Value} (hX : mOK X RL code 7 room_1 [] (mTy cs)) (hg : mHas X mNc) (hScr : mScr X b L xs) (hE : mLE X b) (hS : sWF S) (hL : L ≤ 3584) (hi : 7 * t + 6 < L) (hk : k + 100 ≤ 652172) (hn : n + 2500 ≤ 7139589) (back : mBkZ X b ad ae cs ao t k n) : mV X 1734 [(0, some (.ref b)), (1, some (.ref (ad 0))), (2, some (.ref (ae 0))), (3, some (.ref ao)), (4, some (.int (nI (7 * t))))] [] (mRw ad ae cs (mKof S T) (mJof S th) [(ao, .inr (4, [.long n0, s0]))]) k n := by
  refine r_aload_n hX dlaw_1734 rfl rfl ?_
  refine r_argZ (c := 1) hX hScr rfl rfl (by decide) (by omega) (by omega) dlaw_1735 dlaw_1736 dlaw_1738 dlaw_1739 dlaw_1740 ?_
  refine r_argZ (c := 2) hX hScr rfl rfl (by decide) (by omega) (by omega) dlaw_1741 dlaw_1742 dlaw_1744 dlaw_1745 dlaw_1746 ?_
  refine r_aload_n hX dlaw_1747 rfl rfl ?_
  refine r_callW hX hg (z_L_orderClock ad ae cs S T (mJof S th) [] hS ao n0 s0 _ (iZ_rng _) _ (iZ_rng _)) kh_L_235 rfl rfl (Nat.le_of_ble_eq_true rfl) ⟨(Nat.le_of_ble_eq_true rfl), (Nat.le_of_ble_eq_true rfl)⟩ ⟨by show k + 2 ≤ 652172; omega, by show n + 12 ≤ 7139589; omega⟩ dlaw_1748 (fun v9 ws9 h9 => ?_)
  obtain ⟨r9, n9, S9, g9, rfl, hw9⟩ := zU9 (W := fun S9 n9 => mRw ad ae cs (mKof S9 T) (mJof S th) [(ao, .inr (4, [.long n9, s0]))]) h9
  replace hw9 : ws9 = mRw ad ae cs (mKof S9 T) (mJof S th) [(ao, .inr (4, [.long n9, s0]))] := hw9
  subst hw9
  dsimp only [mPush]
  refine r_istore hX dlaw_1751 (by decide) rfl ?_
  refine r_aload_n hX dlaw_1753 rfl rfl ?_
  refine r_argZ (c := 1) hX hScr rfl rfl (by decide) (by omega) (by omega) dlaw_1754 dlaw_1755 dlaw_1757 dlaw_1758 dlaw_1759 ?_
  refine r_argZ (c := 2) hX hScr rfl rfl (by decide) (by omega) (by omega) dlaw_1760 dlaw_1761 dlaw_1763 dlaw_1764 dlaw_1765 ?_
  refine r_callV hX (z_X4_orderClock ad ae cs (mKof S9 T) S th [(ao, .inr (4, [.long n9, s0]))] hS _ (iZ_rng _) _ (iZ_rng _)) kv_L_237 14 rfl rfl rfl rfl (Nat.le_of_ble_eq_true rfl) ⟨(Nat.le_of_ble_eq_true rfl), (Nat.le_of_ble_eq_true rfl)⟩ ⟨by show k + 2 + 0 ≤ 652172; omega, by show n + 12 + 0 ≤ 7139589; omega⟩ dlaw_1766 (fun _ _ z => False.elim z) (fun v8 ws8 h8 => ?_)
  obtain ⟨r8, th8, S8, g8, rfl, hw8⟩ := zU8 (W := fun S8 th8 => mRw ad ae cs (mKof S9 T) (mJof S8 th8) [(ao, .inr (4, [.long n9, s0]))]) h8
  replace hw8 : ws8 = mRw ad ae cs (mKof S9 T) (mJof S8 th8) [(ao, .inr (4, [.long n9, s0]))] := hw8
  subst hw8
  dsimp only [mPush]
  obtain ⟨e1, e2, hn9, hwf⟩ := zM g9 g8 hS (fun g => hS)
  subst S8
  subst th8
  refine r_istore hX dlaw_1769 (by decide) rfl ?_
  refine r_goto (tgt := 1893) hX dlaw_1771 (by decide) ?_
  exact r_loc (lv' := [(0, some (.ref b)), (1, some (.ref (ad 0))), (2, some (.ref (ae 0))), (3, some (.ref ao)), (4, some (.int (nI (7 * t))))]) (by exact ⟨rfl, rfl, rfl, rfl, rfl, trivial⟩) (Nat.le_refl _) (Nat.le_refl _) (back S9 T r9 n9 s0 _ _ hwf (by omega) (by omega))
set_option maxHeartbeats 1000000 in
theorem law_z30 {X : mC} {b L : Nat} {xs : Nat → Int32} {ad ae : Nat → Nat} {cs : ClassId × ClassId × ClassId} {S : mS} {T : mT2} {th : Int32} {ao t k n : Nat} {n0 : Int64} {s0 : Value} (hX : mOK X RL code 7 room_1 [] (mTy cs)) (hg : mHas X mNc) (hScr : mScr X b L xs) (hE : mLE X b) (hS : sWF S) (hL : L ≤ 3584) (hi : 7 * t + 6 < L) (hk : k + 100 ≤ 652172) (hn : n + 2500 ≤ 7139589) (back : mBkZ X b ad ae cs ao t k n) : mV X 1774 [(0, some (.ref b)), (1, some (.ref (ad 0))), (2, some (.ref (ae 0))), (3, some (.ref ao)), (4, some (.int (nI (7 * t))))] [] (mRw ad ae cs (mKof S T) (mJof S th) [(ao, .inr (4, [.long n0, s0]))]) k n := by
  refine r_aload_n hX dlaw_1774 rfl rfl ?_
  refine r_argZ (c := 1) hX hScr rfl rfl (by decide) (by omega) (by omega) dlaw_1775 dlaw_1776 dlaw_1778 dlaw_1779 dlaw_1780 ?_
  refine r_argZ (c := 2) hX hScr rfl rfl (by decide) (by omega) (by omega) dlaw_1781 dlaw_1782 dlaw_1784 dlaw_1785 dlaw_1786 ?_
  refine r_argZ (c := 3) hX hScr rfl rfl (by decide) (by omega) (by omega) dlaw_1787 dlaw_1788 dlaw_1790 dlaw_1791 dlaw_1792 ?_
  refine r_aload_n hX dlaw_1793 rfl rfl ?_
  refine r_callW hX hg (z_L_isClock ad ae cs S T (mJof S th) [] hS ao n0 s0 _ (iZ_rng _) _ (iZ_rng _) _ (iZ_rng _)) kh_L_238 rfl rfl (Nat.le_of_ble_eq_true rfl) ⟨(Nat.le_of_ble_eq_true rfl), (Nat.le_of_ble_eq_true rfl)⟩ ⟨by show k + 3 ≤ 652172; omega, by show n + 18 ≤ 7139589; omega⟩ dlaw_1794 (fun v9 ws9 h9 => ?_)
  obtain ⟨r9, n9, S9, g9, rfl, hw9⟩ := zU9 (W := fun S9 n9 => mRw ad ae cs (mKof S9 T) (mJof S th) [(ao, .inr (4, [.long n9, s0]))]) h9
  replace hw9 : ws9 = mRw ad ae cs (mKof S9 T) (mJof S th) [(ao, .inr (4, [.long n9, s0]))] := hw9
  subst hw9
  dsimp only [mPush]
  refine r_istore hX dlaw_1797 (by decide) rfl ?_
  refine r_aload_n hX dlaw_1799 rfl rfl ?_
  refine r_argZ (c := 1) hX hScr rfl rfl (by decide) (by omega) (by omega) dlaw_1800 dlaw_1801 dlaw_1803 dlaw_1804 dlaw_1805 ?_
  refine r_argZ (c := 2) hX hScr rfl rfl (by decide) (by omega) (by omega) dlaw_1806 dlaw_1807 dlaw_1809 dlaw_1810 dlaw_1811 ?_
  refine r_argZ (c := 3) hX hScr rfl rfl (by decide) (by omega) (by omega) dlaw_1812 dlaw_1813 dlaw_1815 dlaw_1816 dlaw_1817 ?_
  refine r_callV hX (z_X4_isClock ad ae cs (mKof S9 T) S th [(ao, .inr (4, [.long n9, s0]))] hS _ (iZ_rng _) _ (iZ_rng _) _ (iZ_rng _)) kv_L_240 14 rfl rfl rfl rfl (Nat.le_of_ble_eq_true rfl) ⟨(Nat.le_of_ble_eq_true rfl), (Nat.le_of_ble_eq_true rfl)⟩ ⟨by show k + 3 + 0 ≤ 652172; omega, by show n + 18 + 0 ≤ 7139589; omega⟩ dlaw_1818 (fun _ _ z => False.elim z) (fun v8 ws8 h8 => ?_)
  obtain ⟨r8, th8, S8, g8, rfl, hw8⟩ := zU8 (W := fun S8 th8 => mRw ad ae cs (mKof S9 T) (mJof S8 th8) [(ao, .inr (4, [.long n9, s0]))]) h8
  replace hw8 : ws8 = mRw ad ae cs (mKof S9 T) (mJof S8 th8) [(ao, .inr (4, [.long n9, s0]))] := hw8
  subst hw8
  dsimp only [mPush]
  obtain ⟨e1, e2, hn9, hwf⟩ := zM g9 g8 hS (fun g => hS)
  subst S8
  subst th8
  refine r_istore hX dlaw_1821 (by decide) rfl ?_
  refine r_goto (tgt := 1893) hX dlaw_1823 (by decide) ?_
  exact r_loc (lv' := [(0, some (.ref b)), (1, some (.ref (ad 0))), (2, some (.ref (ae 0))), (3, some (.ref ao)), (4, some (.int (nI (7 * t))))]) (by exact ⟨rfl, rfl, rfl, rfl, rfl, trivial⟩) (Nat.le_refl _) (Nat.le_refl _) (back S9 T r9 n9 s0 _ _ hwf (by omega) (by omega))
set_option maxHeartbeats 1000000 in
theorem law_z31 {X : mC} {b L : Nat} {xs : Nat → Int32} {ad ae : Nat → Nat} {cs : ClassId × ClassId × ClassId} {S : mS} {T : mT2} {th : Int32} {ao t k n : Nat} {n0 : Int64} {s0 : Value} (hX : mOK X RL code 7 room_1 [] (mTy cs)) (hg : mHas X mNc) (hScr : mScr X b L xs) (hE : mLE X b) (hS : sWF S) (hL : L ≤ 3584) (hi : 7 * t + 6 < L) (hk : k + 100 ≤ 652172) (hn : n + 2500 ≤ 7139589) (back : mBkZ X b ad ae cs ao t k n) : mV X 1826 [(0, some (.ref b)), (1, some (.ref (ad 0))), (2, some (.ref (ae 0))), (3, some (.ref ao)), (4, some (.int (nI (7 * t))))] [] (mRw ad ae cs (mKof S T) (mJof S th) [(ao, .inr (4, [.long n0, s0]))]) k n := by
  refine r_aload_n hX dlaw_1826 rfl rfl ?_
  refine r_callV hX (z_X2_knock ad cs S T _) kv_L_241 0 rfl rfl rfl rfl (Nat.le_of_ble_eq_true rfl) ⟨(Nat.le_of_ble_eq_true rfl), (Nat.le_of_ble_eq_true rfl)⟩ ⟨by show k + 0 ≤ 652172; omega, by show n + 0 ≤ 7139589; omega⟩ dlaw_1827 (fun _ _ z => False.elim z) (fun v9 ws9 h9 => ?_)
  obtain ⟨rfl, hw9⟩ := h9
  replace hw9 : ws9 = mRw ad ae cs (mKof (sKn S) T) (mJof S th) [(ao, .inr (4, [.long n0, s0]))] := hw9
  subst hw9
  dsimp only [mPush]
  refine r_pop hX dlaw_1830 rfl ?_
  refine r_aload_n hX dlaw_1831 rfl rfl ?_
  refine r_callV hX (z_X4_knock ad ae cs (mKof (sKn S) T) S th [(ao, .inr (4, [.long n0, s0]))]) kv_L_244 14 rfl rfl rfl rfl (Nat.le_of_ble_eq_true rfl) ⟨(Nat.le_of_ble_eq_true rfl), (Nat.le_of_ble_eq_true rfl)⟩ ⟨by show k + 0 + 0 ≤ 652172; omega, by show n + 0 + 0 ≤ 7139589; omega⟩ dlaw_1832 (fun _ _ z => False.elim z) (fun v8 ws8 h8 => ?_)
  obtain ⟨rfl, hw8⟩ := h8
  replace hw8 : ws8 = mRw ad ae cs (mKof (sKn S) T) (mJof (sKn S) 0) [(ao, .inr (4, [.long n0, s0]))] := hw8
  subst hw8
  dsimp only [mPush]
  refine r_pop hX dlaw_1835 rfl ?_
  refine r_goto (tgt := 1893) hX dlaw_1836 (by decide) ?_
  exact r_loc (lv' := [(0, some (.ref b)), (1, some (.ref (ad 0))), (2, some (.ref (ae 0))), (3, some (.ref ao)), (4, some (.int (nI (7 * t))))]) (by exact ⟨rfl, rfl, rfl, rfl, rfl, trivial⟩) (Nat.le_refl _) (Nat.le_refl _) (back (sKn S) T 0 n0 s0 _ _ hS.kn (by omega) (by omega))
set_option maxHeartbeats 1000000 in
theorem law_z32 {X : mC} {b L : Nat} {xs : Nat → Int32} {ad ae : Nat → Nat} {cs : ClassId × ClassId × ClassId} {S : mS} {T : mT2} {th : Int32} {ao t k n : Nat} {n0 : Int64} {s0 : Value} (hX : mOK X RL code 7 room_1 [] (mTy cs)) (hg : mHas X mNc) (hScr : mScr X b L xs) (hE : mLE X b) (hS : sWF S) (hL : L ≤ 3584) (hi : 7 * t + 6 < L) (hk : k + 100 ≤ 652172) (hn : n + 2500 ≤ 7139589) (back : mBkZ X b ad ae cs ao t k n) : mV X 1839 [(0, some (.ref b)), (1, some (.ref (ad 0))), (2, some (.ref (ae 0))), (3, some (.ref ao)), (4, some (.int (nI (7 * t))))] [] (mRw ad ae cs (mKof S T) (mJof S th) [(ao, .inr (4, [.long n0, s0]))]) k n := by
  refine r_aload_n hX dlaw_1839 rfl rfl ?_
  refine r_argZ (c := 1) hX hScr rfl rfl (by decide) (by omega) (by omega) dlaw_1840 dlaw_1841 dlaw_1843 dlaw_1844 dlaw_1845 ?_
  refine r_aload_n hX dlaw_1846 rfl rfl ?_
  refine r_callW hX hg (z_L_house ad ae cs S T (mJof S th) [] hS ao n0 s0 _ (iZ_rng _)) kh_L_245 rfl rfl (Nat.le_of_ble_eq_true rfl) ⟨(Nat.le_of_ble_eq_true rfl), (Nat.le_of_ble_eq_true rfl)⟩ ⟨by show k + 1 ≤ 652172; omega, by show n + 6 ≤ 7139589; omega⟩ dlaw_1847 (fun v9 ws9 h9 => ?_)
  obtain ⟨r9, n9, S9, g9, rfl, hw9⟩ := zU9 (W := fun S9 n9 => mRw ad ae cs (mKof S9 T) (mJof S th) [(ao, .inr (4, [.long n9, s0]))]) h9
  replace hw9 : ws9 = mRw ad ae cs (mKof S9 T) (mJof S th) [(ao, .inr (4, [.long n9, s0]))] := hw9
  subst hw9
  dsimp only [mPush]
  refine r_istore hX dlaw_1850 (by decide) rfl ?_
  refine r_aload_n hX dlaw_1852 rfl rfl ?_
  refine r_argZ (c := 1) hX hScr rfl rfl (by decide) (by omega) (by omega) dlaw_1853 dlaw_1854 dlaw_1856 dlaw_1857 dlaw_1858 ?_
  refine r_callV hX (z_X4_house ad ae cs (mKof S9 T) S th [(ao, .inr (4, [.long n9, s0]))] hS _ (iZ_rng _)) kv_L_247 14 rfl rfl rfl rfl (Nat.le_of_ble_eq_true rfl) ⟨(Nat.le_of_ble_eq_true rfl), (Nat.le_of_ble_eq_true rfl)⟩ ⟨by show k + 1 + 0 ≤ 652172; omega, by show n + 6 + 0 ≤ 7139589; omega⟩ dlaw_1859 (fun _ _ z => False.elim z) (fun v8 ws8 h8 => ?_)
  obtain ⟨r8, th8, S8, g8, rfl, hw8⟩ := zU8h (W := fun S8 th8 => mRw ad ae cs (mKof S9 T) (mJof S8 th8) [(ao, .inr (4, [.long n9, s0]))]) h8
  replace hw8 : ws8 = mRw ad ae cs (mKof S9 T) (mJof S8 th8) [(ao, .inr (4, [.long n9, s0]))] := hw8
  subst hw8
  dsimp only [mPush]
  obtain ⟨e1, e2, hn9, hwf⟩ := zM g9 g8 hS (fun g => hS)
  subst S8
  subst th8
  refine r_istore hX dlaw_1862 (by decide) rfl ?_
  refine r_goto (tgt := 1893) hX dlaw_1864 (by decide) ?_
  exact r_loc (lv' := [(0, some (.ref b)), (1, some (.ref (ad 0))), (2, some (.ref (ae 0))), (3, some (.ref ao)), (4, some (.int (nI (7 * t))))]) (by exact ⟨rfl, rfl, rfl, rfl, rfl, trivial⟩) (Nat.le_refl _) (Nat.le_refl _) (back S9 T r9 n9 s0 _ _ hwf (by omega) (by omega))
set_option maxHeartbeats 1000000 in
theorem law_z33 {X : mC} {b L : Nat} {xs : Nat → Int32} {ad ae : Nat → Nat} {cs : ClassId × ClassId × ClassId} {S : mS} {T : mT2} {th : Int32} {ao t k n : Nat} {n0 : Int64} {s0 : Value} (hX : mOK X RL code 7 room_1 [] (mTy cs)) (hg : mHas X mNc) (hScr : mScr X b L xs) (hE : mLE X b) (hS : sWF S) (hL : L ≤ 3584) (hi : 7 * t + 6 < L) (hk : k + 100 ≤ 652172) (hn : n + 2500 ≤ 7139589) (back : mBkZ X b ad ae cs ao t k n) : mV X 1867 [(0, some (.ref b)), (1, some (.ref (ad 0))), (2, some (.ref (ae 0))), (3, some (.ref ao)), (4, some (.int (nI (7 * t))))] [] (mRw ad ae cs (mKof S T) (mJof S th) [(ao, .inr (4, [.long n0, s0]))]) k n := by
  refine r_aload_n hX dlaw_1867 rfl rfl ?_
  refine r_callV hX (z_X2_isSound ad cs S T _ hS) kv_L_248 0 rfl rfl rfl rfl (Nat.le_of_ble_eq_true rfl) ⟨(Nat.le_of_ble_eq_true rfl), (Nat.le_of_ble_eq_true rfl)⟩ ⟨by show k + 0 ≤ 652172; omega, by show n + 0 ≤ 7139589; omega⟩ dlaw_1868 (fun _ _ z => False.elim z) (fun v9 ws9 h9 => ?_)
  obtain ⟨rfl, T9, hw9⟩ := h9
  replace hw9 : ws9 = mRw ad ae cs (mKof S T9) (mJof S th) [(ao, .inr (4, [.long n0, s0]))] := hw9
  subst hw9
  dsimp only [mPush]
  refine r_pop hX dlaw_1871 rfl ?_
  refine r_aload_n hX dlaw_1872 rfl rfl ?_
  refine r_callV hX (z_X4_isSound ad ae cs (mKof S T9) S th [(ao, .inr (4, [.long n0, s0]))]) kv_L_252 14 rfl rfl rfl rfl (Nat.le_of_ble_eq_true rfl) ⟨(Nat.le_of_ble_eq_true rfl), (Nat.le_of_ble_eq_true rfl)⟩ ⟨by show k + 0 + 0 ≤ 652172; omega, by show n + 0 + 0 ≤ 7139589; omega⟩ dlaw_1873 (fun _ _ z => False.elim z) (fun v8 ws8 h8 => ?_)
  obtain ⟨rfl, hw8⟩ := h8
  replace hw8 : ws8 = mRw ad ae cs (mKof S T9) (mJof S 0) [(ao, .inr (4, [.long n0, s0]))] := hw8
  subst hw8
  dsimp only [mPush]
  refine r_pop hX dlaw_1876 rfl ?_
  refine r_goto (tgt := 1893) hX dlaw_1877 (by decide) ?_
  exact r_loc (lv' := [(0, some (.ref b)), (1, some (.ref (ad 0))), (2, some (.ref (ae 0))), (3, some (.ref ao)), (4, some (.int (nI (7 * t))))]) (by exact ⟨rfl, rfl, rfl, rfl, rfl, trivial⟩) (Nat.le_refl _) (Nat.le_refl _) (back S T9 0 n0 s0 _ _ hS (by omega) (by omega))
set_option maxHeartbeats 1000000 in
theorem law_z34 {X : mC} {b L : Nat} {xs : Nat → Int32} {ad ae : Nat → Nat} {cs : ClassId × ClassId × ClassId} {S : mS} {T : mT2} {th : Int32} {ao t k n : Nat} {n0 : Int64} {s0 : Value} (hX : mOK X RL code 7 room_1 [] (mTy cs)) (hg : mHas X mNc) (hScr : mScr X b L xs) (hE : mLE X b) (hS : sWF S) (hL : L ≤ 3584) (hi : 7 * t + 6 < L) (hk : k + 100 ≤ 652172) (hn : n + 2500 ≤ 7139589) (back : mBkZ X b ad ae cs ao t k n) : mV X 1880 [(0, some (.ref b)), (1, some (.ref (ad 0))), (2, some (.ref (ae 0))), (3, some (.ref ao)), (4, some (.int (nI (7 * t))))] [] (mRw ad ae cs (mKof S T) (mJof S th) [(ao, .inr (4, [.long n0, s0]))]) k n := by
  refine r_aload_n hX dlaw_1880 rfl rfl ?_
  refine r_callV hX (z_X2_digest ad cs S T _ hS) kv_L_253 0 rfl rfl rfl rfl (Nat.le_of_ble_eq_true rfl) ⟨(Nat.le_of_ble_eq_true rfl), (Nat.le_of_ble_eq_true rfl)⟩ ⟨by show k + 12 ≤ 652172; omega, by show n + 72 ≤ 7139589; omega⟩ dlaw_1881 (fun _ _ z => False.elim z) (fun v9 ws9 h9 => ?_)
  obtain ⟨rfl, T9, hw9⟩ := h9
  replace hw9 : ws9 = mRw ad ae cs (mKof S T9) (mJof S th) [(ao, .inr (4, [.long n0, s0]))] := hw9
  subst hw9
  dsimp only [mPush]
  refine r_pop2 hX dlaw_1884 rfl ?_
  refine r_aload_n hX dlaw_1885 rfl rfl ?_
  refine r_callV hX (z_X4_digest ad ae cs (mKof S T9) S th [(ao, .inr (4, [.long n0, s0]))] hS) kv_L_257 14 rfl rfl rfl rfl (Nat.le_of_ble_eq_true rfl) ⟨(Nat.le_of_ble_eq_true rfl), (Nat.le_of_ble_eq_true rfl)⟩ ⟨by show k + 12 + 70 ≤ 652172; omega, by show n + 72 + 280 ≤ 7139589; omega⟩ dlaw_1886 (fun _ _ z => False.elim z) (fun v8 ws8 h8 => ?_)
  obtain ⟨rfl, hw8⟩ := h8
  replace hw8 : ws8 = mRw ad ae cs (mKof S T9) (mJof S 0) [(ao, .inr (4, [.long n0, s0]))] := hw8
  subst hw8
  dsimp only [mPush]
  refine r_pop2 hX dlaw_1889 rfl ?_
  refine r_goto (tgt := 1893) hX dlaw_1890 (by decide) ?_
  exact r_loc (lv' := [(0, some (.ref b)), (1, some (.ref (ad 0))), (2, some (.ref (ae 0))), (3, some (.ref ao)), (4, some (.int (nI (7 * t))))]) (by exact ⟨rfl, rfl, rfl, rfl, rfl, trivial⟩) (Nat.le_refl _) (Nat.le_refl _) (back S T9 0 n0 s0 _ _ hS (by omega) (by omega))
end
