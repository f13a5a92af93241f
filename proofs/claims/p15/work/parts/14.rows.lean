-- 83 zcase
section
/-! The law's cases, exact. (Rows by a program of this repository.) -/
set_option maxHeartbeats 1000000 in
theorem law_z17 {X : mC} {b L : Nat} {xs : Nat → Int32} {ad ae : Nat → Nat} {cs : ClassId × ClassId × ClassId} {S : mS} {T : mT2} {th : Int32} {ao t k n : Nat} {n0 : Int64} {s0 : Value} (hX : mOK X RL code 7 room_1 [] (mTy cs)) (hg : mHas X mNc) (hScr : mScr X b L xs) (hE : mLE X b) (hS : sWF S) (hL : L ≤ 3584) (hi : 7 * t + 6 < L) (hk : k + 100 ≤ 652172) (hn : n + 2500 ≤ 7139589) (back : mBkZ X b ad ae cs ao t k n) : mV X 1115 [(0, some (.ref b)), (1, some (.ref (ad 0))), (2, some (.ref (ae 0))), (3, some (.ref ao)), (4, some (.int (nI (7 * t))))] [] (mRw ad ae cs (mKof S T) (mJof S th) [(ao, .inr (4, [.long n0, s0]))]) k n := by
  refine r_aload_n hX dlaw_1115 rfl rfl ?_
  refine r_argZ (c := 1) hX hScr rfl rfl (by decide) (by omega) (by omega) dlaw_1116 dlaw_1117 dlaw_1119 dlaw_1120 dlaw_1121 ?_
  refine r_argZ (c := 2) hX hScr rfl rfl (by decide) (by omega) (by omega) dlaw_1122 dlaw_1123 dlaw_1125 dlaw_1126 dlaw_1127 ?_
  refine r_argZ (c := 3) hX hScr rfl rfl (by decide) (by omega) (by omega) dlaw_1128 dlaw_1129 dlaw_1131 dlaw_1132 dlaw_1133 ?_
  refine r_ne0Z hX (iZ_rng _) dlaw_1134 dlaw_1137 dlaw_1138 dlaw_1141 ?_
  refine r_aload_n hX dlaw_1142 rfl rfl ?_
  refine r_callW hX hg (z_L_anew ad ae cs S T (mJof S th) [] hS ao n0 s0 _ (iZ_rng _) _ (iZ_rng _) _) kh_L_198 rfl rfl (Nat.le_of_ble_eq_true rfl) ⟨(Nat.le_of_ble_eq_true rfl), (Nat.le_of_ble_eq_true rfl)⟩ ⟨by show k + 2 ≤ 652172; omega, by show n + 12 ≤ 7139589; omega⟩ dlaw_1143 (fun v9 ws9 h9 => ?_)
  obtain ⟨r9, n9, S9, g9, rfl, hw9⟩ := zU9 (W := fun S9 n9 => mRw ad ae cs (mKof S9 T) (mJof S th) [(ao, .inr (4, [.long n9, s0]))]) h9
  replace hw9 : ws9 = mRw ad ae cs (mKof S9 T) (mJof S th) [(ao, .inr (4, [.long n9, s0]))] := hw9
  subst hw9
  dsimp only [mPush]
  refine r_istore hX dlaw_1146 (by decide) rfl ?_
  refine r_aload_n hX dlaw_1148 rfl rfl ?_
  refine r_argZ (c := 1) hX hScr rfl rfl (by decide) (by omega) (by omega) dlaw_1149 dlaw_1150 dlaw_1152 dlaw_1153 dlaw_1154 ?_
  refine r_argZ (c := 2) hX hScr rfl rfl (by decide) (by omega) (by omega) dlaw_1155 dlaw_1156 dlaw_1158 dlaw_1159 dlaw_1160 ?_
  refine r_argZ (c := 3) hX hScr rfl rfl (by decide) (by omega) (by omega) dlaw_1161 dlaw_1162 dlaw_1164 dlaw_1165 dlaw_1166 ?_
  refine r_ne0Z hX (iZ_rng _) dlaw_1167 dlaw_1170 dlaw_1171 dlaw_1174 ?_
  refine r_callV hX (z_X4_anew ad ae cs (mKof S9 T) S th [(ao, .inr (4, [.long n9, s0]))] hS _ (iZ_rng _) _ (iZ_rng _) _) kv_L_201 14 rfl rfl rfl rfl (Nat.le_of_ble_eq_true rfl) ⟨(Nat.le_of_ble_eq_true rfl), (Nat.le_of_ble_eq_true rfl)⟩ ⟨by show k + 2 + 0 ≤ 652172; omega, by show n + 12 + 0 ≤ 7139589; omega⟩ dlaw_1175 (fun _ _ z => False.elim z) (fun v8 ws8 h8 => ?_)
  obtain ⟨r8, th8, S8, g8, rfl, hw8⟩ := zU8 (W := fun S8 th8 => mRw ad ae cs (mKof S9 T) (mJof S8 th8) [(ao, .inr (4, [.long n9, s0]))]) h8
  replace hw8 : ws8 = mRw ad ae cs (mKof S9 T) (mJof S8 th8) [(ao, .inr (4, [.long n9, s0]))] := hw8
  subst hw8
  dsimp only [mPush]
  obtain ⟨e1, e2, hn9, hwf⟩ := zM g9 g8 hS (fun g => hS.oLoc (by omega) (hS.2.2.1 (((xs (7 * t + 1)).toInt).toNat) (by omega)).1 (hS.1 (((xs (7 * t + 2)).toInt).toNat) (by omega)))
  subst S8
  subst th8
  refine r_istore hX dlaw_1178 (by decide) rfl ?_
  refine r_goto (tgt := 1886) hX dlaw_1180 (by decide) ?_
  exact r_loc (lv' := [(0, some (.ref b)), (1, some (.ref (ad 0))), (2, some (.ref (ae 0))), (3, some (.ref ao)), (4, some (.int (nI (7 * t))))]) (by exact ⟨rfl, rfl, rfl, rfl, rfl, trivial⟩) (Nat.le_refl _) (Nat.le_refl _) (back S9 T r9 n9 s0 _ _ hwf (by omega) (by omega))
set_option maxHeartbeats 1000000 in
theorem law_z18 {X : mC} {b L : Nat} {xs : Nat → Int32} {ad ae : Nat → Nat} {cs : ClassId × ClassId × ClassId} {S : mS} {T : mT2} {th : Int32} {ao t k n : Nat} {n0 : Int64} {s0 : Value} (hX : mOK X RL code 7 room_1 [] (mTy cs)) (hg : mHas X mNc) (hScr : mScr X b L xs) (hE : mLE X b) (hS : sWF S) (hL : L ≤ 3584) (hi : 7 * t + 6 < L) (hk : k + 100 ≤ 652172) (hn : n + 2500 ≤ 7139589) (back : mBkZ X b ad ae cs ao t k n) : mV X 1183 [(0, some (.ref b)), (1, some (.ref (ad 0))), (2, some (.ref (ae 0))), (3, some (.ref ao)), (4, some (.int (nI (7 * t))))] [] (mRw ad ae cs (mKof S T) (mJof S th) [(ao, .inr (4, [.long n0, s0]))]) k n := by
  refine r_aload_n hX dlaw_1183 rfl rfl ?_
  refine r_argZ (c := 1) hX hScr rfl rfl (by decide) (by omega) (by omega) dlaw_1184 dlaw_1185 dlaw_1187 dlaw_1188 dlaw_1189 ?_
  refine r_argZ (c := 2) hX hScr rfl rfl (by decide) (by omega) (by omega) dlaw_1190 dlaw_1191 dlaw_1193 dlaw_1194 dlaw_1195 ?_
  refine r_aload_n hX dlaw_1196 rfl rfl ?_
  refine r_callW hX hg (z_L_copy ad ae cs S T (mJof S th) [] hS ao n0 s0 _ (iZ_rng _) _ (iZ_rng _)) kh_L_202 rfl rfl (Nat.le_of_ble_eq_true rfl) ⟨(Nat.le_of_ble_eq_true rfl), (Nat.le_of_ble_eq_true rfl)⟩ ⟨by show k + 2 ≤ 652172; omega, by show n + 12 ≤ 7139589; omega⟩ dlaw_1197 (fun v9 ws9 h9 => ?_)
  obtain ⟨r9, n9, S9, g9, rfl, hw9⟩ := zU9 (W := fun S9 n9 => mRw ad ae cs (mKof S9 T) (mJof S th) [(ao, .inr (4, [.long n9, s0]))]) h9
  replace hw9 : ws9 = mRw ad ae cs (mKof S9 T) (mJof S th) [(ao, .inr (4, [.long n9, s0]))] := hw9
  subst hw9
  dsimp only [mPush]
  refine r_istore hX dlaw_1200 (by decide) rfl ?_
  refine r_aload_n hX dlaw_1202 rfl rfl ?_
  refine r_argZ (c := 1) hX hScr rfl rfl (by decide) (by omega) (by omega) dlaw_1203 dlaw_1204 dlaw_1206 dlaw_1207 dlaw_1208 ?_
  refine r_argZ (c := 2) hX hScr rfl rfl (by decide) (by omega) (by omega) dlaw_1209 dlaw_1210 dlaw_1212 dlaw_1213 dlaw_1214 ?_
  refine r_callV hX (z_X4_copy ad ae cs (mKof S9 T) S th [(ao, .inr (4, [.long n9, s0]))] hS _ (iZ_rng _) _ (iZ_rng _)) kv_L_204 14 rfl rfl rfl rfl (Nat.le_of_ble_eq_true rfl) ⟨(Nat.le_of_ble_eq_true rfl), (Nat.le_of_ble_eq_true rfl)⟩ ⟨by show k + 2 + 0 ≤ 652172; omega, by show n + 12 + 0 ≤ 7139589; omega⟩ dlaw_1215 (fun _ _ z => False.elim z) (fun v8 ws8 h8 => ?_)
  obtain ⟨r8, th8, S8, g8, rfl, hw8⟩ := zU8 (W := fun S8 th8 => mRw ad ae cs (mKof S9 T) (mJof S8 th8) [(ao, .inr (4, [.long n9, s0]))]) h8
  replace hw8 : ws8 = mRw ad ae cs (mKof S9 T) (mJof S8 th8) [(ao, .inr (4, [.long n9, s0]))] := hw8
  subst hw8
  dsimp only [mPush]
  obtain ⟨e1, e2, hn9, hwf⟩ := zM g9 g8 hS (fun g => hS.oLoc (by omega) (hS.2.2.1 (((xs (7 * t + 2)).toInt).toNat) (by omega)).1 (hS.2.2.1 (((xs (7 * t + 2)).toInt).toNat) (by omega)).2)
  subst S8
  subst th8
  refine r_istore hX dlaw_1218 (by decide) rfl ?_
  refine r_goto (tgt := 1886) hX dlaw_1220 (by decide) ?_
  exact r_loc (lv' := [(0, some (.ref b)), (1, some (.ref (ad 0))), (2, some (.ref (ae 0))), (3, some (.ref ao)), (4, some (.int (nI (7 * t))))]) (by exact ⟨rfl, rfl, rfl, rfl, rfl, trivial⟩) (Nat.le_refl _) (Nat.le_refl _) (back S9 T r9 n9 s0 _ _ hwf (by omega) (by omega))
set_option maxHeartbeats 1000000 in
theorem law_z19 {X : mC} {b L : Nat} {xs : Nat → Int32} {ad ae : Nat → Nat} {cs : ClassId × ClassId × ClassId} {S : mS} {T : mT2} {th : Int32} {ao t k n : Nat} {n0 : Int64} {s0 : Value} (hX : mOK X RL code 7 room_1 [] (mTy cs)) (hg : mHas X mNc) (hScr : mScr X b L xs) (hE : mLE X b) (hS : sWF S) (hL : L ≤ 3584) (hi : 7 * t + 6 < L) (hk : k + 100 ≤ 652172) (hn : n + 2500 ≤ 7139589) (back : mBkZ X b ad ae cs ao t k n) : mV X 1223 [(0, some (.ref b)), (1, some (.ref (ad 0))), (2, some (.ref (ae 0))), (3, some (.ref ao)), (4, some (.int (nI (7 * t))))] [] (mRw ad ae cs (mKof S T) (mJof S th) [(ao, .inr (4, [.long n0, s0]))]) k n := by
  refine r_aload_n hX dlaw_1223 rfl rfl ?_
  refine r_argZ (c := 1) hX hScr rfl rfl (by decide) (by omega) (by omega) dlaw_1224 dlaw_1225 dlaw_1227 dlaw_1228 dlaw_1229 ?_
  refine r_argZ (c := 2) hX hScr rfl rfl (by decide) (by omega) (by omega) dlaw_1230 dlaw_1231 dlaw_1233 dlaw_1234 dlaw_1235 ?_
  refine r_aload_n hX dlaw_1236 rfl rfl ?_
  refine r_callW hX hg (z_L_ofDate ad ae cs S T (mJof S th) [] hS ao n0 s0 _ (iZ_rng _) _ (iZ_rng _)) kh_L_205 rfl rfl (Nat.le_of_ble_eq_true rfl) ⟨(Nat.le_of_ble_eq_true rfl), (Nat.le_of_ble_eq_true rfl)⟩ ⟨by show k + 2 ≤ 652172; omega, by show n + 12 ≤ 7139589; omega⟩ dlaw_1237 (fun v9 ws9 h9 => ?_)
  obtain ⟨r9, n9, S9, g9, rfl, hw9⟩ := zU9 (W := fun S9 n9 => mRw ad ae cs (mKof S9 T) (mJof S th) [(ao, .inr (4, [.long n9, s0]))]) h9
  replace hw9 : ws9 = mRw ad ae cs (mKof S9 T) (mJof S th) [(ao, .inr (4, [.long n9, s0]))] := hw9
  subst hw9
  dsimp only [mPush]
  refine r_istore hX dlaw_1240 (by decide) rfl ?_
  refine r_aload_n hX dlaw_1242 rfl rfl ?_
  refine r_argZ (c := 1) hX hScr rfl rfl (by decide) (by omega) (by omega) dlaw_1243 dlaw_1244 dlaw_1246 dlaw_1247 dlaw_1248 ?_
  refine r_argZ (c := 2) hX hScr rfl rfl (by decide) (by omega) (by omega) dlaw_1249 dlaw_1250 dlaw_1252 dlaw_1253 dlaw_1254 ?_
  refine r_callV hX (z_X4_ofDate ad ae cs (mKof S9 T) S th [(ao, .inr (4, [.long n9, s0]))] hS _ (iZ_rng _) _ (iZ_rng _)) kv_L_207 14 rfl rfl rfl rfl (Nat.le_of_ble_eq_true rfl) ⟨(Nat.le_of_ble_eq_true rfl), (Nat.le_of_ble_eq_true rfl)⟩ ⟨by show k + 2 + 1 ≤ 652172; omega, by show n + 12 + 4 ≤ 7139589; omega⟩ dlaw_1255 (fun _ _ z => False.elim z) (fun v8 ws8 h8 => ?_)
  obtain ⟨r8, th8, S8, g8, rfl, hw8⟩ := zU8 (W := fun S8 th8 => mRw ad ae cs (mKof S9 T) (mJof S8 th8) [(ao, .inr (4, [.long n9, s0]))]) h8
  replace hw8 : ws8 = mRw ad ae cs (mKof S9 T) (mJof S8 th8) [(ao, .inr (4, [.long n9, s0]))] := hw8
  subst hw8
  dsimp only [mPush]
  obtain ⟨e1, e2, hn9, hwf⟩ := zM g9 g8 hS (fun g => hS)
  subst S8
  subst th8
  refine r_istore hX dlaw_1258 (by decide) rfl ?_
  refine r_goto (tgt := 1886) hX dlaw_1260 (by decide) ?_
  exact r_loc (lv' := [(0, some (.ref b)), (1, some (.ref (ad 0))), (2, some (.ref (ae 0))), (3, some (.ref ao)), (4, some (.int (nI (7 * t))))]) (by exact ⟨rfl, rfl, rfl, rfl, rfl, trivial⟩) (Nat.le_refl _) (Nat.le_refl _) (back S9 T r9 n9 s0 _ _ hwf (by omega) (by omega))
set_option maxHeartbeats 1000000 in
theorem law_z20 {X : mC} {b L : Nat} {xs : Nat → Int32} {ad ae : Nat → Nat} {cs : ClassId × ClassId × ClassId} {S : mS} {T : mT2} {th : Int32} {ao t k n : Nat} {n0 : Int64} {s0 : Value} (hX : mOK X RL code 7 room_1 [] (mTy cs)) (hg : mHas X mNc) (hScr : mScr X b L xs) (hE : mLE X b) (hS : sWF S) (hL : L ≤ 3584) (hi : 7 * t + 6 < L) (hk : k + 100 ≤ 652172) (hn : n + 2500 ≤ 7139589) (back : mBkZ X b ad ae cs ao t k n) : mV X 1263 [(0, some (.ref b)), (1, some (.ref (ad 0))), (2, some (.ref (ae 0))), (3, some (.ref ao)), (4, some (.int (nI (7 * t))))] [] (mRw ad ae cs (mKof S T) (mJof S th) [(ao, .inr (4, [.long n0, s0]))]) k n := by
  refine r_aload_n hX dlaw_1263 rfl rfl ?_
  refine r_argZ (c := 1) hX hScr rfl rfl (by decide) (by omega) (by omega) dlaw_1264 dlaw_1265 dlaw_1267 dlaw_1268 dlaw_1269 ?_
  refine r_argZ (c := 2) hX hScr rfl rfl (by decide) (by omega) (by omega) dlaw_1270 dlaw_1271 dlaw_1273 dlaw_1274 dlaw_1275 ?_
  refine r_aload_n hX dlaw_1276 rfl rfl ?_
  refine r_callW hX hg (z_L_orderDate ad ae cs S T (mJof S th) [] hS ao n0 s0 _ (iZ_rng _) _ (iZ_rng _)) kh_L_208 rfl rfl (Nat.le_of_ble_eq_true rfl) ⟨(Nat.le_of_ble_eq_true rfl), (Nat.le_of_ble_eq_true rfl)⟩ ⟨by show k + 2 ≤ 652172; omega, by show n + 12 ≤ 7139589; omega⟩ dlaw_1277 (fun v9 ws9 h9 => ?_)
  obtain ⟨r9, n9, S9, g9, rfl, hw9⟩ := zU9 (W := fun S9 n9 => mRw ad ae cs (mKof S9 T) (mJof S th) [(ao, .inr (4, [.long n9, s0]))]) h9
  replace hw9 : ws9 = mRw ad ae cs (mKof S9 T) (mJof S th) [(ao, .inr (4, [.long n9, s0]))] := hw9
  subst hw9
  dsimp only [mPush]
  refine r_istore hX dlaw_1280 (by decide) rfl ?_
  refine r_aload_n hX dlaw_1282 rfl rfl ?_
  refine r_argZ (c := 1) hX hScr rfl rfl (by decide) (by omega) (by omega) dlaw_1283 dlaw_1284 dlaw_1286 dlaw_1287 dlaw_1288 ?_
  refine r_argZ (c := 2) hX hScr rfl rfl (by decide) (by omega) (by omega) dlaw_1289 dlaw_1290 dlaw_1292 dlaw_1293 dlaw_1294 ?_
  refine r_callV hX (z_X4_orderDate ad ae cs (mKof S9 T) S th [(ao, .inr (4, [.long n9, s0]))] hS _ (iZ_rng _) _ (iZ_rng _)) kv_L_210 14 rfl rfl rfl rfl (Nat.le_of_ble_eq_true rfl) ⟨(Nat.le_of_ble_eq_true rfl), (Nat.le_of_ble_eq_true rfl)⟩ ⟨by show k + 2 + 0 ≤ 652172; omega, by show n + 12 + 0 ≤ 7139589; omega⟩ dlaw_1295 (fun _ _ z => False.elim z) (fun v8 ws8 h8 => ?_)
  obtain ⟨r8, th8, S8, g8, rfl, hw8⟩ := zU8 (W := fun S8 th8 => mRw ad ae cs (mKof S9 T) (mJof S8 th8) [(ao, .inr (4, [.long n9, s0]))]) h8
  replace hw8 : ws8 = mRw ad ae cs (mKof S9 T) (mJof S8 th8) [(ao, .inr (4, [.long n9, s0]))] := hw8
  subst hw8
  dsimp only [mPush]
  obtain ⟨e1, e2, hn9, hwf⟩ := zM g9 g8 hS (fun g => hS)
  subst S8
  subst th8
  refine r_istore hX dlaw_1298 (by decide) rfl ?_
  refine r_goto (tgt := 1886) hX dlaw_1300 (by decide) ?_
  exact r_loc (lv' := [(0, some (.ref b)), (1, some (.ref (ad 0))), (2, some (.ref (ae 0))), (3, some (.ref ao)), (4, some (.int (nI (7 * t))))]) (by exact ⟨rfl, rfl, rfl, rfl, rfl, trivial⟩) (Nat.le_refl _) (Nat.le_refl _) (back S9 T r9 n9 s0 _ _ hwf (by omega) (by omega))
set_option maxHeartbeats 1000000 in
theorem law_z21 {X : mC} {b L : Nat} {xs : Nat → Int32} {ad ae : Nat → Nat} {cs : ClassId × ClassId × ClassId} {S : mS} {T : mT2} {th : Int32} {ao t k n : Nat} {n0 : Int64} {s0 : Value} (hX : mOK X RL code 7 room_1 [] (mTy cs)) (hg : mHas X mNc) (hScr : mScr X b L xs) (hE : mLE X b) (hS : sWF S) (hL : L ≤ 3584) (hi : 7 * t + 6 < L) (hk : k + 100 ≤ 652172) (hn : n + 2500 ≤ 7139589) (back : mBkZ X b ad ae cs ao t k n) : mV X 1303 [(0, some (.ref b)), (1, some (.ref (ad 0))), (2, some (.ref (ae 0))), (3, some (.ref ao)), (4, some (.int (nI (7 * t))))] [] (mRw ad ae cs (mKof S T) (mJof S th) [(ao, .inr (4, [.long n0, s0]))]) k n := by
  refine r_aload_n hX dlaw_1303 rfl rfl ?_
  refine r_argZ (c := 1) hX hScr rfl rfl (by decide) (by omega) (by omega) dlaw_1304 dlaw_1305 dlaw_1307 dlaw_1308 dlaw_1309 ?_
  refine r_argZ (c := 2) hX hScr rfl rfl (by decide) (by omega) (by omega) dlaw_1310 dlaw_1311 dlaw_1313 dlaw_1314 dlaw_1315 ?_
  refine r_argZ (c := 3) hX hScr rfl rfl (by decide) (by omega) (by omega) dlaw_1316 dlaw_1317 dlaw_1319 dlaw_1320 dlaw_1321 ?_
  refine r_aload_n hX dlaw_1322 rfl rfl ?_
  refine r_callW hX hg (z_L_isDate ad ae cs S T (mJof S th) [] hS ao n0 s0 _ (iZ_rng _) _ (iZ_rng _) _ (iZ_rng _)) kh_L_211 rfl rfl (Nat.le_of_ble_eq_true rfl) ⟨(Nat.le_of_ble_eq_true rfl), (Nat.le_of_ble_eq_true rfl)⟩ ⟨by show k + 3 ≤ 652172; omega, by show n + 18 ≤ 7139589; omega⟩ dlaw_1323 (fun v9 ws9 h9 => ?_)
  obtain ⟨r9, n9, S9, g9, rfl, hw9⟩ := zU9 (W := fun S9 n9 => mRw ad ae cs (mKof S9 T) (mJof S th) [(ao, .inr (4, [.long n9, s0]))]) h9
  replace hw9 : ws9 = mRw ad ae cs (mKof S9 T) (mJof S th) [(ao, .inr (4, [.long n9, s0]))] := hw9
  subst hw9
  dsimp only [mPush]
  refine r_istore hX dlaw_1326 (by decide) rfl ?_
  refine r_aload_n hX dlaw_1328 rfl rfl ?_
  refine r_argZ (c := 1) hX hScr rfl rfl (by decide) (by omega) (by omega) dlaw_1329 dlaw_1330 dlaw_1332 dlaw_1333 dlaw_1334 ?_
  refine r_argZ (c := 2) hX hScr rfl rfl (by decide) (by omega) (by omega) dlaw_1335 dlaw_1336 dlaw_1338 dlaw_1339 dlaw_1340 ?_
  refine r_argZ (c := 3) hX hScr rfl rfl (by decide) (by omega) (by omega) dlaw_1341 dlaw_1342 dlaw_1344 dlaw_1345 dlaw_1346 ?_
  refine r_callV hX (z_X4_isDate ad ae cs (mKof S9 T) S th [(ao, .inr (4, [.long n9, s0]))] hS _ (iZ_rng _) _ (iZ_rng _) _ (iZ_rng _)) kv_L_213 14 rfl rfl rfl rfl (Nat.le_of_ble_eq_true rfl) ⟨(Nat.le_of_ble_eq_true rfl), (Nat.le_of_ble_eq_true rfl)⟩ ⟨by show k + 3 + 0 ≤ 652172; omega, by show n + 18 + 0 ≤ 7139589; omega⟩ dlaw_1347 (fun _ _ z => False.elim z) (fun v8 ws8 h8 => ?_)
  obtain ⟨r8, th8, S8, g8, rfl, hw8⟩ := zU8 (W := fun S8 th8 => mRw ad ae cs (mKof S9 T) (mJof S8 th8) [(ao, .inr (4, [.long n9, s0]))]) h8
  replace hw8 : ws8 = mRw ad ae cs (mKof S9 T) (mJof S8 th8) [(ao, .inr (4, [.long n9, s0]))] := hw8
  subst hw8
  dsimp only [mPush]
  obtain ⟨e1, e2, hn9, hwf⟩ := zM g9 g8 hS (fun g => hS)
  subst S8
  subst th8
  refine r_istore hX dlaw_1350 (by decide) rfl ?_
  refine r_goto (tgt := 1886) hX dlaw_1352 (by decide) ?_
  exact r_loc (lv' := [(0, some (.ref b)), (1, some (.ref (ad 0))), (2, some (.ref (ae 0))), (3, some (.ref ao)), (4, some (.int (nI (7 * t))))]) (by exact ⟨rfl, rfl, rfl, rfl, rfl, trivial⟩) (Nat.le_refl _) (Nat.le_refl _) (back S9 T r9 n9 s0 _ _ hwf (by omega) (by omega))
set_option maxHeartbeats 1000000 in
theorem law_z22 {X : mC} {b L : Nat} {xs : Nat → Int32} {ad ae : Nat → Nat} {cs : ClassId × ClassId × ClassId} {S : mS} {T : mT2} {th : Int32} {ao t k n : Nat} {n0 : Int64} {s0 : Value} (hX : mOK X RL code 7 room_1 [] (mTy cs)) (hg : mHas X mNc) (hScr : mScr X b L xs) (hE : mLE X b) (hS : sWF S) (hL : L ≤ 3584) (hi : 7 * t + 6 < L) (hk : k + 100 ≤ 652172) (hn : n + 2500 ≤ 7139589) (back : mBkZ X b ad ae cs ao t k n) : mV X 1355 [(0, some (.ref b)), (1, some (.ref (ad 0))), (2, some (.ref (ae 0))), (3, some (.ref ao)), (4, some (.int (nI (7 * t))))] [] (mRw ad ae cs (mKof S T) (mJof S th) [(ao, .inr (4, [.long n0, s0]))]) k n := by
  refine r_aload_n hX dlaw_1355 rfl rfl ?_
  refine r_argZ (c := 1) hX hScr rfl rfl (by decide) (by omega) (by omega) dlaw_1356 dlaw_1357 dlaw_1359 dlaw_1360 dlaw_1361 ?_
  refine r_argZ (c := 2) hX hScr rfl rfl (by decide) (by omega) (by omega) dlaw_1362 dlaw_1363 dlaw_1365 dlaw_1366 dlaw_1367 ?_
  refine r_argZ (c := 3) hX hScr rfl rfl (by decide) (by omega) (by omega) dlaw_1368 dlaw_1369 dlaw_1371 dlaw_1372 dlaw_1373 ?_
  refine r_argZ (c := 4) hX hScr rfl rfl (by decide) (by omega) (by omega) dlaw_1374 dlaw_1375 dlaw_1377 dlaw_1378 dlaw_1379 ?_
  refine r_aload_n hX dlaw_1380 rfl rfl ?_
  refine r_callW hX hg (z_L_clock ad ae cs S T (mJof S th) [] hS ao n0 s0 _ (iZ_rng _) _ (iZ_rng _) _ (iZ_rng _) _ (iZ_rng _)) kh_L_214 rfl rfl (Nat.le_of_ble_eq_true rfl) ⟨(Nat.le_of_ble_eq_true rfl), (Nat.le_of_ble_eq_true rfl)⟩ ⟨by show k + 4 ≤ 652172; omega, by show n + 24 ≤ 7139589; omega⟩ dlaw_1381 (fun v9 ws9 h9 => ?_)
  obtain ⟨r9, n9, S9, g9, rfl, hw9⟩ := zU9 (W := fun S9 n9 => mRw ad ae cs (mKof S9 T) (mJof S th) [(ao, .inr (4, [.long n9, s0]))]) h9
  replace hw9 : ws9 = mRw ad ae cs (mKof S9 T) (mJof S th) [(ao, .inr (4, [.long n9, s0]))] := hw9
  subst hw9
  dsimp only [mPush]
  refine r_istore hX dlaw_1384 (by decide) rfl ?_
  refine r_aload_n hX dlaw_1386 rfl rfl ?_
  refine r_argZ (c := 1) hX hScr rfl rfl (by decide) (by omega) (by omega) dlaw_1387 dlaw_1388 dlaw_1390 dlaw_1391 dlaw_1392 ?_
  refine r_argZ (c := 2) hX hScr rfl rfl (by decide) (by omega) (by omega) dlaw_1393 dlaw_1394 dlaw_1396 dlaw_1397 dlaw_1398 ?_
  refine r_argZ (c := 3) hX hScr rfl rfl (by decide) (by omega) (by omega) dlaw_1399 dlaw_1400 dlaw_1402 dlaw_1403 dlaw_1404 ?_
  refine r_argZ (c := 4) hX hScr rfl rfl (by decide) (by omega) (by omega) dlaw_1405 dlaw_1406 dlaw_1408 dlaw_1409 dlaw_1410 ?_
  refine r_callV hX (z_X4_clock ad ae cs (mKof S9 T) S th [(ao, .inr (4, [.long n9, s0]))] hS _ (iZ_rng _) _ (iZ_rng _) _ (iZ_rng _) _ (iZ_rng _)) kv_L_216 14 rfl rfl rfl rfl (Nat.le_of_ble_eq_true rfl) ⟨(Nat.le_of_ble_eq_true rfl), (Nat.le_of_ble_eq_true rfl)⟩ ⟨by show k + 4 + 0 ≤ 652172; omega, by show n + 24 + 0 ≤ 7139589; omega⟩ dlaw_1411 (fun _ _ z => False.elim z) (fun v8 ws8 h8 => ?_)
  obtain ⟨r8, th8, S8, g8, rfl, hw8⟩ := zU8 (W := fun S8 th8 => mRw ad ae cs (mKof S9 T) (mJof S8 th8) [(ao, .inr (4, [.long n9, s0]))]) h8
  replace hw8 : ws8 = mRw ad ae cs (mKof S9 T) (mJof S8 th8) [(ao, .inr (4, [.long n9, s0]))] := hw8
  subst hw8
  dsimp only [mPush]
  obtain ⟨e1, e2, hn9, hwf⟩ := zM g9 g8 hS (fun g => hS.oClk g.2.2 (hS.1 (((xs (7 * t + 4)).toInt).toNat) (by omega)))
  subst S8
  subst th8
  refine r_istore hX dlaw_1414 (by decide) rfl ?_
  refine r_goto (tgt := 1886) hX dlaw_1416 (by decide) ?_
  exact r_loc (lv' := [(0, some (.ref b)), (1, some (.ref (ad 0))), (2, some (.ref (ae 0))), (3, some (.ref ao)), (4, some (.int (nI (7 * t))))]) (by exact ⟨rfl, rfl, rfl, rfl, rfl, trivial⟩) (Nat.le_refl _) (Nat.le_refl _) (back S9 T r9 n9 s0 _ _ hwf (by omega) (by omega))
set_option maxHeartbeats 1000000 in
theorem law_z23 {X : mC} {b L : Nat} {xs : Nat → Int32} {ad ae : Nat → Nat} {cs : ClassId × ClassId × ClassId} {S : mS} {T : mT2} {th : Int32} {ao t k n : Nat} {n0 : Int64} {s0 : Value} (hX : mOK X RL code 7 room_1 [] (mTy cs)) (hg : mHas X mNc) (hScr : mScr X b L xs) (hE : mLE X b) (hS : sWF S) (hL : L ≤ 3584) (hi : 7 * t + 6 < L) (hk : k + 100 ≤ 652172) (hn : n + 2500 ≤ 7139589) (back : mBkZ X b ad ae cs ao t k n) : mV X 1419 [(0, some (.ref b)), (1, some (.ref (ad 0))), (2, some (.ref (ae 0))), (3, some (.ref ao)), (4, some (.int (nI (7 * t))))] [] (mRw ad ae cs (mKof S T) (mJof S th) [(ao, .inr (4, [.long n0, s0]))]) k n := by
  refine r_aload_n hX dlaw_1419 rfl rfl ?_
  refine r_argZ (c := 1) hX hScr rfl rfl (by decide) (by omega) (by omega) dlaw_1420 dlaw_1421 dlaw_1423 dlaw_1424 dlaw_1425 ?_
  refine r_argZ (c := 2) hX hScr rfl rfl (by decide) (by omega) (by omega) dlaw_1426 dlaw_1427 dlaw_1429 dlaw_1430 dlaw_1431 ?_
  refine r_aload_n hX dlaw_1432 rfl rfl ?_
  refine r_callW hX hg (z_L_clockOf ad ae cs S T (mJof S th) [] hS ao n0 s0 _ (iZ_rng _) _ (iZ_rng _)) kh_L_217 rfl rfl (Nat.le_of_ble_eq_true rfl) ⟨(Nat.le_of_ble_eq_true rfl), (Nat.le_of_ble_eq_true rfl)⟩ ⟨by show k + 2 ≤ 652172; omega, by show n + 12 ≤ 7139589; omega⟩ dlaw_1433 (fun v9 ws9 h9 => ?_)
  obtain ⟨r9, n9, S9, g9, rfl, hw9⟩ := zU9 (W := fun S9 n9 => mRw ad ae cs (mKof S9 T) (mJof S th) [(ao, .inr (4, [.long n9, s0]))]) h9
  replace hw9 : ws9 = mRw ad ae cs (mKof S9 T) (mJof S th) [(ao, .inr (4, [.long n9, s0]))] := hw9
  subst hw9
  dsimp only [mPush]
  refine r_istore hX dlaw_1436 (by decide) rfl ?_
  refine r_aload_n hX dlaw_1438 rfl rfl ?_
  refine r_argZ (c := 1) hX hScr rfl rfl (by decide) (by omega) (by omega) dlaw_1439 dlaw_1440 dlaw_1442 dlaw_1443 dlaw_1444 ?_
  refine r_argZ (c := 2) hX hScr rfl rfl (by decide) (by omega) (by omega) dlaw_1445 dlaw_1446 dlaw_1448 dlaw_1449 dlaw_1450 ?_
  refine r_callV hX (z_X4_clockOf ad ae cs (mKof S9 T) S th [(ao, .inr (4, [.long n9, s0]))] hS _ (iZ_rng _) _ (iZ_rng _)) kv_L_219 14 rfl rfl rfl rfl (Nat.le_of_ble_eq_true rfl) ⟨(Nat.le_of_ble_eq_true rfl), (Nat.le_of_ble_eq_true rfl)⟩ ⟨by show k + 2 + 0 ≤ 652172; omega, by show n + 12 + 0 ≤ 7139589; omega⟩ dlaw_1451 (fun _ _ z => False.elim z) (fun v8 ws8 h8 => ?_)
  obtain ⟨r8, th8, S8, g8, rfl, hw8⟩ := zU8 (W := fun S8 th8 => mRw ad ae cs (mKof S9 T) (mJof S8 th8) [(ao, .inr (4, [.long n9, s0]))]) h8
  replace hw8 : ws8 = mRw ad ae cs (mKof S9 T) (mJof S8 th8) [(ao, .inr (4, [.long n9, s0]))] := hw8
  subst hw8
  dsimp only [mPush]
  obtain ⟨e1, e2, hn9, hwf⟩ := zM g9 g8 hS (fun g => hS.oClk (hS.2.2.1 (((xs (7 * t + 2)).toInt).toNat) (by omega)).1 (hS.2.2.1 (((xs (7 * t + 2)).toInt).toNat) (by omega)).2)
  subst S8
  subst th8
  refine r_istore hX dlaw_1454 (by decide) rfl ?_
  refine r_goto (tgt := 1886) hX dlaw_1456 (by decide) ?_
  exact r_loc (lv' := [(0, some (.ref b)), (1, some (.ref (ad 0))), (2, some (.ref (ae 0))), (3, some (.ref ao)), (4, some (.int (nI (7 * t))))]) (by exact ⟨rfl, rfl, rfl, rfl, rfl, trivial⟩) (Nat.le_refl _) (Nat.le_refl _) (back S9 T r9 n9 s0 _ _ hwf (by omega) (by omega))
set_option maxHeartbeats 1000000 in
theorem law_z24 {X : mC} {b L : Nat} {xs : Nat → Int32} {ad ae : Nat → Nat} {cs : ClassId × ClassId × ClassId} {S : mS} {T : mT2} {th : Int32} {ao t k n : Nat} {n0 : Int64} {s0 : Value} (hX : mOK X RL code 7 room_1 [] (mTy cs)) (hg : mHas X mNc) (hScr : mScr X b L xs) (hE : mLE X b) (hS : sWF S) (hL : L ≤ 3584) (hi : 7 * t + 6 < L) (hk : k + 100 ≤ 652172) (hn : n + 2500 ≤ 7139589) (back : mBkZ X b ad ae cs ao t k n) : mV X 1459 [(0, some (.ref b)), (1, some (.ref (ad 0))), (2, some (.ref (ae 0))), (3, some (.ref ao)), (4, some (.int (nI (7 * t))))] [] (mRw ad ae cs (mKof S T) (mJof S th) [(ao, .inr (4, [.long n0, s0]))]) k n := by
  refine r_aload_n hX dlaw_1459 rfl rfl ?_
  refine r_argZ (c := 1) hX hScr rfl rfl (by decide) (by omega) (by omega) dlaw_1460 dlaw_1461 dlaw_1463 dlaw_1464 dlaw_1465 ?_
  refine r_argZ (c := 2) hX hScr rfl rfl (by decide) (by omega) (by omega) dlaw_1466 dlaw_1467 dlaw_1469 dlaw_1470 dlaw_1471 ?_
  refine r_aload_n hX dlaw_1472 rfl rfl ?_
  refine r_callW hX hg (z_L_strike ad ae cs S T (mJof S th) [] hS ao n0 s0 _ (iZ_rng _) _ (iZ_rng _)) kh_L_220 rfl rfl (Nat.le_of_ble_eq_true rfl) ⟨(Nat.le_of_ble_eq_true rfl), (Nat.le_of_ble_eq_true rfl)⟩ ⟨by show k + 2 ≤ 652172; omega, by show n + 12 ≤ 7139589; omega⟩ dlaw_1473 (fun v9 ws9 h9 => ?_)
  obtain ⟨r9, n9, S9, g9, rfl, hw9⟩ := zU9 (W := fun S9 n9 => mRw ad ae cs (mKof S9 T) (mJof S th) [(ao, .inr (4, [.long n9, s0]))]) h9
  replace hw9 : ws9 = mRw ad ae cs (mKof S9 T) (mJof S th) [(ao, .inr (4, [.long n9, s0]))] := hw9
  subst hw9
  dsimp only [mPush]
  refine r_istore hX dlaw_1476 (by decide) rfl ?_
  refine r_aload_n hX dlaw_1478 rfl rfl ?_
  refine r_argZ (c := 1) hX hScr rfl rfl (by decide) (by omega) (by omega) dlaw_1479 dlaw_1480 dlaw_1482 dlaw_1483 dlaw_1484 ?_
  refine r_argZ (c := 2) hX hScr rfl rfl (by decide) (by omega) (by omega) dlaw_1485 dlaw_1486 dlaw_1488 dlaw_1489 dlaw_1490 ?_
  refine r_callV hX (z_X4_strike ad ae cs (mKof S9 T) S th [(ao, .inr (4, [.long n9, s0]))] hS _ (iZ_rng _) _ (iZ_rng _)) kv_L_222 14 rfl rfl rfl rfl (Nat.le_of_ble_eq_true rfl) ⟨(Nat.le_of_ble_eq_true rfl), (Nat.le_of_ble_eq_true rfl)⟩ ⟨by show k + 2 + 0 ≤ 652172; omega, by show n + 12 + 0 ≤ 7139589; omega⟩ dlaw_1491 (fun _ _ z => False.elim z) (fun v8 ws8 h8 => ?_)
  obtain ⟨r8, th8, S8, g8, rfl, hw8⟩ := zU8 (W := fun S8 th8 => mRw ad ae cs (mKof S9 T) (mJof S8 th8) [(ao, .inr (4, [.long n9, s0]))]) h8
  replace hw8 : ws8 = mRw ad ae cs (mKof S9 T) (mJof S8 th8) [(ao, .inr (4, [.long n9, s0]))] := hw8
  subst hw8
  dsimp only [mPush]
  obtain ⟨e1, e2, hn9, hwf⟩ := zM g9 g8 hS (fun g => hS.oLoc (by omega) (hS.2.2.1 (((xs (7 * t + 2)).toInt).toNat + 4) (by omega)).1 (hS.2.2.1 (((xs (7 * t + 2)).toInt).toNat + 4) (by omega)).2)
  subst S8
  subst th8
  refine r_istore hX dlaw_1494 (by decide) rfl ?_
  refine r_goto (tgt := 1886) hX dlaw_1496 (by decide) ?_
  exact r_loc (lv' := [(0, some (.ref b)), (1, some (.ref (ad 0))), (2, some (.ref (ae 0))), (3, some (.ref ao)), (4, some (.int (nI (7 * t))))]) (by exact ⟨rfl, rfl, rfl, rfl, rfl, trivial⟩) (Nat.le_refl _) (Nat.le_refl _) (back S9 T r9 n9 s0 _ _ hwf (by omega) (by omega))
set_option maxHeartbeats 1000000 in
theorem law_z25 {X : mC} {b L : Nat} {xs : Nat → Int32} {ad ae : Nat → Nat} {cs : ClassId × ClassId × ClassId} {S : mS} {T : mT2} {th : Int32} {ao t k n : Nat} {n0 : Int64} {s0 : Value} (hX : mOK X RL code 7 room_1 [] (mTy cs)) (hg : mHas X mNc) (hScr : mScr X b L xs) (hE : mLE X b) (hS : sWF S) (hL : L ≤ 3584) (hi : 7 * t + 6 < L) (hk : k + 100 ≤ 652172) (hn : n + 2500 ≤ 7139589) (back : mBkZ X b ad ae cs ao t k n) : mV X 1499 [(0, some (.ref b)), (1, some (.ref (ad 0))), (2, some (.ref (ae 0))), (3, some (.ref ao)), (4, some (.int (nI (7 * t))))] [] (mRw ad ae cs (mKof S T) (mJof S th) [(ao, .inr (4, [.long n0, s0]))]) k n := by
  refine r_aload_n hX dlaw_1499 rfl rfl ?_
  refine r_argZ (c := 1) hX hScr rfl rfl (by decide) (by omega) (by omega) dlaw_1500 dlaw_1501 dlaw_1503 dlaw_1504 dlaw_1505 ?_
  refine r_argZ (c := 2) hX hScr rfl rfl (by decide) (by omega) (by omega) dlaw_1506 dlaw_1507 dlaw_1509 dlaw_1510 dlaw_1511 ?_
  refine r_argZ (c := 3) hX hScr rfl rfl (by decide) (by omega) (by omega) dlaw_1512 dlaw_1513 dlaw_1515 dlaw_1516 dlaw_1517 ?_
  refine r_argZ (c := 4) hX hScr rfl rfl (by decide) (by omega) (by omega) dlaw_1518 dlaw_1519 dlaw_1521 dlaw_1522 dlaw_1523 ?_
  refine r_ne0Z hX (iZ_rng _) dlaw_1524 dlaw_1527 dlaw_1528 dlaw_1531 ?_
  refine r_aload_n hX dlaw_1532 rfl rfl ?_
  refine r_callW hX hg (z_L_moveClock ad ae cs S T (mJof S th) [] hS ao n0 s0 _ (iZ_rng _) _ (iZ_rng _) _ (iZ_rng _) _) kh_L_223 rfl rfl (Nat.le_of_ble_eq_true rfl) ⟨(Nat.le_of_ble_eq_true rfl), (Nat.le_of_ble_eq_true rfl)⟩ ⟨by show k + 2 ≤ 652172; omega, by show n + 12 ≤ 7139589; omega⟩ dlaw_1533 (fun v9 ws9 h9 => ?_)
  obtain ⟨r9, n9, S9, g9, rfl, hw9⟩ := zU9 (W := fun S9 n9 => mRw ad ae cs (mKof S9 T) (mJof S th) [(ao, .inr (4, [.long n9, s0]))]) h9
  replace hw9 : ws9 = mRw ad ae cs (mKof S9 T) (mJof S th) [(ao, .inr (4, [.long n9, s0]))] := hw9
  subst hw9
  dsimp only [mPush]
  refine r_istore hX dlaw_1536 (by decide) rfl ?_
  refine r_aload_n hX dlaw_1538 rfl rfl ?_
  refine r_argZ (c := 1) hX hScr rfl rfl (by decide) (by omega) (by omega) dlaw_1539 dlaw_1540 dlaw_1542 dlaw_1543 dlaw_1544 ?_
  refine r_argZ (c := 2) hX hScr rfl rfl (by decide) (by omega) (by omega) dlaw_1545 dlaw_1546 dlaw_1548 dlaw_1549 dlaw_1550 ?_
  refine r_argZ (c := 3) hX hScr rfl rfl (by decide) (by omega) (by omega) dlaw_1551 dlaw_1552 dlaw_1554 dlaw_1555 dlaw_1556 ?_
  refine r_argZ (c := 4) hX hScr rfl rfl (by decide) (by omega) (by omega) dlaw_1557 dlaw_1558 dlaw_1560 dlaw_1561 dlaw_1562 ?_
  refine r_ne0Z hX (iZ_rng _) dlaw_1563 dlaw_1566 dlaw_1567 dlaw_1570 ?_
  refine r_callV hX (z_X4_moveClock ad ae cs (mKof S9 T) S th [(ao, .inr (4, [.long n9, s0]))] hS _ (iZ_rng _) _ (iZ_rng _) _ (iZ_rng _) _) kv_L_225 14 rfl rfl rfl rfl (Nat.le_of_ble_eq_true rfl) ⟨(Nat.le_of_ble_eq_true rfl), (Nat.le_of_ble_eq_true rfl)⟩ ⟨by show k + 2 + 0 ≤ 652172; omega, by show n + 12 + 0 ≤ 7139589; omega⟩ dlaw_1571 (fun _ _ z => False.elim z) (fun v8 ws8 h8 => ?_)
  obtain ⟨r8, th8, S8, g8, rfl, hw8⟩ := zU8 (W := fun S8 th8 => mRw ad ae cs (mKof S9 T) (mJof S8 th8) [(ao, .inr (4, [.long n9, s0]))]) h8
  replace hw8 : ws8 = mRw ad ae cs (mKof S9 T) (mJof S8 th8) [(ao, .inr (4, [.long n9, s0]))] := hw8
  subst hw8
  dsimp only [mPush]
  obtain ⟨e1, e2, hn9, hwf⟩ := zM g9 g8 hS (fun g => hS.oClk (zNn_r (hS.2.2.1 (((xs (7 * t + 1)).toInt).toNat + 4) (by omega)).1) (hS.2.2.1 (((xs (7 * t + 1)).toInt).toNat + 4) (by omega)).2)
  subst S8
  subst th8
  refine r_istore hX dlaw_1574 (by decide) rfl ?_
  refine r_goto (tgt := 1886) hX dlaw_1576 (by decide) ?_
  exact r_loc (lv' := [(0, some (.ref b)), (1, some (.ref (ad 0))), (2, some (.ref (ae 0))), (3, some (.ref ao)), (4, some (.int (nI (7 * t))))]) (by exact ⟨rfl, rfl, rfl, rfl, rfl, trivial⟩) (Nat.le_refl _) (Nat.le_refl _) (back S9 T r9 n9 s0 _ _ hwf (by omega) (by omega))
set_option maxHeartbeats 1000000 in
theorem law_z26 {X : mC} {b L : Nat} {xs : Nat → Int32} {ad ae : Nat → Nat} {cs : ClassId × ClassId × ClassId} {S : mS} {T : mT2} {th : Int32} {ao t k n : Nat} {n0 : Int64} {s0 : Value} (hX : mOK X RL code 7 room_1 [] (mTy cs)) (hg : mHas X mNc) (hScr : mScr X b L xs) (hE : mLE X b) (hS : sWF S) (hL : L ≤ 3584) (hi : 7 * t + 6 < L) (hk : k + 100 ≤ 652172) (hn : n + 2500 ≤ 7139589) (back : mBkZ X b ad ae cs ao t k n) : mV X 1579 [(0, some (.ref b)), (1, some (.ref (ad 0))), (2, some (.ref (ae 0))), (3, some (.ref ao)), (4, some (.int (nI (7 * t))))] [] (mRw ad ae cs (mKof S T) (mJof S th) [(ao, .inr (4, [.long n0, s0]))]) k n := by
  refine r_aload_n hX dlaw_1579 rfl rfl ?_
  refine r_argZ (c := 1) hX hScr rfl rfl (by decide) (by omega) (by omega) dlaw_1580 dlaw_1581 dlaw_1583 dlaw_1584 dlaw_1585 ?_
  refine r_argZ (c := 2) hX hScr rfl rfl (by decide) (by omega) (by omega) dlaw_1586 dlaw_1587 dlaw_1589 dlaw_1590 dlaw_1591 ?_
  refine r_argZ (c := 3) hX hScr rfl rfl (by decide) (by omega) (by omega) dlaw_1592 dlaw_1593 dlaw_1595 dlaw_1596 dlaw_1597 ?_
  refine r_ne0Z hX (iZ_rng _) dlaw_1598 dlaw_1601 dlaw_1602 dlaw_1605 ?_
  refine r_aload_n hX dlaw_1606 rfl rfl ?_
  refine r_callW hX hg (z_L_anewClock ad ae cs S T (mJof S th) [] hS ao n0 s0 _ (iZ_rng _) _ (iZ_rng _) _) kh_L_226 rfl rfl (Nat.le_of_ble_eq_true rfl) ⟨(Nat.le_of_ble_eq_true rfl), (Nat.le_of_ble_eq_true rfl)⟩ ⟨by show k + 2 ≤ 652172; omega, by show n + 12 ≤ 7139589; omega⟩ dlaw_1607 (fun v9 ws9 h9 => ?_)
  obtain ⟨r9, n9, S9, g9, rfl, hw9⟩ := zU9 (W := fun S9 n9 => mRw ad ae cs (mKof S9 T) (mJof S th) [(ao, .inr (4, [.long n9, s0]))]) h9
  replace hw9 : ws9 = mRw ad ae cs (mKof S9 T) (mJof S th) [(ao, .inr (4, [.long n9, s0]))] := hw9
  subst hw9
  dsimp only [mPush]
  refine r_istore hX dlaw_1610 (by decide) rfl ?_
  refine r_aload_n hX dlaw_1612 rfl rfl ?_
  refine r_argZ (c := 1) hX hScr rfl rfl (by decide) (by omega) (by omega) dlaw_1613 dlaw_1614 dlaw_1616 dlaw_1617 dlaw_1618 ?_
  refine r_argZ (c := 2) hX hScr rfl rfl (by decide) (by omega) (by omega) dlaw_1619 dlaw_1620 dlaw_1622 dlaw_1623 dlaw_1624 ?_
  refine r_argZ (c := 3) hX hScr rfl rfl (by decide) (by omega) (by omega) dlaw_1625 dlaw_1626 dlaw_1628 dlaw_1629 dlaw_1630 ?_
  refine r_ne0Z hX (iZ_rng _) dlaw_1631 dlaw_1634 dlaw_1635 dlaw_1638 ?_
  refine r_callV hX (z_X4_anewClock ad ae cs (mKof S9 T) S th [(ao, .inr (4, [.long n9, s0]))] hS _ (iZ_rng _) _ (iZ_rng _) _) kv_L_228 14 rfl rfl rfl rfl (Nat.le_of_ble_eq_true rfl) ⟨(Nat.le_of_ble_eq_true rfl), (Nat.le_of_ble_eq_true rfl)⟩ ⟨by show k + 2 + 0 ≤ 652172; omega, by show n + 12 + 0 ≤ 7139589; omega⟩ dlaw_1639 (fun _ _ z => False.elim z) (fun v8 ws8 h8 => ?_)
  obtain ⟨r8, th8, S8, g8, rfl, hw8⟩ := zU8 (W := fun S8 th8 => mRw ad ae cs (mKof S9 T) (mJof S8 th8) [(ao, .inr (4, [.long n9, s0]))]) h8
  replace hw8 : ws8 = mRw ad ae cs (mKof S9 T) (mJof S8 th8) [(ao, .inr (4, [.long n9, s0]))] := hw8
  subst hw8
  dsimp only [mPush]
  obtain ⟨e1, e2, hn9, hwf⟩ := zM g9 g8 hS (fun g => hS.oClk (hS.2.2.1 (((xs (7 * t + 1)).toInt).toNat + 4) (by omega)).1 (hS.1 (((xs (7 * t + 2)).toInt).toNat) (by omega)))
  subst S8
  subst th8
  refine r_istore hX dlaw_1642 (by decide) rfl ?_
  refine r_goto (tgt := 1886) hX dlaw_1644 (by decide) ?_
  exact r_loc (lv' := [(0, some (.ref b)), (1, some (.ref (ad 0))), (2, some (.ref (ae 0))), (3, some (.ref ao)), (4, some (.int (nI (7 * t))))]) (by exact ⟨rfl, rfl, rfl, rfl, rfl, trivial⟩) (Nat.le_refl _) (Nat.le_refl _) (back S9 T r9 n9 s0 _ _ hwf (by omega) (by omega))
set_option maxHeartbeats 1000000 in
theorem law_z27 {X : mC} {b L : Nat} {xs : Nat → Int32} {ad ae : Nat → Nat} {cs : ClassId × ClassId × ClassId} {S : mS} {T : mT2} {th : Int32} {ao t k n : Nat} {n0 : Int64} {s0 : Value} (hX : mOK X RL code 7 room_1 [] (mTy cs)) (hg : mHas X mNc) (hScr : mScr X b L xs) (hE : mLE X b) (hS : sWF S) (hL : L ≤ 3584) (hi : 7 * t + 6 < L) (hk : k + 100 ≤ 652172) (hn : n + 2500 ≤ 7139589) (back : mBkZ X b ad ae cs ao t k n) : mV X 1647 [(0, some (.ref b)), (1, some (.ref (ad 0))), (2, some (.ref (ae 0))), (3, some (.ref ao)), (4, some (.int (nI (7 * t))))] [] (mRw ad ae cs (mKof S T) (mJof S th) [(ao, .inr (4, [.long n0, s0]))]) k n := by
  refine r_aload_n hX dlaw_1647 rfl rfl ?_
  refine r_argZ (c := 1) hX hScr rfl rfl (by decide) (by omega) (by omega) dlaw_1648 dlaw_1649 dlaw_1651 dlaw_1652 dlaw_1653 ?_
  refine r_argZ (c := 2) hX hScr rfl rfl (by decide) (by omega) (by omega) dlaw_1654 dlaw_1655 dlaw_1657 dlaw_1658 dlaw_1659 ?_
  refine r_aload_n hX dlaw_1660 rfl rfl ?_
  refine r_callW hX hg (z_L_copyClock ad ae cs S T (mJof S th) [] hS ao n0 s0 _ (iZ_rng _) _ (iZ_rng _)) kh_L_229 rfl rfl (Nat.le_of_ble_eq_true rfl) ⟨(Nat.le_of_ble_eq_true rfl), (Nat.le_of_ble_eq_true rfl)⟩ ⟨by show k + 2 ≤ 652172; omega, by show n + 12 ≤ 7139589; omega⟩ dlaw_1661 (fun v9 ws9 h9 => ?_)
  obtain ⟨r9, n9, S9, g9, rfl, hw9⟩ := zU9 (W := fun S9 n9 => mRw ad ae cs (mKof S9 T) (mJof S th) [(ao, .inr (4, [.long n9, s0]))]) h9
  replace hw9 : ws9 = mRw ad ae cs (mKof S9 T) (mJof S th) [(ao, .inr (4, [.long n9, s0]))] := hw9
  subst hw9
  dsimp only [mPush]
  refine r_istore hX dlaw_1664 (by decide) rfl ?_
  refine r_aload_n hX dlaw_1666 rfl rfl ?_
  refine r_argZ (c := 1) hX hScr rfl rfl (by decide) (by omega) (by omega) dlaw_1667 dlaw_1668 dlaw_1670 dlaw_1671 dlaw_1672 ?_
  refine r_argZ (c := 2) hX hScr rfl rfl (by decide) (by omega) (by omega) dlaw_1673 dlaw_1674 dlaw_1676 dlaw_1677 dlaw_1678 ?_
  refine r_callV hX (z_X4_copyClock ad ae cs (mKof S9 T) S th [(ao, .inr (4, [.long n9, s0]))] hS _ (iZ_rng _) _ (iZ_rng _)) kv_L_231 14 rfl rfl rfl rfl (Nat.le_of_ble_eq_true rfl) ⟨(Nat.le_of_ble_eq_true rfl), (Nat.le_of_ble_eq_true rfl)⟩ ⟨by show k + 2 + 0 ≤ 652172; omega, by show n + 12 + 0 ≤ 7139589; omega⟩ dlaw_1679 (fun _ _ z => False.elim z) (fun v8 ws8 h8 => ?_)
  obtain ⟨r8, th8, S8, g8, rfl, hw8⟩ := zU8 (W := fun S8 th8 => mRw ad ae cs (mKof S9 T) (mJof S8 th8) [(ao, .inr (4, [.long n9, s0]))]) h8
  replace hw8 : ws8 = mRw ad ae cs (mKof S9 T) (mJof S8 th8) [(ao, .inr (4, [.long n9, s0]))] := hw8
  subst hw8
  dsimp only [mPush]
  obtain ⟨e1, e2, hn9, hwf⟩ := zM g9 g8 hS (fun g => hS.oClk (hS.2.2.1 (((xs (7 * t + 2)).toInt).toNat + 4) (by omega)).1 (hS.2.2.1 (((xs (7 * t + 2)).toInt).toNat + 4) (by omega)).2)
  subst S8
  subst th8
  refine r_istore hX dlaw_1682 (by decide) rfl ?_
  refine r_goto (tgt := 1886) hX dlaw_1684 (by decide) ?_
  exact r_loc (lv' := [(0, some (.ref b)), (1, some (.ref (ad 0))), (2, some (.ref (ae 0))), (3, some (.ref ao)), (4, some (.int (nI (7 * t))))]) (by exact ⟨rfl, rfl, rfl, rfl, rfl, trivial⟩) (Nat.le_refl _) (Nat.le_refl _) (back S9 T r9 n9 s0 _ _ hwf (by omega) (by omega))
set_option maxHeartbeats 1000000 in
theorem law_z28 {X : mC} {b L : Nat} {xs : Nat → Int32} {ad ae : Nat → Nat} {cs : ClassId × ClassId × ClassId} {S : mS} {T : mT2} {th : Int32} {ao t k n : Nat} {n0 : Int64} {s0 : Value} (hX : mOK X RL code 7 room_1 [] (mTy cs)) (hg : mHas X mNc) (hScr : mScr X b L xs) (hE : mLE X b) (hS : sWF S) (hL : L ≤ 3584) (hi : 7 * t + 6 < L) (hk : k + 100 ≤ 652172) (hn : n + 2500 ≤ 7139589) (back : mBkZ X b ad ae cs ao t k n) : mV X 1687 [(0, some (.ref b)), (1, some (.ref (ad 0))), (2, some (.ref (ae 0))), (3, some (.ref ao)), (4, some (.int (nI (7 * t))))] [] (mRw ad ae cs (mKof S T) (mJof S th) [(ao, .inr (4, [.long n0, s0]))]) k n := by
  refine r_aload_n hX dlaw_1687 rfl rfl ?_
  refine r_argZ (c := 1) hX hScr rfl rfl (by decide) (by omega) (by omega) dlaw_1688 dlaw_1689 dlaw_1691 dlaw_1692 dlaw_1693 ?_
  refine r_argZ (c := 2) hX hScr rfl rfl (by decide) (by omega) (by omega) dlaw_1694 dlaw_1695 dlaw_1697 dlaw_1698 dlaw_1699 ?_
  refine r_aload_n hX dlaw_1700 rfl rfl ?_
  refine r_callW hX hg (z_L_ofClock ad ae cs S T (mJof S th) [] hS ao n0 s0 _ (iZ_rng _) _ (iZ_rng _)) kh_L_232 rfl rfl (Nat.le_of_ble_eq_true rfl) ⟨(Nat.le_of_ble_eq_true rfl), (Nat.le_of_ble_eq_true rfl)⟩ ⟨by show k + 2 ≤ 652172; omega, by show n + 12 ≤ 7139589; omega⟩ dlaw_1701 (fun v9 ws9 h9 => ?_)
  obtain ⟨r9, n9, S9, g9, rfl, hw9⟩ := zU9 (W := fun S9 n9 => mRw ad ae cs (mKof S9 T) (mJof S th) [(ao, .inr (4, [.long n9, s0]))]) h9
  replace hw9 : ws9 = mRw ad ae cs (mKof S9 T) (mJof S th) [(ao, .inr (4, [.long n9, s0]))] := hw9
  subst hw9
  dsimp only [mPush]
  refine r_istore hX dlaw_1704 (by decide) rfl ?_
  refine r_aload_n hX dlaw_1706 rfl rfl ?_
  refine r_argZ (c := 1) hX hScr rfl rfl (by decide) (by omega) (by omega) dlaw_1707 dlaw_1708 dlaw_1710 dlaw_1711 dlaw_1712 ?_
  refine r_argZ (c := 2) hX hScr rfl rfl (by decide) (by omega) (by omega) dlaw_1713 dlaw_1714 dlaw_1716 dlaw_1717 dlaw_1718 ?_
  refine r_callV hX (z_X4_ofClock ad ae cs (mKof S9 T) S th [(ao, .inr (4, [.long n9, s0]))] hS _ (iZ_rng _) _ (iZ_rng _)) kv_L_234 14 rfl rfl rfl rfl (Nat.le_of_ble_eq_true rfl) ⟨(Nat.le_of_ble_eq_true rfl), (Nat.le_of_ble_eq_true rfl)⟩ ⟨by show k + 2 + 1 ≤ 652172; omega, by show n + 12 + 4 ≤ 7139589; omega⟩ dlaw_1719 (fun _ _ z => False.elim z) (fun v8 ws8 h8 => ?_)
  obtain ⟨r8, th8, S8, g8, rfl, hw8⟩ := zU8 (W := fun S8 th8 => mRw ad ae cs (mKof S9 T) (mJof S8 th8) [(ao, .inr (4, [.long n9, s0]))]) h8
  replace hw8 : ws8 = mRw ad ae cs (mKof S9 T) (mJof S8 th8) [(ao, .inr (4, [.long n9, s0]))] := hw8
  subst hw8
  dsimp only [mPush]
  obtain ⟨e1, e2, hn9, hwf⟩ := zM g9 g8 hS (fun g => hS)
  subst S8
  subst th8
  refine r_istore hX dlaw_1722 (by decide) rfl ?_
  refine r_goto (tgt := 1886) hX dlaw_1724 (by decide) ?_
  exact r_loc (lv' := [(0, some (.ref b)), (1, some (.ref (ad 0))), (2, some (.ref (ae 0))), (3, some (.ref ao)), (4, some (.int (nI (7 * t))))]) (by exact ⟨rfl, rfl, rfl, rfl, rfl, trivial⟩) (Nat.le_refl _) (Nat.le_refl _) (back S9 T r9 n9 s0 _ _ hwf (by omega) (by omega))
set_option maxHeartbeats 1000000 in
theorem law_z29 {X : mC} {b L : Nat} {xs : Nat → Int32} {ad ae : Nat → Nat} {cs : ClassId × ClassId × ClassId} {S : mS} {T : mT2} {th : Int32} {ao t k n : Nat} {n0 : Int64} {s0 : Value} (hX : mOK X RL code 7 room_1 [] (mTy cs)) (hg : mHas X mNc) (hScr : mScr X b L xs) (hE : mLE X b) (hS : sWF S) (hL : L ≤ 3584) (hi : 7 * t + 6 < L) (hk : k + 100 ≤ 652172) (hn : n + 2500 ≤ 7139589) (back : mBkZ X b ad ae cs ao t k n) : mV X 1727 [(0, some (.ref b)), (1, some (.ref (ad 0))), (2, some (.ref (ae 0))), (3, some (.ref ao)), (4, some (.int (nI (7 * t))))] [] (mRw ad ae cs (mKof S T) (mJof S th) [(ao, .inr (4, [.long n0, s0]))]) k n := by
  refine r_aload_n hX dlaw_1727 rfl rfl ?_
  refine r_argZ (c := 1) hX hScr rfl rfl (by decide) (by omega) (by omega) dlaw_1728 dlaw_1729 dlaw_1731 dlaw_1732 dlaw_1733 ?_
  refine r_argZ (c := 2) hX hScr rfl rfl (by decide) (by omega) (by omega) dlaw_1734 dlaw_1735 dlaw_1737 dlaw_1738 dlaw_1739 ?_
  refine r_aload_n hX dlaw_1740 rfl rfl ?_
  refine r_callW hX hg (z_L_orderClock ad ae cs S T (mJof S th) [] hS ao n0 s0 _ (iZ_rng _) _ (iZ_rng _)) kh_L_235 rfl rfl (Nat.le_of_ble_eq_true rfl) ⟨(Nat.le_of_ble_eq_true rfl), (Nat.le_of_ble_eq_true rfl)⟩ ⟨by show k + 2 ≤ 652172; omega, by show n + 12 ≤ 7139589; omega⟩ dlaw_1741 (fun v9 ws9 h9 => ?_)
  obtain ⟨r9, n9, S9, g9, rfl, hw9⟩ := zU9 (W := fun S9 n9 => mRw ad ae cs (mKof S9 T) (mJof S th) [(ao, .inr (4, [.long n9, s0]))]) h9
  replace hw9 : ws9 = mRw ad ae cs (mKof S9 T) (mJof S th) [(ao, .inr (4, [.long n9, s0]))] := hw9
  subst hw9
  dsimp only [mPush]
  refine r_istore hX dlaw_1744 (by decide) rfl ?_
  refine r_aload_n hX dlaw_1746 rfl rfl ?_
  refine r_argZ (c := 1) hX hScr rfl rfl (by decide) (by omega) (by omega) dlaw_1747 dlaw_1748 dlaw_1750 dlaw_1751 dlaw_1752 ?_
  refine r_argZ (c := 2) hX hScr rfl rfl (by decide) (by omega) (by omega) dlaw_1753 dlaw_1754 dlaw_1756 dlaw_1757 dlaw_1758 ?_
  refine r_callV hX (z_X4_orderClock ad ae cs (mKof S9 T) S th [(ao, .inr (4, [.long n9, s0]))] hS _ (iZ_rng _) _ (iZ_rng _)) kv_L_237 14 rfl rfl rfl rfl (Nat.le_of_ble_eq_true rfl) ⟨(Nat.le_of_ble_eq_true rfl), (Nat.le_of_ble_eq_true rfl)⟩ ⟨by show k + 2 + 0 ≤ 652172; omega, by show n + 12 + 0 ≤ 7139589; omega⟩ dlaw_1759 (fun _ _ z => False.elim z) (fun v8 ws8 h8 => ?_)
  obtain ⟨r8, th8, S8, g8, rfl, hw8⟩ := zU8 (W := fun S8 th8 => mRw ad ae cs (mKof S9 T) (mJof S8 th8) [(ao, .inr (4, [.long n9, s0]))]) h8
  replace hw8 : ws8 = mRw ad ae cs (mKof S9 T) (mJof S8 th8) [(ao, .inr (4, [.long n9, s0]))] := hw8
  subst hw8
  dsimp only [mPush]
  obtain ⟨e1, e2, hn9, hwf⟩ := zM g9 g8 hS (fun g => hS)
  subst S8
  subst th8
  refine r_istore hX dlaw_1762 (by decide) rfl ?_
  refine r_goto (tgt := 1886) hX dlaw_1764 (by decide) ?_
  exact r_loc (lv' := [(0, some (.ref b)), (1, some (.ref (ad 0))), (2, some (.ref (ae 0))), (3, some (.ref ao)), (4, some (.int (nI (7 * t))))]) (by exact ⟨rfl, rfl, rfl, rfl, rfl, trivial⟩) (Nat.le_refl _) (Nat.le_refl _) (back S9 T r9 n9 s0 _ _ hwf (by omega) (by omega))
set_option maxHeartbeats 1000000 in
theorem law_z30 {X : mC} {b L : Nat} {xs : Nat → Int32} {ad ae : Nat → Nat} {cs : ClassId × ClassId × ClassId} {S : mS} {T : mT2} {th : Int32} {ao t k n : Nat} {n0 : Int64} {s0 : Value} (hX : mOK X RL code 7 room_1 [] (mTy cs)) (hg : mHas X mNc) (hScr : mScr X b L xs) (hE : mLE X b) (hS : sWF S) (hL : L ≤ 3584) (hi : 7 * t + 6 < L) (hk : k + 100 ≤ 652172) (hn : n + 2500 ≤ 7139589) (back : mBkZ X b ad ae cs ao t k n) : mV X 1767 [(0, some (.ref b)), (1, some (.ref (ad 0))), (2, some (.ref (ae 0))), (3, some (.ref ao)), (4, some (.int (nI (7 * t))))] [] (mRw ad ae cs (mKof S T) (mJof S th) [(ao, .inr (4, [.long n0, s0]))]) k n := by
  refine r_aload_n hX dlaw_1767 rfl rfl ?_
  refine r_argZ (c := 1) hX hScr rfl rfl (by decide) (by omega) (by omega) dlaw_1768 dlaw_1769 dlaw_1771 dlaw_1772 dlaw_1773 ?_
  refine r_argZ (c := 2) hX hScr rfl rfl (by decide) (by omega) (by omega) dlaw_1774 dlaw_1775 dlaw_1777 dlaw_1778 dlaw_1779 ?_
  refine r_argZ (c := 3) hX hScr rfl rfl (by decide) (by omega) (by omega) dlaw_1780 dlaw_1781 dlaw_1783 dlaw_1784 dlaw_1785 ?_
  refine r_aload_n hX dlaw_1786 rfl rfl ?_
  refine r_callW hX hg (z_L_isClock ad ae cs S T (mJof S th) [] hS ao n0 s0 _ (iZ_rng _) _ (iZ_rng _) _ (iZ_rng _)) kh_L_238 rfl rfl (Nat.le_of_ble_eq_true rfl) ⟨(Nat.le_of_ble_eq_true rfl), (Nat.le_of_ble_eq_true rfl)⟩ ⟨by show k + 3 ≤ 652172; omega, by show n + 18 ≤ 7139589; omega⟩ dlaw_1787 (fun v9 ws9 h9 => ?_)
  obtain ⟨r9, n9, S9, g9, rfl, hw9⟩ := zU9 (W := fun S9 n9 => mRw ad ae cs (mKof S9 T) (mJof S th) [(ao, .inr (4, [.long n9, s0]))]) h9
  replace hw9 : ws9 = mRw ad ae cs (mKof S9 T) (mJof S th) [(ao, .inr (4, [.long n9, s0]))] := hw9
  subst hw9
  dsimp only [mPush]
  refine r_istore hX dlaw_1790 (by decide) rfl ?_
  refine r_aload_n hX dlaw_1792 rfl rfl ?_
  refine r_argZ (c := 1) hX hScr rfl rfl (by decide) (by omega) (by omega) dlaw_1793 dlaw_1794 dlaw_1796 dlaw_1797 dlaw_1798 ?_
  refine r_argZ (c := 2) hX hScr rfl rfl (by decide) (by omega) (by omega) dlaw_1799 dlaw_1800 dlaw_1802 dlaw_1803 dlaw_1804 ?_
  refine r_argZ (c := 3) hX hScr rfl rfl (by decide) (by omega) (by omega) dlaw_1805 dlaw_1806 dlaw_1808 dlaw_1809 dlaw_1810 ?_
  refine r_callV hX (z_X4_isClock ad ae cs (mKof S9 T) S th [(ao, .inr (4, [.long n9, s0]))] hS _ (iZ_rng _) _ (iZ_rng _) _ (iZ_rng _)) kv_L_240 14 rfl rfl rfl rfl (Nat.le_of_ble_eq_true rfl) ⟨(Nat.le_of_ble_eq_true rfl), (Nat.le_of_ble_eq_true rfl)⟩ ⟨by show k + 3 + 0 ≤ 652172; omega, by show n + 18 + 0 ≤ 7139589; omega⟩ dlaw_1811 (fun _ _ z => False.elim z) (fun v8 ws8 h8 => ?_)
  obtain ⟨r8, th8, S8, g8, rfl, hw8⟩ := zU8 (W := fun S8 th8 => mRw ad ae cs (mKof S9 T) (mJof S8 th8) [(ao, .inr (4, [.long n9, s0]))]) h8
  replace hw8 : ws8 = mRw ad ae cs (mKof S9 T) (mJof S8 th8) [(ao, .inr (4, [.long n9, s0]))] := hw8
  subst hw8
  dsimp only [mPush]
  obtain ⟨e1, e2, hn9, hwf⟩ := zM g9 g8 hS (fun g => hS)
  subst S8
  subst th8
  refine r_istore hX dlaw_1814 (by decide) rfl ?_
  refine r_goto (tgt := 1886) hX dlaw_1816 (by decide) ?_
  exact r_loc (lv' := [(0, some (.ref b)), (1, some (.ref (ad 0))), (2, some (.ref (ae 0))), (3, some (.ref ao)), (4, some (.int (nI (7 * t))))]) (by exact ⟨rfl, rfl, rfl, rfl, rfl, trivial⟩) (Nat.le_refl _) (Nat.le_refl _) (back S9 T r9 n9 s0 _ _ hwf (by omega) (by omega))
set_option maxHeartbeats 1000000 in
theorem law_z31 {X : mC} {b L : Nat} {xs : Nat → Int32} {ad ae : Nat → Nat} {cs : ClassId × ClassId × ClassId} {S : mS} {T : mT2} {th : Int32} {ao t k n : Nat} {n0 : Int64} {s0 : Value} (hX : mOK X RL code 7 room_1 [] (mTy cs)) (hg : mHas X mNc) (hScr : mScr X b L xs) (hE : mLE X b) (hS : sWF S) (hL : L ≤ 3584) (hi : 7 * t + 6 < L) (hk : k + 100 ≤ 652172) (hn : n + 2500 ≤ 7139589) (back : mBkZ X b ad ae cs ao t k n) : mV X 1819 [(0, some (.ref b)), (1, some (.ref (ad 0))), (2, some (.ref (ae 0))), (3, some (.ref ao)), (4, some (.int (nI (7 * t))))] [] (mRw ad ae cs (mKof S T) (mJof S th) [(ao, .inr (4, [.long n0, s0]))]) k n := by
  refine r_aload_n hX dlaw_1819 rfl rfl ?_
  refine r_callV hX (z_X2_knock ad cs S T _) kv_L_241 0 rfl rfl rfl rfl (Nat.le_of_ble_eq_true rfl) ⟨(Nat.le_of_ble_eq_true rfl), (Nat.le_of_ble_eq_true rfl)⟩ ⟨by show k + 0 ≤ 652172; omega, by show n + 0 ≤ 7139589; omega⟩ dlaw_1820 (fun _ _ z => False.elim z) (fun v9 ws9 h9 => ?_)
  obtain ⟨rfl, hw9⟩ := h9
  replace hw9 : ws9 = mRw ad ae cs (mKof (sKn S) T) (mJof S th) [(ao, .inr (4, [.long n0, s0]))] := hw9
  subst hw9
  dsimp only [mPush]
  refine r_pop hX dlaw_1823 rfl ?_
  refine r_aload_n hX dlaw_1824 rfl rfl ?_
  refine r_callV hX (z_X4_knock ad ae cs (mKof (sKn S) T) S th [(ao, .inr (4, [.long n0, s0]))]) kv_L_244 14 rfl rfl rfl rfl (Nat.le_of_ble_eq_true rfl) ⟨(Nat.le_of_ble_eq_true rfl), (Nat.le_of_ble_eq_true rfl)⟩ ⟨by show k + 0 + 0 ≤ 652172; omega, by show n + 0 + 0 ≤ 7139589; omega⟩ dlaw_1825 (fun _ _ z => False.elim z) (fun v8 ws8 h8 => ?_)
  obtain ⟨rfl, hw8⟩ := h8
  replace hw8 : ws8 = mRw ad ae cs (mKof (sKn S) T) (mJof (sKn S) 0) [(ao, .inr (4, [.long n0, s0]))] := hw8
  subst hw8
  dsimp only [mPush]
  refine r_pop hX dlaw_1828 rfl ?_
  refine r_goto (tgt := 1886) hX dlaw_1829 (by decide) ?_
  exact r_loc (lv' := [(0, some (.ref b)), (1, some (.ref (ad 0))), (2, some (.ref (ae 0))), (3, some (.ref ao)), (4, some (.int (nI (7 * t))))]) (by exact ⟨rfl, rfl, rfl, rfl, rfl, trivial⟩) (Nat.le_refl _) (Nat.le_refl _) (back (sKn S) T 0 n0 s0 _ _ hS.kn (by omega) (by omega))
set_option maxHeartbeats 1000000 in
theorem law_z32 {X : mC} {b L : Nat} {xs : Nat → Int32} {ad ae : Nat → Nat} {cs : ClassId × ClassId × ClassId} {S : mS} {T : mT2} {th : Int32} {ao t k n : Nat} {n0 : Int64} {s0 : Value} (hX : mOK X RL code 7 room_1 [] (mTy cs)) (hg : mHas X mNc) (hScr : mScr X b L xs) (hE : mLE X b) (hS : sWF S) (hL : L ≤ 3584) (hi : 7 * t + 6 < L) (hk : k + 100 ≤ 652172) (hn : n + 2500 ≤ 7139589) (back : mBkZ X b ad ae cs ao t k n) : mV X 1832 [(0, some (.ref b)), (1, some (.ref (ad 0))), (2, some (.ref (ae 0))), (3, some (.ref ao)), (4, some (.int (nI (7 * t))))] [] (mRw ad ae cs (mKof S T) (mJof S th) [(ao, .inr (4, [.long n0, s0]))]) k n := by
  refine r_aload_n hX dlaw_1832 rfl rfl ?_
  refine r_argZ (c := 1) hX hScr rfl rfl (by decide) (by omega) (by omega) dlaw_1833 dlaw_1834 dlaw_1836 dlaw_1837 dlaw_1838 ?_
  refine r_aload_n hX dlaw_1839 rfl rfl ?_
  refine r_callW hX hg (z_L_house ad ae cs S T (mJof S th) [] hS ao n0 s0 _ (iZ_rng _)) kh_L_245 rfl rfl (Nat.le_of_ble_eq_true rfl) ⟨(Nat.le_of_ble_eq_true rfl), (Nat.le_of_ble_eq_true rfl)⟩ ⟨by show k + 1 ≤ 652172; omega, by show n + 6 ≤ 7139589; omega⟩ dlaw_1840 (fun v9 ws9 h9 => ?_)
  obtain ⟨r9, n9, S9, g9, rfl, hw9⟩ := zU9 (W := fun S9 n9 => mRw ad ae cs (mKof S9 T) (mJof S th) [(ao, .inr (4, [.long n9, s0]))]) h9
  replace hw9 : ws9 = mRw ad ae cs (mKof S9 T) (mJof S th) [(ao, .inr (4, [.long n9, s0]))] := hw9
  subst hw9
  dsimp only [mPush]
  refine r_istore hX dlaw_1843 (by decide) rfl ?_
  refine r_aload_n hX dlaw_1845 rfl rfl ?_
  refine r_argZ (c := 1) hX hScr rfl rfl (by decide) (by omega) (by omega) dlaw_1846 dlaw_1847 dlaw_1849 dlaw_1850 dlaw_1851 ?_
  refine r_callV hX (z_X4_house ad ae cs (mKof S9 T) S th [(ao, .inr (4, [.long n9, s0]))] hS _ (iZ_rng _)) kv_L_247 14 rfl rfl rfl rfl (Nat.le_of_ble_eq_true rfl) ⟨(Nat.le_of_ble_eq_true rfl), (Nat.le_of_ble_eq_true rfl)⟩ ⟨by show k + 1 + 0 ≤ 652172; omega, by show n + 6 + 0 ≤ 7139589; omega⟩ dlaw_1852 (fun _ _ z => False.elim z) (fun v8 ws8 h8 => ?_)
  obtain ⟨r8, th8, S8, g8, rfl, hw8⟩ := zU8h (W := fun S8 th8 => mRw ad ae cs (mKof S9 T) (mJof S8 th8) [(ao, .inr (4, [.long n9, s0]))]) h8
  replace hw8 : ws8 = mRw ad ae cs (mKof S9 T) (mJof S8 th8) [(ao, .inr (4, [.long n9, s0]))] := hw8
  subst hw8
  dsimp only [mPush]
  obtain ⟨e1, e2, hn9, hwf⟩ := zM g9 g8 hS (fun g => hS)
  subst S8
  subst th8
  refine r_istore hX dlaw_1855 (by decide) rfl ?_
  refine r_goto (tgt := 1886) hX dlaw_1857 (by decide) ?_
  exact r_loc (lv' := [(0, some (.ref b)), (1, some (.ref (ad 0))), (2, some (.ref (ae 0))), (3, some (.ref ao)), (4, some (.int (nI (7 * t))))]) (by exact ⟨rfl, rfl, rfl, rfl, rfl, trivial⟩) (Nat.le_refl _) (Nat.le_refl _) (back S9 T r9 n9 s0 _ _ hwf (by omega) (by omega))
set_option maxHeartbeats 1000000 in
theorem law_z33 {X : mC} {b L : Nat} {xs : Nat → Int32} {ad ae : Nat → Nat} {cs : ClassId × ClassId × ClassId} {S : mS} {T : mT2} {th : Int32} {ao t k n : Nat} {n0 : Int64} {s0 : Value} (hX : mOK X RL code 7 room_1 [] (mTy cs)) (hg : mHas X mNc) (hScr : mScr X b L xs) (hE : mLE X b) (hS : sWF S) (hL : L ≤ 3584) (hi : 7 * t + 6 < L) (hk : k + 100 ≤ 652172) (hn : n + 2500 ≤ 7139589) (back : mBkZ X b ad ae cs ao t k n) : mV X 1860 [(0, some (.ref b)), (1, some (.ref (ad 0))), (2, some (.ref (ae 0))), (3, some (.ref ao)), (4, some (.int (nI (7 * t))))] [] (mRw ad ae cs (mKof S T) (mJof S th) [(ao, .inr (4, [.long n0, s0]))]) k n := by
  refine r_aload_n hX dlaw_1860 rfl rfl ?_
  refine r_callV hX (z_X2_isSound ad cs S T _ hS) kv_L_248 0 rfl rfl rfl rfl (Nat.le_of_ble_eq_true rfl) ⟨(Nat.le_of_ble_eq_true rfl), (Nat.le_of_ble_eq_true rfl)⟩ ⟨by show k + 0 ≤ 652172; omega, by show n + 0 ≤ 7139589; omega⟩ dlaw_1861 (fun _ _ z => False.elim z) (fun v9 ws9 h9 => ?_)
  obtain ⟨rfl, T9, hw9⟩ := h9
  replace hw9 : ws9 = mRw ad ae cs (mKof S T9) (mJof S th) [(ao, .inr (4, [.long n0, s0]))] := hw9
  subst hw9
  dsimp only [mPush]
  refine r_pop hX dlaw_1864 rfl ?_
  refine r_aload_n hX dlaw_1865 rfl rfl ?_
  refine r_callV hX (z_X4_isSound ad ae cs (mKof S T9) S th [(ao, .inr (4, [.long n0, s0]))]) kv_L_252 14 rfl rfl rfl rfl (Nat.le_of_ble_eq_true rfl) ⟨(Nat.le_of_ble_eq_true rfl), (Nat.le_of_ble_eq_true rfl)⟩ ⟨by show k + 0 + 0 ≤ 652172; omega, by show n + 0 + 0 ≤ 7139589; omega⟩ dlaw_1866 (fun _ _ z => False.elim z) (fun v8 ws8 h8 => ?_)
  obtain ⟨rfl, hw8⟩ := h8
  replace hw8 : ws8 = mRw ad ae cs (mKof S T9) (mJof S 0) [(ao, .inr (4, [.long n0, s0]))] := hw8
  subst hw8
  dsimp only [mPush]
  refine r_pop hX dlaw_1869 rfl ?_
  refine r_goto (tgt := 1886) hX dlaw_1870 (by decide) ?_
  exact r_loc (lv' := [(0, some (.ref b)), (1, some (.ref (ad 0))), (2, some (.ref (ae 0))), (3, some (.ref ao)), (4, some (.int (nI (7 * t))))]) (by exact ⟨rfl, rfl, rfl, rfl, rfl, trivial⟩) (Nat.le_refl _) (Nat.le_refl _) (back S T9 0 n0 s0 _ _ hS (by omega) (by omega))
set_option maxHeartbeats 1000000 in
theorem law_z34 {X : mC} {b L : Nat} {xs : Nat → Int32} {ad ae : Nat → Nat} {cs : ClassId × ClassId × ClassId} {S : mS} {T : mT2} {th : Int32} {ao t k n : Nat} {n0 : Int64} {s0 : Value} (hX : mOK X RL code 7 room_1 [] (mTy cs)) (hg : mHas X mNc) (hScr : mScr X b L xs) (hE : mLE X b) (hS : sWF S) (hL : L ≤ 3584) (hi : 7 * t + 6 < L) (hk : k + 100 ≤ 652172) (hn : n + 2500 ≤ 7139589) (back : mBkZ X b ad ae cs ao t k n) : mV X 1873 [(0, some (.ref b)), (1, some (.ref (ad 0))), (2, some (.ref (ae 0))), (3, some (.ref ao)), (4, some (.int (nI (7 * t))))] [] (mRw ad ae cs (mKof S T) (mJof S th) [(ao, .inr (4, [.long n0, s0]))]) k n := by
  refine r_aload_n hX dlaw_1873 rfl rfl ?_
  refine r_callV hX (z_X2_digest ad cs S T _ hS) kv_L_253 0 rfl rfl rfl rfl (Nat.le_of_ble_eq_true rfl) ⟨(Nat.le_of_ble_eq_true rfl), (Nat.le_of_ble_eq_true rfl)⟩ ⟨by show k + 12 ≤ 652172; omega, by show n + 72 ≤ 7139589; omega⟩ dlaw_1874 (fun _ _ z => False.elim z) (fun v9 ws9 h9 => ?_)
  obtain ⟨rfl, T9, hw9⟩ := h9
  replace hw9 : ws9 = mRw ad ae cs (mKof S T9) (mJof S th) [(ao, .inr (4, [.long n0, s0]))] := hw9
  subst hw9
  dsimp only [mPush]
  refine r_pop2 hX dlaw_1877 rfl ?_
  refine r_aload_n hX dlaw_1878 rfl rfl ?_
  refine r_callV hX (z_X4_digest ad ae cs (mKof S T9) S th [(ao, .inr (4, [.long n0, s0]))] hS) kv_L_257 14 rfl rfl rfl rfl (Nat.le_of_ble_eq_true rfl) ⟨(Nat.le_of_ble_eq_true rfl), (Nat.le_of_ble_eq_true rfl)⟩ ⟨by show k + 12 + 70 ≤ 652172; omega, by show n + 72 + 280 ≤ 7139589; omega⟩ dlaw_1879 (fun _ _ z => False.elim z) (fun v8 ws8 h8 => ?_)
  obtain ⟨rfl, hw8⟩ := h8
  replace hw8 : ws8 = mRw ad ae cs (mKof S T9) (mJof S 0) [(ao, .inr (4, [.long n0, s0]))] := hw8
  subst hw8
  dsimp only [mPush]
  refine r_pop2 hX dlaw_1882 rfl ?_
  refine r_goto (tgt := 1886) hX dlaw_1883 (by decide) ?_
  exact r_loc (lv' := [(0, some (.ref b)), (1, some (.ref (ad 0))), (2, some (.ref (ae 0))), (3, some (.ref ao)), (4, some (.int (nI (7 * t))))]) (by exact ⟨rfl, rfl, rfl, rfl, rfl, trivial⟩) (Nat.le_refl _) (Nat.le_refl _) (back S T9 0 n0 s0 _ _ hS (by omega) (by omega))
end
