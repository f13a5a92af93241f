/-! The law's cases, exact. (Rows by a program of this repository.) -/
/-- the loop goes on behind a case -/
def mBkZ (X : mC) (b : Nat) (ad ae : Nat → Nat) (cs : ClassId × ClassId × ClassId) (ao t k n : Nat) : Prop := ∀ (S' : mS) (T' : mT2) (th' : Int32) (n1 : Int64) (s1 : Value) (k' n' : Nat), sWF S' → k' ≤ k + 100 → n' ≤ n + 2500 → mV X 1886 [(0, some (.ref b)), (1, some (.ref (ad 0))), (2, some (.ref (ae 0))), (3, some (.ref ao)), (4, some (.int (nI (7 * t))))] [] (mRw ad ae cs (mKof S' T') (mJof S' th') [(ao, .inr (4, [.long n1, s1]))]) k' n'
set_option maxHeartbeats 1000000 in
theorem law_z0 {X : mC} {b L : Nat} {xs : Nat → Int32} {ad ae : Nat → Nat} {cs : ClassId × ClassId × ClassId} {S : mS} {T : mT2} {th : Int32} {ao t k n : Nat} {n0 : Int64} {s0 : Value} (hX : mOK X RL code 7 room_1 [] (mTy cs)) (hg : mHas X mNc) (hScr : mScr X b L xs) (hE : mLE X b) (hS : sWF S) (hL : L ≤ 3584) (hi : 7 * t + 6 < L) (hk : k + 100 ≤ 652172) (hn : n + 2500 ≤ 7139589) (back : mBkZ X b ad ae cs ao t k n) : mV X 200 [(0, some (.ref b)), (1, some (.ref (ad 0))), (2, some (.ref (ae 0))), (3, some (.ref ao)), (4, some (.int (nI (7 * t))))] [] (mRw ad ae cs (mKof S T) (mJof S th) [(ao, .inr (4, [.long n0, s0]))]) k n := by
  refine r_aload_n hX dlaw_200 rfl rfl ?_
  refine r_argZ (c := 1) hX hScr rfl rfl (by decide) (by omega) (by omega) dlaw_201 dlaw_202 dlaw_204 dlaw_205 dlaw_206 ?_
  refine r_argZ (c := 2) hX hScr rfl rfl (by decide) (by omega) (by omega) dlaw_207 dlaw_208 dlaw_210 dlaw_211 dlaw_212 ?_
  refine r_aload_n hX dlaw_213 rfl rfl ?_
  refine r_callW hX hg (z_L_offset ad ae cs S T (mJof S th) [] hS ao n0 s0 _ (iZ_rng _) _ (iZ_rng _)) kh_L_134 rfl rfl (Nat.le_of_ble_eq_true rfl) ⟨(Nat.le_of_ble_eq_true rfl), (Nat.le_of_ble_eq_true rfl)⟩ ⟨by show k + 2 ≤ 652172; omega, by show n + 12 ≤ 7139589; omega⟩ dlaw_214 (fun v9 ws9 h9 => ?_)
  obtain ⟨r9, n9, S9, g9, rfl, hw9⟩ := zU9 (W := fun S9 n9 => mRw ad ae cs (mKof S9 T) (mJof S th) [(ao, .inr (4, [.long n9, s0]))]) h9
  replace hw9 : ws9 = mRw ad ae cs (mKof S9 T) (mJof S th) [(ao, .inr (4, [.long n9, s0]))] := hw9
  subst hw9
  dsimp only [mPush]
  refine r_istore hX dlaw_217 (by decide) rfl ?_
  refine r_aload_n hX dlaw_219 rfl rfl ?_
  refine r_argZ (c := 1) hX hScr rfl rfl (by decide) (by omega) (by omega) dlaw_220 dlaw_221 dlaw_223 dlaw_224 dlaw_225 ?_
  refine r_argZ (c := 2) hX hScr rfl rfl (by decide) (by omega) (by omega) dlaw_226 dlaw_227 dlaw_229 dlaw_230 dlaw_231 ?_
  refine r_callV hX (z_X4_offset ad ae cs (mKof S9 T) S th [(ao, .inr (4, [.long n9, s0]))] hS _ (iZ_rng _) _ (iZ_rng _)) kv_L_139 14 rfl rfl rfl rfl (Nat.le_of_ble_eq_true rfl) ⟨(Nat.le_of_ble_eq_true rfl), (Nat.le_of_ble_eq_true rfl)⟩ ⟨by show k + 2 + 0 ≤ 652172; omega, by show n + 12 + 0 ≤ 7139589; omega⟩ dlaw_232 (fun _ _ z => False.elim z) (fun v8 ws8 h8 => ?_)
  obtain ⟨r8, th8, S8, g8, rfl, hw8⟩ := zU8 (W := fun S8 th8 => mRw ad ae cs (mKof S9 T) (mJof S8 th8) [(ao, .inr (4, [.long n9, s0]))]) h8
  replace hw8 : ws8 = mRw ad ae cs (mKof S9 T) (mJof S8 th8) [(ao, .inr (4, [.long n9, s0]))] := hw8
  subst hw8
  dsimp only [mPush]
  obtain ⟨e1, e2, hn9, hwf⟩ := zM g9 g8 hS (fun g => hS.of g.2)
  subst S8
  subst th8
  refine r_istore hX dlaw_235 (by decide) rfl ?_
  refine r_goto (tgt := 1886) hX dlaw_237 (by decide) ?_
  exact r_loc (lv' := [(0, some (.ref b)), (1, some (.ref (ad 0))), (2, some (.ref (ae 0))), (3, some (.ref ao)), (4, some (.int (nI (7 * t))))]) (by exact ⟨rfl, rfl, rfl, rfl, rfl, trivial⟩) (Nat.le_refl _) (Nat.le_refl _) (back S9 T r9 n9 s0 _ _ hwf (by omega) (by omega))
set_option maxHeartbeats 1000000 in
theorem law_z1 {X : mC} {b L : Nat} {xs : Nat → Int32} {ad ae : Nat → Nat} {cs : ClassId × ClassId × ClassId} {S : mS} {T : mT2} {th : Int32} {ao t k n : Nat} {n0 : Int64} {s0 : Value} (hX : mOK X RL code 7 room_1 [] (mTy cs)) (hg : mHas X mNc) (hScr : mScr X b L xs) (hE : mLE X b) (hS : sWF S) (hL : L ≤ 3584) (hi : 7 * t + 6 < L) (hk : k + 100 ≤ 652172) (hn : n + 2500 ≤ 7139589) (back : mBkZ X b ad ae cs ao t k n) : mV X 240 [(0, some (.ref b)), (1, some (.ref (ad 0))), (2, some (.ref (ae 0))), (3, some (.ref ao)), (4, some (.int (nI (7 * t))))] [] (mRw ad ae cs (mKof S T) (mJof S th) [(ao, .inr (4, [.long n0, s0]))]) k n := by
  refine r_aload_n hX dlaw_240 rfl rfl ?_
  refine r_argZ (c := 1) hX hScr rfl rfl (by decide) (by omega) (by omega) dlaw_241 dlaw_242 dlaw_244 dlaw_245 dlaw_246 ?_
  refine r_argZ (c := 2) hX hScr rfl rfl (by decide) (by omega) (by omega) dlaw_247 dlaw_248 dlaw_250 dlaw_251 dlaw_252 ?_
  refine r_argZ (c := 3) hX hScr rfl rfl (by decide) (by omega) (by omega) dlaw_253 dlaw_254 dlaw_256 dlaw_257 dlaw_258 ?_
  refine r_argZ (c := 4) hX hScr rfl rfl (by decide) (by omega) (by omega) dlaw_259 dlaw_260 dlaw_262 dlaw_263 dlaw_264 ?_
  refine r_aload_n hX dlaw_265 rfl rfl ?_
  refine r_callW hX hg (z_L_offsetOf ad ae cs S T (mJof S th) [] hS ao n0 s0 _ (iZ_rng _) _ (iZ_rng _) _ (iZ_rng _) _ (iZ_rng _)) kh_L_140 rfl rfl (Nat.le_of_ble_eq_true rfl) ⟨(Nat.le_of_ble_eq_true rfl), (Nat.le_of_ble_eq_true rfl)⟩ ⟨by show k + 1 ≤ 652172; omega, by show n + 6 ≤ 7139589; omega⟩ dlaw_266 (fun v9 ws9 h9 => ?_)
  obtain ⟨r9, n9, S9, g9, rfl, hw9⟩ := zU9 (W := fun S9 n9 => mRw ad ae cs (mKof S9 T) (mJof S th) [(ao, .inr (4, [.long n9, s0]))]) h9
  replace hw9 : ws9 = mRw ad ae cs (mKof S9 T) (mJof S th) [(ao, .inr (4, [.long n9, s0]))] := hw9
  subst hw9
  dsimp only [mPush]
  refine r_istore hX dlaw_269 (by decide) rfl ?_
  refine r_aload_n hX dlaw_271 rfl rfl ?_
  refine r_argZ (c := 1) hX hScr rfl rfl (by decide) (by omega) (by omega) dlaw_272 dlaw_273 dlaw_275 dlaw_276 dlaw_277 ?_
  refine r_argZ (c := 2) hX hScr rfl rfl (by decide) (by omega) (by omega) dlaw_278 dlaw_279 dlaw_281 dlaw_282 dlaw_283 ?_
  refine r_argZ (c := 3) hX hScr rfl rfl (by decide) (by omega) (by omega) dlaw_284 dlaw_285 dlaw_287 dlaw_288 dlaw_289 ?_
  refine r_argZ (c := 4) hX hScr rfl rfl (by decide) (by omega) (by omega) dlaw_290 dlaw_291 dlaw_293 dlaw_294 dlaw_295 ?_
  refine r_callV hX (z_X4_offsetOf ad ae cs (mKof S9 T) S th [(ao, .inr (4, [.long n9, s0]))] hS _ (iZ_rng _) _ (iZ_rng _) _ (iZ_rng _) _ (iZ_rng _)) kv_L_143 14 rfl rfl rfl rfl (Nat.le_of_ble_eq_true rfl) ⟨(Nat.le_of_ble_eq_true rfl), (Nat.le_of_ble_eq_true rfl)⟩ ⟨by show k + 1 + 0 ≤ 652172; omega, by show n + 6 + 0 ≤ 7139589; omega⟩ dlaw_296 (fun _ _ z => False.elim z) (fun v8 ws8 h8 => ?_)
  obtain ⟨r8, th8, S8, g8, rfl, hw8⟩ := zU8 (W := fun S8 th8 => mRw ad ae cs (mKof S9 T) (mJof S8 th8) [(ao, .inr (4, [.long n9, s0]))]) h8
  replace hw8 : ws8 = mRw ad ae cs (mKof S9 T) (mJof S8 th8) [(ao, .inr (4, [.long n9, s0]))] := hw8
  subst hw8
  dsimp only [mPush]
  obtain ⟨e1, e2, hn9, hwf⟩ := zM g9 g8 hS (fun g => wf_oOff hS)
  subst S8
  subst th8
  refine r_istore hX dlaw_299 (by decide) rfl ?_
  refine r_goto (tgt := 1886) hX dlaw_301 (by decide) ?_
  exact r_loc (lv' := [(0, some (.ref b)), (1, some (.ref (ad 0))), (2, some (.ref (ae 0))), (3, some (.ref ao)), (4, some (.int (nI (7 * t))))]) (by exact ⟨rfl, rfl, rfl, rfl, rfl, trivial⟩) (Nat.le_refl _) (Nat.le_refl _) (back S9 T r9 n9 s0 _ _ hwf (by omega) (by omega))
set_option maxHeartbeats 1000000 in
theorem law_z2 {X : mC} {b L : Nat} {xs : Nat → Int32} {ad ae : Nat → Nat} {cs : ClassId × ClassId × ClassId} {S : mS} {T : mT2} {th : Int32} {ao t k n : Nat} {n0 : Int64} {s0 : Value} (hX : mOK X RL code 7 room_1 [] (mTy cs)) (hg : mHas X mNc) (hScr : mScr X b L xs) (hE : mLE X b) (hS : sWF S) (hL : L ≤ 3584) (hi : 7 * t + 6 < L) (hk : k + 100 ≤ 652172) (hn : n + 2500 ≤ 7139589) (back : mBkZ X b ad ae cs ao t k n) : mV X 304 [(0, some (.ref b)), (1, some (.ref (ad 0))), (2, some (.ref (ae 0))), (3, some (.ref ao)), (4, some (.int (nI (7 * t))))] [] (mRw ad ae cs (mKof S T) (mJof S th) [(ao, .inr (4, [.long n0, s0]))]) k n := by
  refine r_aload_n hX dlaw_304 rfl rfl ?_
  refine r_argZ (c := 1) hX hScr rfl rfl (by decide) (by omega) (by omega) dlaw_305 dlaw_306 dlaw_308 dlaw_309 dlaw_310 ?_
  refine r_aload_n hX dlaw_311 rfl rfl ?_
  refine r_callW hX hg (z_L_seconds ad ae cs S T (mJof S th) [] hS ao n0 s0 _ (iZ_rng _)) kh_L_144 rfl rfl (Nat.le_of_ble_eq_true rfl) ⟨(Nat.le_of_ble_eq_true rfl), (Nat.le_of_ble_eq_true rfl)⟩ ⟨by show k + 1 ≤ 652172; omega, by show n + 6 ≤ 7139589; omega⟩ dlaw_312 (fun v9 ws9 h9 => ?_)
  obtain ⟨r9, n9, S9, g9, rfl, hw9⟩ := zU9 (W := fun S9 n9 => mRw ad ae cs (mKof S9 T) (mJof S th) [(ao, .inr (4, [.long n9, s0]))]) h9
  replace hw9 : ws9 = mRw ad ae cs (mKof S9 T) (mJof S th) [(ao, .inr (4, [.long n9, s0]))] := hw9
  subst hw9
  dsimp only [mPush]
  refine r_istore hX dlaw_315 (by decide) rfl ?_
  refine r_aload_n hX dlaw_317 rfl rfl ?_
  refine r_argZ (c := 1) hX hScr rfl rfl (by decide) (by omega) (by omega) dlaw_318 dlaw_319 dlaw_321 dlaw_322 dlaw_323 ?_
  refine r_callV hX (z_X4_seconds ad ae cs (mKof S9 T) S th [(ao, .inr (4, [.long n9, s0]))] hS _ (iZ_rng _)) kv_L_147 14 rfl rfl rfl rfl (Nat.le_of_ble_eq_true rfl) ⟨(Nat.le_of_ble_eq_true rfl), (Nat.le_of_ble_eq_true rfl)⟩ ⟨by show k + 1 + 0 ≤ 652172; omega, by show n + 6 + 0 ≤ 7139589; omega⟩ dlaw_324 (fun _ _ z => False.elim z) (fun v8 ws8 h8 => ?_)
  obtain ⟨r8, th8, S8, g8, rfl, hw8⟩ := zU8 (W := fun S8 th8 => mRw ad ae cs (mKof S9 T) (mJof S8 th8) [(ao, .inr (4, [.long n9, s0]))]) h8
  replace hw8 : ws8 = mRw ad ae cs (mKof S9 T) (mJof S8 th8) [(ao, .inr (4, [.long n9, s0]))] := hw8
  subst hw8
  dsimp only [mPush]
  obtain ⟨e1, e2, hn9, hwf⟩ := zM g9 g8 hS (fun g => hS)
  subst S8
  subst th8
  refine r_istore hX dlaw_327 (by decide) rfl ?_
  refine r_goto (tgt := 1886) hX dlaw_329 (by decide) ?_
  exact r_loc (lv' := [(0, some (.ref b)), (1, some (.ref (ad 0))), (2, some (.ref (ae 0))), (3, some (.ref ao)), (4, some (.int (nI (7 * t))))]) (by exact ⟨rfl, rfl, rfl, rfl, rfl, trivial⟩) (Nat.le_refl _) (Nat.le_refl _) (back S9 T r9 n9 s0 _ _ hwf (by omega) (by omega))
set_option maxHeartbeats 1000000 in
theorem law_z3 {X : mC} {b L : Nat} {xs : Nat → Int32} {ad ae : Nat → Nat} {cs : ClassId × ClassId × ClassId} {S : mS} {T : mT2} {th : Int32} {ao t k n : Nat} {n0 : Int64} {s0 : Value} (hX : mOK X RL code 7 room_1 [] (mTy cs)) (hg : mHas X mNc) (hScr : mScr X b L xs) (hE : mLE X b) (hS : sWF S) (hL : L ≤ 3584) (hi : 7 * t + 6 < L) (hk : k + 100 ≤ 652172) (hn : n + 2500 ≤ 7139589) (back : mBkZ X b ad ae cs ao t k n) : mV X 332 [(0, some (.ref b)), (1, some (.ref (ad 0))), (2, some (.ref (ae 0))), (3, some (.ref ao)), (4, some (.int (nI (7 * t))))] [] (mRw ad ae cs (mKof S T) (mJof S th) [(ao, .inr (4, [.long n0, s0]))]) k n := by
  refine r_aload_n hX dlaw_332 rfl rfl ?_
  refine r_argZ (c := 1) hX hScr rfl rfl (by decide) (by omega) (by omega) dlaw_333 dlaw_334 dlaw_336 dlaw_337 dlaw_338 ?_
  refine r_argZ (c := 2) hX hScr rfl rfl (by decide) (by omega) (by omega) dlaw_339 dlaw_340 dlaw_342 dlaw_343 dlaw_344 ?_
  refine r_aload_n hX dlaw_345 rfl rfl ?_
  refine r_callW hX hg (z_L_orderOffset ad ae cs S T (mJof S th) [] hS ao n0 s0 _ (iZ_rng _) _ (iZ_rng _)) kh_L_148 rfl rfl (Nat.le_of_ble_eq_true rfl) ⟨(Nat.le_of_ble_eq_true rfl), (Nat.le_of_ble_eq_true rfl)⟩ ⟨by show k + 2 ≤ 652172; omega, by show n + 12 ≤ 7139589; omega⟩ dlaw_346 (fun v9 ws9 h9 => ?_)
  obtain ⟨r9, n9, S9, g9, rfl, hw9⟩ := zU9 (W := fun S9 n9 => mRw ad ae cs (mKof S9 T) (mJof S th) [(ao, .inr (4, [.long n9, s0]))]) h9
  replace hw9 : ws9 = mRw ad ae cs (mKof S9 T) (mJof S th) [(ao, .inr (4, [.long n9, s0]))] := hw9
  subst hw9
  dsimp only [mPush]
  refine r_istore hX dlaw_349 (by decide) rfl ?_
  refine r_aload_n hX dlaw_351 rfl rfl ?_
  refine r_argZ (c := 1) hX hScr rfl rfl (by decide) (by omega) (by omega) dlaw_352 dlaw_353 dlaw_355 dlaw_356 dlaw_357 ?_
  refine r_argZ (c := 2) hX hScr rfl rfl (by decide) (by omega) (by omega) dlaw_358 dlaw_359 dlaw_361 dlaw_362 dlaw_363 ?_
  refine r_callV hX (z_X4_orderOffset ad ae cs (mKof S9 T) S th [(ao, .inr (4, [.long n9, s0]))] hS _ (iZ_rng _) _ (iZ_rng _)) kv_L_150 14 rfl rfl rfl rfl (Nat.le_of_ble_eq_true rfl) ⟨(Nat.le_of_ble_eq_true rfl), (Nat.le_of_ble_eq_true rfl)⟩ ⟨by show k + 2 + 0 ≤ 652172; omega, by show n + 12 + 0 ≤ 7139589; omega⟩ dlaw_364 (fun _ _ z => False.elim z) (fun v8 ws8 h8 => ?_)
  obtain ⟨r8, th8, S8, g8, rfl, hw8⟩ := zU8 (W := fun S8 th8 => mRw ad ae cs (mKof S9 T) (mJof S8 th8) [(ao, .inr (4, [.long n9, s0]))]) h8
  replace hw8 : ws8 = mRw ad ae cs (mKof S9 T) (mJof S8 th8) [(ao, .inr (4, [.long n9, s0]))] := hw8
  subst hw8
  dsimp only [mPush]
  obtain ⟨e1, e2, hn9, hwf⟩ := zM g9 g8 hS (fun g => hS)
  subst S8
  subst th8
  refine r_istore hX dlaw_367 (by decide) rfl ?_
  refine r_goto (tgt := 1886) hX dlaw_369 (by decide) ?_
  exact r_loc (lv' := [(0, some (.ref b)), (1, some (.ref (ad 0))), (2, some (.ref (ae 0))), (3, some (.ref ao)), (4, some (.int (nI (7 * t))))]) (by exact ⟨rfl, rfl, rfl, rfl, rfl, trivial⟩) (Nat.le_refl _) (Nat.le_refl _) (back S9 T r9 n9 s0 _ _ hwf (by omega) (by omega))
set_option maxHeartbeats 1000000 in
theorem law_z4 {X : mC} {b L : Nat} {xs : Nat → Int32} {ad ae : Nat → Nat} {cs : ClassId × ClassId × ClassId} {S : mS} {T : mT2} {th : Int32} {ao t k n : Nat} {n0 : Int64} {s0 : Value} (hX : mOK X RL code 7 room_1 [] (mTy cs)) (hg : mHas X mNc) (hScr : mScr X b L xs) (hE : mLE X b) (hS : sWF S) (hL : L ≤ 3584) (hi : 7 * t + 6 < L) (hk : k + 100 ≤ 652172) (hn : n + 2500 ≤ 7139589) (back : mBkZ X b ad ae cs ao t k n) : mV X 372 [(0, some (.ref b)), (1, some (.ref (ad 0))), (2, some (.ref (ae 0))), (3, some (.ref ao)), (4, some (.int (nI (7 * t))))] [] (mRw ad ae cs (mKof S T) (mJof S th) [(ao, .inr (4, [.long n0, s0]))]) k n := by
  refine r_aload_n hX dlaw_372 rfl rfl ?_
  refine r_argZ (c := 1) hX hScr rfl rfl (by decide) (by omega) (by omega) dlaw_373 dlaw_374 dlaw_376 dlaw_377 dlaw_378 ?_
  refine r_argZ (c := 2) hX hScr rfl rfl (by decide) (by omega) (by omega) dlaw_379 dlaw_380 dlaw_382 dlaw_383 dlaw_384 ?_
  refine r_argZ (c := 3) hX hScr rfl rfl (by decide) (by omega) (by omega) dlaw_385 dlaw_386 dlaw_388 dlaw_389 dlaw_390 ?_
  refine r_aload_n hX dlaw_391 rfl rfl ?_
  refine r_callW hX hg (z_L_moment ad ae cs S T (mJof S th) [] hS ao n0 s0 _ (iZ_rng _) _ (iZ_rng _) _ (iZ_rng _)) kh_L_151 rfl rfl (Nat.le_of_ble_eq_true rfl) ⟨(Nat.le_of_ble_eq_true rfl), (Nat.le_of_ble_eq_true rfl)⟩ ⟨by show k + 1 ≤ 652172; omega, by show n + 6 ≤ 7139589; omega⟩ dlaw_392 (fun v9 ws9 h9 => ?_)
  obtain ⟨r9, n9, S9, g9, rfl, hw9⟩ := zU9 (W := fun S9 n9 => mRw ad ae cs (mKof S9 T) (mJof S th) [(ao, .inr (4, [.long n9, s0]))]) h9
  replace hw9 : ws9 = mRw ad ae cs (mKof S9 T) (mJof S th) [(ao, .inr (4, [.long n9, s0]))] := hw9
  subst hw9
  dsimp only [mPush]
  refine r_istore hX dlaw_395 (by decide) rfl ?_
  refine r_aload_n hX dlaw_397 rfl rfl ?_
  refine r_argZ (c := 1) hX hScr rfl rfl (by decide) (by omega) (by omega) dlaw_398 dlaw_399 dlaw_401 dlaw_402 dlaw_403 ?_
  refine r_argZ (c := 2) hX hScr rfl rfl (by decide) (by omega) (by omega) dlaw_404 dlaw_405 dlaw_407 dlaw_408 dlaw_409 ?_
  refine r_argZ (c := 3) hX hScr rfl rfl (by decide) (by omega) (by omega) dlaw_410 dlaw_411 dlaw_413 dlaw_414 dlaw_415 ?_
  refine r_callV hX (z_X4_moment ad ae cs (mKof S9 T) S th [(ao, .inr (4, [.long n9, s0]))] hS _ (iZ_rng _) _ (iZ_rng _) _ (iZ_rng _)) kv_L_154 14 rfl rfl rfl rfl (Nat.le_of_ble_eq_true rfl) ⟨(Nat.le_of_ble_eq_true rfl), (Nat.le_of_ble_eq_true rfl)⟩ ⟨by show k + 1 + 0 ≤ 652172; omega, by show n + 6 + 0 ≤ 7139589; omega⟩ dlaw_416 (fun _ _ z => False.elim z) (fun v8 ws8 h8 => ?_)
  obtain ⟨r8, th8, S8, g8, rfl, hw8⟩ := zU8 (W := fun S8 th8 => mRw ad ae cs (mKof S9 T) (mJof S8 th8) [(ao, .inr (4, [.long n9, s0]))]) h8
  replace hw8 : ws8 = mRw ad ae cs (mKof S9 T) (mJof S8 th8) [(ao, .inr (4, [.long n9, s0]))] := hw8
  subst hw8
  dsimp only [mPush]
  obtain ⟨e1, e2, hn9, hwf⟩ := zM g9 g8 hS (fun g => hS.oNum)
  subst S8
  subst th8
  refine r_istore hX dlaw_419 (by decide) rfl ?_
  refine r_goto (tgt := 1886) hX dlaw_421 (by decide) ?_
  exact r_loc (lv' := [(0, some (.ref b)), (1, some (.ref (ad 0))), (2, some (.ref (ae 0))), (3, some (.ref ao)), (4, some (.int (nI (7 * t))))]) (by exact ⟨rfl, rfl, rfl, rfl, rfl, trivial⟩) (Nat.le_refl _) (Nat.le_refl _) (back S9 T r9 n9 s0 _ _ hwf (by omega) (by omega))
set_option maxHeartbeats 1000000 in
theorem law_z5 {X : mC} {b L : Nat} {xs : Nat → Int32} {ad ae : Nat → Nat} {cs : ClassId × ClassId × ClassId} {S : mS} {T : mT2} {th : Int32} {ao t k n : Nat} {n0 : Int64} {s0 : Value} (hX : mOK X RL code 7 room_1 [] (mTy cs)) (hg : mHas X mNc) (hScr : mScr X b L xs) (hE : mLE X b) (hS : sWF S) (hL : L ≤ 3584) (hi : 7 * t + 6 < L) (hk : k + 100 ≤ 652172) (hn : n + 2500 ≤ 7139589) (back : mBkZ X b ad ae cs ao t k n) : mV X 424 [(0, some (.ref b)), (1, some (.ref (ad 0))), (2, some (.ref (ae 0))), (3, some (.ref ao)), (4, some (.int (nI (7 * t))))] [] (mRw ad ae cs (mKof S T) (mJof S th) [(ao, .inr (4, [.long n0, s0]))]) k n := by
  refine r_aload_n hX dlaw_424 rfl rfl ?_
  refine r_argZ (c := 1) hX hScr rfl rfl (by decide) (by omega) (by omega) dlaw_425 dlaw_426 dlaw_428 dlaw_429 dlaw_430 ?_
  refine r_argZ (c := 2) hX hScr rfl rfl (by decide) (by omega) (by omega) dlaw_431 dlaw_432 dlaw_434 dlaw_435 dlaw_436 ?_
  refine r_argZ (c := 3) hX hScr rfl rfl (by decide) (by omega) (by omega) dlaw_437 dlaw_438 dlaw_440 dlaw_441 dlaw_442 ?_
  refine r_aload_n hX dlaw_443 rfl rfl ?_
  refine r_callW hX hg (z_L_milli ad ae cs S T (mJof S th) [] hS ao n0 s0 _ (iZ_rng _) _ (iZ_rng _) _ (iZ_rng _)) kh_L_155 rfl rfl (Nat.le_of_ble_eq_true rfl) ⟨(Nat.le_of_ble_eq_true rfl), (Nat.le_of_ble_eq_true rfl)⟩ ⟨by show k + 1 ≤ 652172; omega, by show n + 6 ≤ 7139589; omega⟩ dlaw_444 (fun v9 ws9 h9 => ?_)
  obtain ⟨r9, n9, S9, g9, rfl, hw9⟩ := zU9 (W := fun S9 n9 => mRw ad ae cs (mKof S9 T) (mJof S th) [(ao, .inr (4, [.long n9, s0]))]) h9
  replace hw9 : ws9 = mRw ad ae cs (mKof S9 T) (mJof S th) [(ao, .inr (4, [.long n9, s0]))] := hw9
  subst hw9
  dsimp only [mPush]
  refine r_istore hX dlaw_447 (by decide) rfl ?_
  refine r_aload_n hX dlaw_449 rfl rfl ?_
  refine r_argZ (c := 1) hX hScr rfl rfl (by decide) (by omega) (by omega) dlaw_450 dlaw_451 dlaw_453 dlaw_454 dlaw_455 ?_
  refine r_argZ (c := 2) hX hScr rfl rfl (by decide) (by omega) (by omega) dlaw_456 dlaw_457 dlaw_459 dlaw_460 dlaw_461 ?_
  refine r_argZ (c := 3) hX hScr rfl rfl (by decide) (by omega) (by omega) dlaw_462 dlaw_463 dlaw_465 dlaw_466 dlaw_467 ?_
  refine r_callV hX (z_X4_milli ad ae cs (mKof S9 T) S th [(ao, .inr (4, [.long n9, s0]))] hS _ (iZ_rng _) _ (iZ_rng _) _ (iZ_rng _)) kv_L_157 14 rfl rfl rfl rfl (Nat.le_of_ble_eq_true rfl) ⟨(Nat.le_of_ble_eq_true rfl), (Nat.le_of_ble_eq_true rfl)⟩ ⟨by show k + 1 + 0 ≤ 652172; omega, by show n + 6 + 0 ≤ 7139589; omega⟩ dlaw_468 (fun _ _ z => False.elim z) (fun v8 ws8 h8 => ?_)
  obtain ⟨r8, th8, S8, g8, rfl, hw8⟩ := zU8 (W := fun S8 th8 => mRw ad ae cs (mKof S9 T) (mJof S8 th8) [(ao, .inr (4, [.long n9, s0]))]) h8
  replace hw8 : ws8 = mRw ad ae cs (mKof S9 T) (mJof S8 th8) [(ao, .inr (4, [.long n9, s0]))] := hw8
  subst hw8
  dsimp only [mPush]
  obtain ⟨e1, e2, hn9, hwf⟩ := zM g9 g8 hS (fun g => hS.oNum)
  subst S8
  subst th8
  refine r_istore hX dlaw_471 (by decide) rfl ?_
  refine r_goto (tgt := 1886) hX dlaw_473 (by decide) ?_
  exact r_loc (lv' := [(0, some (.ref b)), (1, some (.ref (ad 0))), (2, some (.ref (ae 0))), (3, some (.ref ao)), (4, some (.int (nI (7 * t))))]) (by exact ⟨rfl, rfl, rfl, rfl, rfl, trivial⟩) (Nat.le_refl _) (Nat.le_refl _) (back S9 T r9 n9 s0 _ _ hwf (by omega) (by omega))
set_option maxHeartbeats 1000000 in
theorem law_z6 {X : mC} {b L : Nat} {xs : Nat → Int32} {ad ae : Nat → Nat} {cs : ClassId × ClassId × ClassId} {S : mS} {T : mT2} {th : Int32} {ao t k n : Nat} {n0 : Int64} {s0 : Value} (hX : mOK X RL code 7 room_1 [] (mTy cs)) (hg : mHas X mNc) (hScr : mScr X b L xs) (hE : mLE X b) (hS : sWF S) (hL : L ≤ 3584) (hi : 7 * t + 6 < L) (hk : k + 100 ≤ 652172) (hn : n + 2500 ≤ 7139589) (back : mBkZ X b ad ae cs ao t k n) : mV X 476 [(0, some (.ref b)), (1, some (.ref (ad 0))), (2, some (.ref (ae 0))), (3, some (.ref ao)), (4, some (.int (nI (7 * t))))] [] (mRw ad ae cs (mKof S T) (mJof S th) [(ao, .inr (4, [.long n0, s0]))]) k n := by
  refine r_aload_n hX dlaw_476 rfl rfl ?_
  refine r_argZ (c := 1) hX hScr rfl rfl (by decide) (by omega) (by omega) dlaw_477 dlaw_478 dlaw_480 dlaw_481 dlaw_482 ?_
  refine r_argZ (c := 2) hX hScr rfl rfl (by decide) (by omega) (by omega) dlaw_483 dlaw_484 dlaw_486 dlaw_487 dlaw_488 ?_
  refine r_argZ (c := 3) hX hScr rfl rfl (by decide) (by omega) (by omega) dlaw_489 dlaw_490 dlaw_492 dlaw_493 dlaw_494 ?_
  refine r_argZ (c := 4) hX hScr rfl rfl (by decide) (by omega) (by omega) dlaw_495 dlaw_496 dlaw_498 dlaw_499 dlaw_500 ?_
  refine r_ne0Z hX (iZ_rng _) dlaw_501 dlaw_504 dlaw_505 dlaw_508 ?_
  refine r_aload_n hX dlaw_509 rfl rfl ?_
  refine r_callW hX hg (z_L_move ad ae cs S T (mJof S th) [] hS ao n0 s0 _ (iZ_rng _) _ (iZ_rng _) _ (iZ_rng _) _) kh_L_158 rfl rfl (Nat.le_of_ble_eq_true rfl) ⟨(Nat.le_of_ble_eq_true rfl), (Nat.le_of_ble_eq_true rfl)⟩ ⟨by show k + 2 ≤ 652172; omega, by show n + 12 ≤ 7139589; omega⟩ dlaw_510 (fun v9 ws9 h9 => ?_)
  obtain ⟨r9, n9, S9, g9, rfl, hw9⟩ := zU9 (W := fun S9 n9 => mRw ad ae cs (mKof S9 T) (mJof S th) [(ao, .inr (4, [.long n9, s0]))]) h9
  replace hw9 : ws9 = mRw ad ae cs (mKof S9 T) (mJof S th) [(ao, .inr (4, [.long n9, s0]))] := hw9
  subst hw9
  dsimp only [mPush]
  refine r_istore hX dlaw_513 (by decide) rfl ?_
  refine r_aload_n hX dlaw_515 rfl rfl ?_
  refine r_argZ (c := 1) hX hScr rfl rfl (by decide) (by omega) (by omega) dlaw_516 dlaw_517 dlaw_519 dlaw_520 dlaw_521 ?_
  refine r_argZ (c := 2) hX hScr rfl rfl (by decide) (by omega) (by omega) dlaw_522 dlaw_523 dlaw_525 dlaw_526 dlaw_527 ?_
  refine r_argZ (c := 3) hX hScr rfl rfl (by decide) (by omega) (by omega) dlaw_528 dlaw_529 dlaw_531 dlaw_532 dlaw_533 ?_
  refine r_argZ (c := 4) hX hScr rfl rfl (by decide) (by omega) (by omega) dlaw_534 dlaw_535 dlaw_537 dlaw_538 dlaw_539 ?_
  refine r_ne0Z hX (iZ_rng _) dlaw_540 dlaw_543 dlaw_544 dlaw_547 ?_
  refine r_callV hX (z_X4_move ad ae cs (mKof S9 T) S th [(ao, .inr (4, [.long n9, s0]))] hS _ (iZ_rng _) _ (iZ_rng _) _ (iZ_rng _) _) kv_L_161 14 rfl rfl rfl rfl (Nat.le_of_ble_eq_true rfl) ⟨(Nat.le_of_ble_eq_true rfl), (Nat.le_of_ble_eq_true rfl)⟩ ⟨by show k + 2 + 0 ≤ 652172; omega, by show n + 12 + 0 ≤ 7139589; omega⟩ dlaw_548 (fun _ _ z => False.elim z) (fun v8 ws8 h8 => ?_)
  obtain ⟨r8, th8, S8, g8, rfl, hw8⟩ := zU8 (W := fun S8 th8 => mRw ad ae cs (mKof S9 T) (mJof S8 th8) [(ao, .inr (4, [.long n9, s0]))]) h8
  replace hw8 : ws8 = mRw ad ae cs (mKof S9 T) (mJof S8 th8) [(ao, .inr (4, [.long n9, s0]))] := hw8
  subst hw8
  dsimp only [mPush]
  obtain ⟨e1, e2, hn9, hwf⟩ := zM g9 g8 hS (fun g => hS.oNum)
  subst S8
  subst th8
  refine r_istore hX dlaw_551 (by decide) rfl ?_
  refine r_goto (tgt := 1886) hX dlaw_553 (by decide) ?_
  exact r_loc (lv' := [(0, some (.ref b)), (1, some (.ref (ad 0))), (2, some (.ref (ae 0))), (3, some (.ref ao)), (4, some (.int (nI (7 * t))))]) (by exact ⟨rfl, rfl, rfl, rfl, rfl, trivial⟩) (Nat.le_refl _) (Nat.le_refl _) (back S9 T r9 n9 s0 _ _ hwf (by omega) (by omega))
set_option maxHeartbeats 1000000 in
theorem law_z7 {X : mC} {b L : Nat} {xs : Nat → Int32} {ad ae : Nat → Nat} {cs : ClassId × ClassId × ClassId} {S : mS} {T : mT2} {th : Int32} {ao t k n : Nat} {n0 : Int64} {s0 : Value} (hX : mOK X RL code 7 room_1 [] (mTy cs)) (hg : mHas X mNc) (hScr : mScr X b L xs) (hE : mLE X b) (hS : sWF S) (hL : L ≤ 3584) (hi : 7 * t + 6 < L) (hk : k + 100 ≤ 652172) (hn : n + 2500 ≤ 7139589) (back : mBkZ X b ad ae cs ao t k n) : mV X 556 [(0, some (.ref b)), (1, some (.ref (ad 0))), (2, some (.ref (ae 0))), (3, some (.ref ao)), (4, some (.int (nI (7 * t))))] [] (mRw ad ae cs (mKof S T) (mJof S th) [(ao, .inr (4, [.long n0, s0]))]) k n := by
  refine r_aload_n hX dlaw_556 rfl rfl ?_
  refine r_argZ (c := 1) hX hScr rfl rfl (by decide) (by omega) (by omega) dlaw_557 dlaw_558 dlaw_560 dlaw_561 dlaw_562 ?_
  refine r_argZ (c := 2) hX hScr rfl rfl (by decide) (by omega) (by omega) dlaw_563 dlaw_564 dlaw_566 dlaw_567 dlaw_568 ?_
  refine r_aload_n hX dlaw_569 rfl rfl ?_
  refine r_callW hX hg (z_L_momentOf ad ae cs S T (mJof S th) [] hS ao n0 s0 _ (iZ_rng _) _ (iZ_rng _)) kh_L_162 rfl rfl (Nat.le_of_ble_eq_true rfl) ⟨(Nat.le_of_ble_eq_true rfl), (Nat.le_of_ble_eq_true rfl)⟩ ⟨by show k + 2 ≤ 652172; omega, by show n + 12 ≤ 7139589; omega⟩ dlaw_570 (fun v9 ws9 h9 => ?_)
  obtain ⟨r9, n9, S9, g9, rfl, hw9⟩ := zU9 (W := fun S9 n9 => mRw ad ae cs (mKof S9 T) (mJof S th) [(ao, .inr (4, [.long n9, s0]))]) h9
  replace hw9 : ws9 = mRw ad ae cs (mKof S9 T) (mJof S th) [(ao, .inr (4, [.long n9, s0]))] := hw9
  subst hw9
  dsimp only [mPush]
  refine r_istore hX dlaw_573 (by decide) rfl ?_
  refine r_aload_n hX dlaw_575 rfl rfl ?_
  refine r_argZ (c := 1) hX hScr rfl rfl (by decide) (by omega) (by omega) dlaw_576 dlaw_577 dlaw_579 dlaw_580 dlaw_581 ?_
  refine r_argZ (c := 2) hX hScr rfl rfl (by decide) (by omega) (by omega) dlaw_582 dlaw_583 dlaw_585 dlaw_586 dlaw_587 ?_
  refine r_callV hX (z_X4_momentOf ad ae cs (mKof S9 T) S th [(ao, .inr (4, [.long n9, s0]))] hS _ (iZ_rng _) _ (iZ_rng _)) kv_L_164 14 rfl rfl rfl rfl (Nat.le_of_ble_eq_true rfl) ⟨(Nat.le_of_ble_eq_true rfl), (Nat.le_of_ble_eq_true rfl)⟩ ⟨by show k + 2 + 0 ≤ 652172; omega, by show n + 12 + 0 ≤ 7139589; omega⟩ dlaw_588 (fun _ _ z => False.elim z) (fun v8 ws8 h8 => ?_)
  obtain ⟨r8, th8, S8, g8, rfl, hw8⟩ := zU8 (W := fun S8 th8 => mRw ad ae cs (mKof S9 T) (mJof S8 th8) [(ao, .inr (4, [.long n9, s0]))]) h8
  replace hw8 : ws8 = mRw ad ae cs (mKof S9 T) (mJof S8 th8) [(ao, .inr (4, [.long n9, s0]))] := hw8
  subst hw8
  dsimp only [mPush]
  obtain ⟨e1, e2, hn9, hwf⟩ := zM g9 g8 hS (fun g => hS.oNum)
  subst S8
  subst th8
  refine r_istore hX dlaw_591 (by decide) rfl ?_
  refine r_aload_n hX dlaw_593 rfl rfl ?_
  refine r_callV hX (c_X4_thrown ad ae cs (mKof S9 T) (mJof S9 r9) _) kv_L_165 14 rfl rfl rfl rfl (Nat.le_of_ble_eq_true rfl) ⟨(Nat.le_of_ble_eq_true rfl), (Nat.le_of_ble_eq_true rfl)⟩ ⟨by show k + 2 + 0 + 0 ≤ 652172; omega, by show n + 12 + 0 + 0 ≤ 7139589; omega⟩ dlaw_594 (fun _ _ z => False.elim z) (fun v7 ws7 h7 => ?_)
  obtain ⟨hv7, hw7⟩ := h7
  replace hv7 : v7 = some (.int r9) := hv7
  subst hv7 hw7
  dsimp only [mPush]
  refine r_iload hX dlaw_597 rfl ?_
  refine r_icmp_eq (tgt := 604) hX dlaw_599 (by decide) (fun _ => ?_) (fun h7 => (h7 rfl).elim)
  refine r_iload hX dlaw_604 rfl ?_
  refine r_if_ne (tgt := 622) hX dlaw_606 (by decide) (fun h0 => ?_) (fun h0 => ?_)
  ·
    refine r_goto (tgt := 1886) hX dlaw_622 (by decide) ?_
    exact r_loc (lv' := [(0, some (.ref b)), (1, some (.ref (ad 0))), (2, some (.ref (ae 0))), (3, some (.ref ao)), (4, some (.int (nI (7 * t))))]) (by exact ⟨rfl, rfl, rfl, rfl, rfl, trivial⟩) (Nat.le_refl _) (Nat.le_refl _) (back S9 T r9 n9 s0 _ _ hwf (by omega) (by omega))
  · obtain ⟨f1, f2⟩ := hn9 (Classical.not_not.mp h0)
    subst n9
    subst r8
    refine r_aload_n hX dlaw_609 rfl rfl ?_
    refine r_getN hX kg_L_13 21 rfl rfl dlaw_610 ?_
    refine r_iload hX dlaw_613 rfl ?_
    refine r_i2l hX dlaw_615 ?_
    refine r_lcmp hX dlaw_616 ?_
    refine r_if_eq (tgt := 622) hX dlaw_617 (by decide) (fun _ => ?_) (fun h7 => absurd ((lg_cmp_eq _ _).mpr (by rfl)) h7)
    refine r_goto (tgt := 1886) hX dlaw_622 (by decide) ?_
    exact r_loc (lv' := [(0, some (.ref b)), (1, some (.ref (ad 0))), (2, some (.ref (ae 0))), (3, some (.ref ao)), (4, some (.int (nI (7 * t))))]) (by exact ⟨rfl, rfl, rfl, rfl, rfl, trivial⟩) (Nat.le_refl _) (Nat.le_refl _) (back S9 T r9 _ s0 _ _ hwf (by omega) (by omega))
set_option maxHeartbeats 1000000 in
theorem law_z8 {X : mC} {b L : Nat} {xs : Nat → Int32} {ad ae : Nat → Nat} {cs : ClassId × ClassId × ClassId} {S : mS} {T : mT2} {th : Int32} {ao t k n : Nat} {n0 : Int64} {s0 : Value} (hX : mOK X RL code 7 room_1 [] (mTy cs)) (hg : mHas X mNc) (hScr : mScr X b L xs) (hE : mLE X b) (hS : sWF S) (hL : L ≤ 3584) (hi : 7 * t + 6 < L) (hk : k + 100 ≤ 652172) (hn : n + 2500 ≤ 7139589) (back : mBkZ X b ad ae cs ao t k n) : mV X 625 [(0, some (.ref b)), (1, some (.ref (ad 0))), (2, some (.ref (ae 0))), (3, some (.ref ao)), (4, some (.int (nI (7 * t))))] [] (mRw ad ae cs (mKof S T) (mJof S th) [(ao, .inr (4, [.long n0, s0]))]) k n := by
  refine r_aload_n hX dlaw_625 rfl rfl ?_
  refine r_argZ (c := 1) hX hScr rfl rfl (by decide) (by omega) (by omega) dlaw_626 dlaw_627 dlaw_629 dlaw_630 dlaw_631 ?_
  refine r_argZ (c := 2) hX hScr rfl rfl (by decide) (by omega) (by omega) dlaw_632 dlaw_633 dlaw_635 dlaw_636 dlaw_637 ?_
  refine r_ne0Z hX (iZ_rng _) dlaw_638 dlaw_641 dlaw_642 dlaw_645 ?_
  refine r_aload_n hX dlaw_646 rfl rfl ?_
  refine r_callW hX hg (z_L_ofMoment ad ae cs S T (mJof S th) [] hS ao n0 s0 _ (iZ_rng _) _) kh_L_169 rfl rfl (Nat.le_of_ble_eq_true rfl) ⟨(Nat.le_of_ble_eq_true rfl), (Nat.le_of_ble_eq_true rfl)⟩ ⟨by show k + 1 ≤ 652172; omega, by show n + 6 ≤ 7139589; omega⟩ dlaw_647 (fun v9 ws9 h9 => ?_)
  obtain ⟨r9, n9, S9, g9, rfl, hw9⟩ := zU9 (W := fun S9 n9 => mRw ad ae cs (mKof S9 T) (mJof S th) [(ao, .inr (4, [.long n9, s0]))]) h9
  replace hw9 : ws9 = mRw ad ae cs (mKof S9 T) (mJof S th) [(ao, .inr (4, [.long n9, s0]))] := hw9
  subst hw9
  dsimp only [mPush]
  refine r_istore hX dlaw_650 (by decide) rfl ?_
  refine r_aload_n hX dlaw_652 rfl rfl ?_
  refine r_argZ (c := 1) hX hScr rfl rfl (by decide) (by omega) (by omega) dlaw_653 dlaw_654 dlaw_656 dlaw_657 dlaw_658 ?_
  refine r_argZ (c := 2) hX hScr rfl rfl (by decide) (by omega) (by omega) dlaw_659 dlaw_660 dlaw_662 dlaw_663 dlaw_664 ?_
  refine r_ne0Z hX (iZ_rng _) dlaw_665 dlaw_668 dlaw_669 dlaw_672 ?_
  refine r_callV hX (z_X4_ofMoment ad ae cs (mKof S9 T) S th [(ao, .inr (4, [.long n9, s0]))] hS _ (iZ_rng _) _) kv_L_172 14 rfl rfl rfl rfl (Nat.le_of_ble_eq_true rfl) ⟨(Nat.le_of_ble_eq_true rfl), (Nat.le_of_ble_eq_true rfl)⟩ ⟨by show k + 1 + 0 ≤ 652172; omega, by show n + 6 + 0 ≤ 7139589; omega⟩ dlaw_673 (fun _ _ z => False.elim z) (fun v8 ws8 h8 => ?_)
  obtain ⟨r8, th8, S8, g8, rfl, hw8⟩ := zU8 (W := fun S8 th8 => mRw ad ae cs (mKof S9 T) (mJof S8 th8) [(ao, .inr (4, [.long n9, s0]))]) h8
  replace hw8 : ws8 = mRw ad ae cs (mKof S9 T) (mJof S8 th8) [(ao, .inr (4, [.long n9, s0]))] := hw8
  subst hw8
  dsimp only [mPush]
  obtain ⟨e1, e2, hn9, hwf⟩ := zM g9 g8 hS (fun g => hS)
  subst S8
  subst th8
  refine r_istore hX dlaw_676 (by decide) rfl ?_
  refine r_goto (tgt := 1886) hX dlaw_678 (by decide) ?_
  exact r_loc (lv' := [(0, some (.ref b)), (1, some (.ref (ad 0))), (2, some (.ref (ae 0))), (3, some (.ref ao)), (4, some (.int (nI (7 * t))))]) (by exact ⟨rfl, rfl, rfl, rfl, rfl, trivial⟩) (Nat.le_refl _) (Nat.le_refl _) (back S9 T r9 n9 s0 _ _ hwf (by omega) (by omega))
set_option maxHeartbeats 1000000 in
theorem law_z9 {X : mC} {b L : Nat} {xs : Nat → Int32} {ad ae : Nat → Nat} {cs : ClassId × ClassId × ClassId} {S : mS} {T : mT2} {th : Int32} {ao t k n : Nat} {n0 : Int64} {s0 : Value} (hX : mOK X RL code 7 room_1 [] (mTy cs)) (hg : mHas X mNc) (hScr : mScr X b L xs) (hE : mLE X b) (hS : sWF S) (hL : L ≤ 3584) (hi : 7 * t + 6 < L) (hk : k + 100 ≤ 652172) (hn : n + 2500 ≤ 7139589) (back : mBkZ X b ad ae cs ao t k n) : mV X 681 [(0, some (.ref b)), (1, some (.ref (ad 0))), (2, some (.ref (ae 0))), (3, some (.ref ao)), (4, some (.int (nI (7 * t))))] [] (mRw ad ae cs (mKof S T) (mJof S th) [(ao, .inr (4, [.long n0, s0]))]) k n := by
  refine r_aload_n hX dlaw_681 rfl rfl ?_
  refine r_argZ (c := 1) hX hScr rfl rfl (by decide) (by omega) (by omega) dlaw_682 dlaw_683 dlaw_685 dlaw_686 dlaw_687 ?_
  refine r_aload_n hX dlaw_688 rfl rfl ?_
  refine r_callW hX hg (c_L_millis_x ad ae cs (mKof S T) (mJof S th) [] ao n0 s0 _) kh_L_173 rfl rfl (Nat.le_of_ble_eq_true rfl) ⟨(Nat.le_of_ble_eq_true rfl), (Nat.le_of_ble_eq_true rfl)⟩ ⟨by show k + 31 ≤ 652172; omega, by show n + 1506 ≤ 7139589; omega⟩ dlaw_689 (fun v9 ws9 h9 => ?_)
  obtain ⟨r9, n9, s9, rfl, hw9⟩ := h9
  subst hw9
  dsimp only [mPush]
  refine r_istore hX dlaw_692 (by decide) rfl ?_
  refine r_aload_n hX dlaw_694 rfl rfl ?_
  refine r_argZ (c := 1) hX hScr rfl rfl (by decide) (by omega) (by omega) dlaw_695 dlaw_696 dlaw_698 dlaw_699 dlaw_700 ?_
  refine r_callV hX (z_X4_millis ad ae cs (mKof S T) S th [(ao, .inr (4, [.long n9, s9]))] (iZ _)) kv_L_175 14 rfl rfl rfl rfl (Nat.le_of_ble_eq_true rfl) ⟨(Nat.le_of_ble_eq_true rfl), (Nat.le_of_ble_eq_true rfl)⟩ ⟨by show k + 31 + 8 ≤ 652172; omega, by show n + 1506 + 240 ≤ 7139589; omega⟩ dlaw_701 (fun _ _ z => False.elim z) (fun v8 ws8 h8 => ?_)
  obtain ⟨q8, th8, rfl, hw8⟩ := h8
  subst hw8
  dsimp only [mPush]
  refine r_astore hX dlaw_704 (by decide) rfl ?_
  refine r_goto (tgt := 1886) hX dlaw_706 (by decide) ?_
  exact r_loc (lv' := [(0, some (.ref b)), (1, some (.ref (ad 0))), (2, some (.ref (ae 0))), (3, some (.ref ao)), (4, some (.int (nI (7 * t))))]) (by exact ⟨rfl, rfl, rfl, rfl, rfl, trivial⟩) (Nat.le_refl _) (Nat.le_refl _) (back S T th8 n9 s9 _ _ hS (by omega) (by omega))
set_option maxHeartbeats 1000000 in
theorem law_z10 {X : mC} {b L : Nat} {xs : Nat → Int32} {ad ae : Nat → Nat} {cs : ClassId × ClassId × ClassId} {S : mS} {T : mT2} {th : Int32} {ao t k n : Nat} {n0 : Int64} {s0 : Value} (hX : mOK X RL code 7 room_1 [] (mTy cs)) (hg : mHas X mNc) (hScr : mScr X b L xs) (hE : mLE X b) (hS : sWF S) (hL : L ≤ 3584) (hi : 7 * t + 6 < L) (hk : k + 100 ≤ 652172) (hn : n + 2500 ≤ 7139589) (back : mBkZ X b ad ae cs ao t k n) : mV X 709 [(0, some (.ref b)), (1, some (.ref (ad 0))), (2, some (.ref (ae 0))), (3, some (.ref ao)), (4, some (.int (nI (7 * t))))] [] (mRw ad ae cs (mKof S T) (mJof S th) [(ao, .inr (4, [.long n0, s0]))]) k n := by
  refine r_aload_n hX dlaw_709 rfl rfl ?_
  refine r_argZ (c := 1) hX hScr rfl rfl (by decide) (by omega) (by omega) dlaw_710 dlaw_711 dlaw_713 dlaw_714 dlaw_715 ?_
  refine r_argZ (c := 2) hX hScr rfl rfl (by decide) (by omega) (by omega) dlaw_716 dlaw_717 dlaw_719 dlaw_720 dlaw_721 ?_
  refine r_aload_n hX dlaw_722 rfl rfl ?_
  refine r_callW hX hg (z_L_orderMoment ad ae cs S T (mJof S th) [] hS ao n0 s0 _ (iZ_rng _) _ (iZ_rng _)) kh_L_176 rfl rfl (Nat.le_of_ble_eq_true rfl) ⟨(Nat.le_of_ble_eq_true rfl), (Nat.le_of_ble_eq_true rfl)⟩ ⟨by show k + 2 ≤ 652172; omega, by show n + 12 ≤ 7139589; omega⟩ dlaw_723 (fun v9 ws9 h9 => ?_)
  obtain ⟨r9, n9, S9, g9, rfl, hw9⟩ := zU9 (W := fun S9 n9 => mRw ad ae cs (mKof S9 T) (mJof S th) [(ao, .inr (4, [.long n9, s0]))]) h9
  replace hw9 : ws9 = mRw ad ae cs (mKof S9 T) (mJof S th) [(ao, .inr (4, [.long n9, s0]))] := hw9
  subst hw9
  dsimp only [mPush]
  refine r_istore hX dlaw_726 (by decide) rfl ?_
  refine r_aload_n hX dlaw_728 rfl rfl ?_
  refine r_argZ (c := 1) hX hScr rfl rfl (by decide) (by omega) (by omega) dlaw_729 dlaw_730 dlaw_732 dlaw_733 dlaw_734 ?_
  refine r_argZ (c := 2) hX hScr rfl rfl (by decide) (by omega) (by omega) dlaw_735 dlaw_736 dlaw_738 dlaw_739 dlaw_740 ?_
  refine r_callV hX (z_X4_orderMoment ad ae cs (mKof S9 T) S th [(ao, .inr (4, [.long n9, s0]))] hS _ (iZ_rng _) _ (iZ_rng _)) kv_L_178 14 rfl rfl rfl rfl (Nat.le_of_ble_eq_true rfl) ⟨(Nat.le_of_ble_eq_true rfl), (Nat.le_of_ble_eq_true rfl)⟩ ⟨by show k + 2 + 0 ≤ 652172; omega, by show n + 12 + 0 ≤ 7139589; omega⟩ dlaw_741 (fun _ _ z => False.elim z) (fun v8 ws8 h8 => ?_)
  obtain ⟨r8, th8, S8, g8, rfl, hw8⟩ := zU8 (W := fun S8 th8 => mRw ad ae cs (mKof S9 T) (mJof S8 th8) [(ao, .inr (4, [.long n9, s0]))]) h8
  replace hw8 : ws8 = mRw ad ae cs (mKof S9 T) (mJof S8 th8) [(ao, .inr (4, [.long n9, s0]))] := hw8
  subst hw8
  dsimp only [mPush]
  obtain ⟨e1, e2, hn9, hwf⟩ := zM g9 g8 hS (fun g => hS)
  subst S8
  subst th8
  refine r_istore hX dlaw_744 (by decide) rfl ?_
  refine r_goto (tgt := 1886) hX dlaw_746 (by decide) ?_
  exact r_loc (lv' := [(0, some (.ref b)), (1, some (.ref (ad 0))), (2, some (.ref (ae 0))), (3, some (.ref ao)), (4, some (.int (nI (7 * t))))]) (by exact ⟨rfl, rfl, rfl, rfl, rfl, trivial⟩) (Nat.le_refl _) (Nat.le_refl _) (back S9 T r9 n9 s0 _ _ hwf (by omega) (by omega))
set_option maxHeartbeats 1000000 in
theorem law_z11 {X : mC} {b L : Nat} {xs : Nat → Int32} {ad ae : Nat → Nat} {cs : ClassId × ClassId × ClassId} {S : mS} {T : mT2} {th : Int32} {ao t k n : Nat} {n0 : Int64} {s0 : Value} (hX : mOK X RL code 7 room_1 [] (mTy cs)) (hg : mHas X mNc) (hScr : mScr X b L xs) (hE : mLE X b) (hS : sWF S) (hL : L ≤ 3584) (hi : 7 * t + 6 < L) (hk : k + 100 ≤ 652172) (hn : n + 2500 ≤ 7139589) (back : mBkZ X b ad ae cs ao t k n) : mV X 749 [(0, some (.ref b)), (1, some (.ref (ad 0))), (2, some (.ref (ae 0))), (3, some (.ref ao)), (4, some (.int (nI (7 * t))))] [] (mRw ad ae cs (mKof S T) (mJof S th) [(ao, .inr (4, [.long n0, s0]))]) k n := by
  refine r_aload_n hX dlaw_749 rfl rfl ?_
  refine r_argZ (c := 1) hX hScr rfl rfl (by decide) (by omega) (by omega) dlaw_750 dlaw_751 dlaw_753 dlaw_754 dlaw_755 ?_
  refine r_argZ (c := 2) hX hScr rfl rfl (by decide) (by omega) (by omega) dlaw_756 dlaw_757 dlaw_759 dlaw_760 dlaw_761 ?_
  refine r_argZ (c := 3) hX hScr rfl rfl (by decide) (by omega) (by omega) dlaw_762 dlaw_763 dlaw_765 dlaw_766 dlaw_767 ?_
  refine r_aload_n hX dlaw_768 rfl rfl ?_
  refine r_callW hX hg (z_L_isMoment ad ae cs S T (mJof S th) [] hS ao n0 s0 _ (iZ_rng _) _ (iZ_rng _) _ (iZ_rng _)) kh_L_179 rfl rfl (Nat.le_of_ble_eq_true rfl) ⟨(Nat.le_of_ble_eq_true rfl), (Nat.le_of_ble_eq_true rfl)⟩ ⟨by show k + 3 ≤ 652172; omega, by show n + 18 ≤ 7139589; omega⟩ dlaw_769 (fun v9 ws9 h9 => ?_)
  obtain ⟨r9, n9, S9, g9, rfl, hw9⟩ := zU9 (W := fun S9 n9 => mRw ad ae cs (mKof S9 T) (mJof S th) [(ao, .inr (4, [.long n9, s0]))]) h9
  replace hw9 : ws9 = mRw ad ae cs (mKof S9 T) (mJof S th) [(ao, .inr (4, [.long n9, s0]))] := hw9
  subst hw9
  dsimp only [mPush]
  refine r_istore hX dlaw_772 (by decide) rfl ?_
  refine r_aload_n hX dlaw_774 rfl rfl ?_
  refine r_argZ (c := 1) hX hScr rfl rfl (by decide) (by omega) (by omega) dlaw_775 dlaw_776 dlaw_778 dlaw_779 dlaw_780 ?_
  refine r_argZ (c := 2) hX hScr rfl rfl (by decide) (by omega) (by omega) dlaw_781 dlaw_782 dlaw_784 dlaw_785 dlaw_786 ?_
  refine r_argZ (c := 3) hX hScr rfl rfl (by decide) (by omega) (by omega) dlaw_787 dlaw_788 dlaw_790 dlaw_791 dlaw_792 ?_
  refine r_callV hX (z_X4_isMoment ad ae cs (mKof S9 T) S th [(ao, .inr (4, [.long n9, s0]))] hS _ (iZ_rng _) _ (iZ_rng _) _ (iZ_rng _)) kv_L_181 14 rfl rfl rfl rfl (Nat.le_of_ble_eq_true rfl) ⟨(Nat.le_of_ble_eq_true rfl), (Nat.le_of_ble_eq_true rfl)⟩ ⟨by show k + 3 + 0 ≤ 652172; omega, by show n + 18 + 0 ≤ 7139589; omega⟩ dlaw_793 (fun _ _ z => False.elim z) (fun v8 ws8 h8 => ?_)
  obtain ⟨r8, th8, S8, g8, rfl, hw8⟩ := zU8 (W := fun S8 th8 => mRw ad ae cs (mKof S9 T) (mJof S8 th8) [(ao, .inr (4, [.long n9, s0]))]) h8
  replace hw8 : ws8 = mRw ad ae cs (mKof S9 T) (mJof S8 th8) [(ao, .inr (4, [.long n9, s0]))] := hw8
  subst hw8
  dsimp only [mPush]
  obtain ⟨e1, e2, hn9, hwf⟩ := zM g9 g8 hS (fun g => hS)
  subst S8
  subst th8
  refine r_istore hX dlaw_796 (by decide) rfl ?_
  refine r_goto (tgt := 1886) hX dlaw_798 (by decide) ?_
  exact r_loc (lv' := [(0, some (.ref b)), (1, some (.ref (ad 0))), (2, some (.ref (ae 0))), (3, some (.ref ao)), (4, some (.int (nI (7 * t))))]) (by exact ⟨rfl, rfl, rfl, rfl, rfl, trivial⟩) (Nat.le_refl _) (Nat.le_refl _) (back S9 T r9 n9 s0 _ _ hwf (by omega) (by omega))
set_option maxHeartbeats 1000000 in
theorem law_z12 {X : mC} {b L : Nat} {xs : Nat → Int32} {ad ae : Nat → Nat} {cs : ClassId × ClassId × ClassId} {S : mS} {T : mT2} {th : Int32} {ao t k n : Nat} {n0 : Int64} {s0 : Value} (hX : mOK X RL code 7 room_1 [] (mTy cs)) (hg : mHas X mNc) (hScr : mScr X b L xs) (hE : mLE X b) (hS : sWF S) (hL : L ≤ 3584) (hi : 7 * t + 6 < L) (hk : k + 100 ≤ 652172) (hn : n + 2500 ≤ 7139589) (back : mBkZ X b ad ae cs ao t k n) : mV X 801 [(0, some (.ref b)), (1, some (.ref (ad 0))), (2, some (.ref (ae 0))), (3, some (.ref ao)), (4, some (.int (nI (7 * t))))] [] (mRw ad ae cs (mKof S T) (mJof S th) [(ao, .inr (4, [.long n0, s0]))]) k n := by
  refine r_aload_n hX dlaw_801 rfl rfl ?_
  refine r_argZ (c := 1) hX hScr rfl rfl (by decide) (by omega) (by omega) dlaw_802 dlaw_803 dlaw_805 dlaw_806 dlaw_807 ?_
  refine r_argZ (c := 2) hX hScr rfl rfl (by decide) (by omega) (by omega) dlaw_808 dlaw_809 dlaw_811 dlaw_812 dlaw_813 ?_
  refine r_aload_n hX dlaw_814 rfl rfl ?_
  refine r_callW hX hg (z_L_copyMoment ad ae cs S T (mJof S th) [] hS ao n0 s0 _ (iZ_rng _) _ (iZ_rng _)) kh_L_182 rfl rfl (Nat.le_of_ble_eq_true rfl) ⟨(Nat.le_of_ble_eq_true rfl), (Nat.le_of_ble_eq_true rfl)⟩ ⟨by show k + 2 ≤ 652172; omega, by show n + 12 ≤ 7139589; omega⟩ dlaw_815 (fun v9 ws9 h9 => ?_)
  obtain ⟨r9, n9, S9, g9, rfl, hw9⟩ := zU9 (W := fun S9 n9 => mRw ad ae cs (mKof S9 T) (mJof S th) [(ao, .inr (4, [.long n9, s0]))]) h9
  replace hw9 : ws9 = mRw ad ae cs (mKof S9 T) (mJof S th) [(ao, .inr (4, [.long n9, s0]))] := hw9
  subst hw9
  dsimp only [mPush]
  refine r_istore hX dlaw_818 (by decide) rfl ?_
  refine r_aload_n hX dlaw_820 rfl rfl ?_
  refine r_argZ (c := 1) hX hScr rfl rfl (by decide) (by omega) (by omega) dlaw_821 dlaw_822 dlaw_824 dlaw_825 dlaw_826 ?_
  refine r_argZ (c := 2) hX hScr rfl rfl (by decide) (by omega) (by omega) dlaw_827 dlaw_828 dlaw_830 dlaw_831 dlaw_832 ?_
  refine r_callV hX (z_X4_copyMoment ad ae cs (mKof S9 T) S th [(ao, .inr (4, [.long n9, s0]))] hS _ (iZ_rng _) _ (iZ_rng _)) kv_L_184 14 rfl rfl rfl rfl (Nat.le_of_ble_eq_true rfl) ⟨(Nat.le_of_ble_eq_true rfl), (Nat.le_of_ble_eq_true rfl)⟩ ⟨by show k + 2 + 0 ≤ 652172; omega, by show n + 12 + 0 ≤ 7139589; omega⟩ dlaw_833 (fun _ _ z => False.elim z) (fun v8 ws8 h8 => ?_)
  obtain ⟨r8, th8, S8, g8, rfl, hw8⟩ := zU8 (W := fun S8 th8 => mRw ad ae cs (mKof S9 T) (mJof S8 th8) [(ao, .inr (4, [.long n9, s0]))]) h8
  replace hw8 : ws8 = mRw ad ae cs (mKof S9 T) (mJof S8 th8) [(ao, .inr (4, [.long n9, s0]))] := hw8
  subst hw8
  dsimp only [mPush]
  obtain ⟨e1, e2, hn9, hwf⟩ := zM g9 g8 hS (fun g => hS.oNum)
  subst S8
  subst th8
  refine r_istore hX dlaw_836 (by decide) rfl ?_
  refine r_goto (tgt := 1886) hX dlaw_838 (by decide) ?_
  exact r_loc (lv' := [(0, some (.ref b)), (1, some (.ref (ad 0))), (2, some (.ref (ae 0))), (3, some (.ref ao)), (4, some (.int (nI (7 * t))))]) (by exact ⟨rfl, rfl, rfl, rfl, rfl, trivial⟩) (Nat.le_refl _) (Nat.le_refl _) (back S9 T r9 n9 s0 _ _ hwf (by omega) (by omega))
set_option maxHeartbeats 1000000 in
theorem law_z13 {X : mC} {b L : Nat} {xs : Nat → Int32} {ad ae : Nat → Nat} {cs : ClassId × ClassId × ClassId} {S : mS} {T : mT2} {th : Int32} {ao t k n : Nat} {n0 : Int64} {s0 : Value} (hX : mOK X RL code 7 room_1 [] (mTy cs)) (hg : mHas X mNc) (hScr : mScr X b L xs) (hE : mLE X b) (hS : sWF S) (hL : L ≤ 3584) (hi : 7 * t + 6 < L) (hk : k + 100 ≤ 652172) (hn : n + 2500 ≤ 7139589) (back : mBkZ X b ad ae cs ao t k n) : mV X 841 [(0, some (.ref b)), (1, some (.ref (ad 0))), (2, some (.ref (ae 0))), (3, some (.ref ao)), (4, some (.int (nI (7 * t))))] [] (mRw ad ae cs (mKof S T) (mJof S th) [(ao, .inr (4, [.long n0, s0]))]) k n := by
  refine r_aload_n hX dlaw_841 rfl rfl ?_
  refine r_argZ (c := 1) hX hScr rfl rfl (by decide) (by omega) (by omega) dlaw_842 dlaw_843 dlaw_845 dlaw_846 dlaw_847 ?_
  refine r_argZ (c := 2) hX hScr rfl rfl (by decide) (by omega) (by omega) dlaw_848 dlaw_849 dlaw_851 dlaw_852 dlaw_853 ?_
  refine r_argZ (c := 3) hX hScr rfl rfl (by decide) (by omega) (by omega) dlaw_854 dlaw_855 dlaw_857 dlaw_858 dlaw_859 ?_
  refine r_argZ (c := 4) hX hScr rfl rfl (by decide) (by omega) (by omega) dlaw_860 dlaw_861 dlaw_863 dlaw_864 dlaw_865 ?_
  refine r_argZ (c := 5) hX hScr rfl rfl (by decide) (by omega) (by omega) dlaw_866 dlaw_867 dlaw_869 dlaw_870 dlaw_871 ?_
  refine r_argBZ (c := 6) hX hScr rfl rfl (by decide) (by omega) (by omega) dlaw_872 dlaw_873 dlaw_875 dlaw_877 dlaw_878 ?_
  refine r_aload_n hX dlaw_879 rfl rfl ?_
  refine r_callW hX hg (z_L_date ad ae cs S T (mJof S th) [] hS ao n0 s0 _ (iZ_rng _) _ (iZ_rng _) _ (iZ_rng _) _ (iZ_rng _) _ (iZ_rng _) _ (iZ_rng _)) kh_L_185 rfl rfl (Nat.le_of_ble_eq_true rfl) ⟨(Nat.le_of_ble_eq_true rfl), (Nat.le_of_ble_eq_true rfl)⟩ ⟨by show k + 5 ≤ 652172; omega, by show n + 30 ≤ 7139589; omega⟩ dlaw_880 (fun v9 ws9 h9 => ?_)
  obtain ⟨r9, n9, S9, g9, rfl, hw9⟩ := zU9 (W := fun S9 n9 => mRw ad ae cs (mKof S9 T) (mJof S th) [(ao, .inr (4, [.long n9, s0]))]) h9
  replace hw9 : ws9 = mRw ad ae cs (mKof S9 T) (mJof S th) [(ao, .inr (4, [.long n9, s0]))] := hw9
  subst hw9
  dsimp only [mPush]
  refine r_istore hX dlaw_883 (by decide) rfl ?_
  refine r_aload_n hX dlaw_885 rfl rfl ?_
  refine r_argZ (c := 1) hX hScr rfl rfl (by decide) (by omega) (by omega) dlaw_886 dlaw_887 dlaw_889 dlaw_890 dlaw_891 ?_
  refine r_argZ (c := 2) hX hScr rfl rfl (by decide) (by omega) (by omega) dlaw_892 dlaw_893 dlaw_895 dlaw_896 dlaw_897 ?_
  refine r_argZ (c := 3) hX hScr rfl rfl (by decide) (by omega) (by omega) dlaw_898 dlaw_899 dlaw_901 dlaw_902 dlaw_903 ?_
  refine r_argZ (c := 4) hX hScr rfl rfl (by decide) (by omega) (by omega) dlaw_904 dlaw_905 dlaw_907 dlaw_908 dlaw_909 ?_
  refine r_argZ (c := 5) hX hScr rfl rfl (by decide) (by omega) (by omega) dlaw_910 dlaw_911 dlaw_913 dlaw_914 dlaw_915 ?_
  refine r_argBZ (c := 6) hX hScr rfl rfl (by decide) (by omega) (by omega) dlaw_916 dlaw_917 dlaw_919 dlaw_921 dlaw_922 ?_
  refine r_callV hX (z_X4_date ad ae cs (mKof S9 T) S th [(ao, .inr (4, [.long n9, s0]))] hS _ (iZ_rng _) _ (iZ_rng _) _ (iZ_rng _) _ (iZ_rng _) _ (iZ_rng _) _ (iZ_rng _)) kv_L_188 14 rfl rfl rfl rfl (Nat.le_of_ble_eq_true rfl) ⟨(Nat.le_of_ble_eq_true rfl), (Nat.le_of_ble_eq_true rfl)⟩ ⟨by show k + 5 + 0 ≤ 652172; omega, by show n + 30 + 0 ≤ 7139589; omega⟩ dlaw_923 (fun _ _ z => False.elim z) (fun v8 ws8 h8 => ?_)
  obtain ⟨r8, th8, S8, g8, rfl, hw8⟩ := zU8 (W := fun S8 th8 => mRw ad ae cs (mKof S9 T) (mJof S8 th8) [(ao, .inr (4, [.long n9, s0]))]) h8
  replace hw8 : ws8 = mRw ad ae cs (mKof S9 T) (mJof S8 th8) [(ao, .inr (4, [.long n9, s0]))] := hw8
  subst hw8
  dsimp only [mPush]
  obtain ⟨e1, e2, hn9, hwf⟩ := zM g9 g8 hS (fun g => wf_oDate hS (by omega) g.2.2.2 (hS.1 (((xs (7 * t + 6)).toInt).toNat) (by omega)))
  subst S8
  subst th8
  refine r_istore hX dlaw_926 (by decide) rfl ?_
  refine r_goto (tgt := 1886) hX dlaw_928 (by decide) ?_
  exact r_loc (lv' := [(0, some (.ref b)), (1, some (.ref (ad 0))), (2, some (.ref (ae 0))), (3, some (.ref ao)), (4, some (.int (nI (7 * t))))]) (by exact ⟨rfl, rfl, rfl, rfl, rfl, trivial⟩) (Nat.le_refl _) (Nat.le_refl _) (back S9 T r9 n9 s0 _ _ hwf (by omega) (by omega))
set_option maxHeartbeats 1000000 in
theorem law_z14 {X : mC} {b L : Nat} {xs : Nat → Int32} {ad ae : Nat → Nat} {cs : ClassId × ClassId × ClassId} {S : mS} {T : mT2} {th : Int32} {ao t k n : Nat} {n0 : Int64} {s0 : Value} (hX : mOK X RL code 7 room_1 [] (mTy cs)) (hg : mHas X mNc) (hScr : mScr X b L xs) (hE : mLE X b) (hS : sWF S) (hL : L ≤ 3584) (hi : 7 * t + 6 < L) (hk : k + 100 ≤ 652172) (hn : n + 2500 ≤ 7139589) (back : mBkZ X b ad ae cs ao t k n) : mV X 931 [(0, some (.ref b)), (1, some (.ref (ad 0))), (2, some (.ref (ae 0))), (3, some (.ref ao)), (4, some (.int (nI (7 * t))))] [] (mRw ad ae cs (mKof S T) (mJof S th) [(ao, .inr (4, [.long n0, s0]))]) k n := by
  refine r_aload_n hX dlaw_931 rfl rfl ?_
  refine r_argZ (c := 1) hX hScr rfl rfl (by decide) (by omega) (by omega) dlaw_932 dlaw_933 dlaw_935 dlaw_936 dlaw_937 ?_
  refine r_argZ (c := 2) hX hScr rfl rfl (by decide) (by omega) (by omega) dlaw_938 dlaw_939 dlaw_941 dlaw_942 dlaw_943 ?_
  refine r_argZ (c := 3) hX hScr rfl rfl (by decide) (by omega) (by omega) dlaw_944 dlaw_945 dlaw_947 dlaw_948 dlaw_949 ?_
  refine r_aload_n hX dlaw_950 rfl rfl ?_
  refine r_callW hX hg (z_L_dateOf ad ae cs S T (mJof S th) [] hS ao n0 s0 _ (iZ_rng _) _ (iZ_rng _) _ (iZ_rng _)) kh_L_189 rfl rfl (Nat.le_of_ble_eq_true rfl) ⟨(Nat.le_of_ble_eq_true rfl), (Nat.le_of_ble_eq_true rfl)⟩ ⟨by show k + 3 ≤ 652172; omega, by show n + 18 ≤ 7139589; omega⟩ dlaw_951 (fun v9 ws9 h9 => ?_)
  obtain ⟨r9, n9, S9, g9, rfl, hw9⟩ := zU9 (W := fun S9 n9 => mRw ad ae cs (mKof S9 T) (mJof S th) [(ao, .inr (4, [.long n9, s0]))]) h9
  replace hw9 : ws9 = mRw ad ae cs (mKof S9 T) (mJof S th) [(ao, .inr (4, [.long n9, s0]))] := hw9
  subst hw9
  dsimp only [mPush]
  refine r_istore hX dlaw_954 (by decide) rfl ?_
  refine r_aload_n hX dlaw_956 rfl rfl ?_
  refine r_argZ (c := 1) hX hScr rfl rfl (by decide) (by omega) (by omega) dlaw_957 dlaw_958 dlaw_960 dlaw_961 dlaw_962 ?_
  refine r_argZ (c := 2) hX hScr rfl rfl (by decide) (by omega) (by omega) dlaw_963 dlaw_964 dlaw_966 dlaw_967 dlaw_968 ?_
  refine r_argZ (c := 3) hX hScr rfl rfl (by decide) (by omega) (by omega) dlaw_969 dlaw_970 dlaw_972 dlaw_973 dlaw_974 ?_
  refine r_callV hX (z_X4_dateOf ad ae cs (mKof S9 T) S th [(ao, .inr (4, [.long n9, s0]))] hS _ (iZ_rng _) _ (iZ_rng _) _ (iZ_rng _)) kv_L_191 14 rfl rfl rfl rfl (Nat.le_of_ble_eq_true rfl) ⟨(Nat.le_of_ble_eq_true rfl), (Nat.le_of_ble_eq_true rfl)⟩ ⟨by show k + 3 + 0 ≤ 652172; omega, by show n + 18 + 0 ≤ 7139589; omega⟩ dlaw_975 (fun _ _ z => False.elim z) (fun v8 ws8 h8 => ?_)
  obtain ⟨r8, th8, S8, g8, rfl, hw8⟩ := zU8 (W := fun S8 th8 => mRw ad ae cs (mKof S9 T) (mJof S8 th8) [(ao, .inr (4, [.long n9, s0]))]) h8
  replace hw8 : ws8 = mRw ad ae cs (mKof S9 T) (mJof S8 th8) [(ao, .inr (4, [.long n9, s0]))] := hw8
  subst hw8
  dsimp only [mPush]
  obtain ⟨e1, e2, hn9, hwf⟩ := zM g9 g8 hS (fun g => hS.oLoc (by omega) (by show 0 ≤ _ ∧ _ ≤ 999999999; omega) (hS.1 (((xs (7 * t + 3)).toInt).toNat) (by omega)))
  subst S8
  subst th8
  refine r_istore hX dlaw_978 (by decide) rfl ?_
  refine r_goto (tgt := 1886) hX dlaw_980 (by decide) ?_
  exact r_loc (lv' := [(0, some (.ref b)), (1, some (.ref (ad 0))), (2, some (.ref (ae 0))), (3, some (.ref ao)), (4, some (.int (nI (7 * t))))]) (by exact ⟨rfl, rfl, rfl, rfl, rfl, trivial⟩) (Nat.le_refl _) (Nat.le_refl _) (back S9 T r9 n9 s0 _ _ hwf (by omega) (by omega))
set_option maxHeartbeats 1000000 in
theorem law_z15 {X : mC} {b L : Nat} {xs : Nat → Int32} {ad ae : Nat → Nat} {cs : ClassId × ClassId × ClassId} {S : mS} {T : mT2} {th : Int32} {ao t k n : Nat} {n0 : Int64} {s0 : Value} (hX : mOK X RL code 7 room_1 [] (mTy cs)) (hg : mHas X mNc) (hScr : mScr X b L xs) (hE : mLE X b) (hS : sWF S) (hL : L ≤ 3584) (hi : 7 * t + 6 < L) (hk : k + 100 ≤ 652172) (hn : n + 2500 ≤ 7139589) (back : mBkZ X b ad ae cs ao t k n) : mV X 983 [(0, some (.ref b)), (1, some (.ref (ad 0))), (2, some (.ref (ae 0))), (3, some (.ref ao)), (4, some (.int (nI (7 * t))))] [] (mRw ad ae cs (mKof S T) (mJof S th) [(ao, .inr (4, [.long n0, s0]))]) k n := by
  refine r_aload_n hX dlaw_983 rfl rfl ?_
  refine r_argZ (c := 1) hX hScr rfl rfl (by decide) (by omega) (by omega) dlaw_984 dlaw_985 dlaw_987 dlaw_988 dlaw_989 ?_
  refine r_argZ (c := 2) hX hScr rfl rfl (by decide) (by omega) (by omega) dlaw_990 dlaw_991 dlaw_993 dlaw_994 dlaw_995 ?_
  refine r_argZ (c := 3) hX hScr rfl rfl (by decide) (by omega) (by omega) dlaw_996 dlaw_997 dlaw_999 dlaw_1000 dlaw_1001 ?_
  refine r_argZ (c := 4) hX hScr rfl rfl (by decide) (by omega) (by omega) dlaw_1002 dlaw_1003 dlaw_1005 dlaw_1006 dlaw_1007 ?_
  refine r_ne0Z hX (iZ_rng _) dlaw_1008 dlaw_1011 dlaw_1012 dlaw_1015 ?_
  refine r_aload_n hX dlaw_1016 rfl rfl ?_
  refine r_callW hX hg (z_L_moveDate ad ae cs S T (mJof S th) [] hS ao n0 s0 _ (iZ_rng _) _ (iZ_rng _) _ (iZ_rng _) _) kh_L_192 rfl rfl (Nat.le_of_ble_eq_true rfl) ⟨(Nat.le_of_ble_eq_true rfl), (Nat.le_of_ble_eq_true rfl)⟩ ⟨by show k + 2 ≤ 652172; omega, by show n + 12 ≤ 7139589; omega⟩ dlaw_1017 (fun v9 ws9 h9 => ?_)
  obtain ⟨r9, n9, S9, g9, rfl, hw9⟩ := zU9 (W := fun S9 n9 => mRw ad ae cs (mKof S9 T) (mJof S th) [(ao, .inr (4, [.long n9, s0]))]) h9
  replace hw9 : ws9 = mRw ad ae cs (mKof S9 T) (mJof S th) [(ao, .inr (4, [.long n9, s0]))] := hw9
  subst hw9
  dsimp only [mPush]
  refine r_istore hX dlaw_1020 (by decide) rfl ?_
  refine r_aload_n hX dlaw_1022 rfl rfl ?_
  refine r_argZ (c := 1) hX hScr rfl rfl (by decide) (by omega) (by omega) dlaw_1023 dlaw_1024 dlaw_1026 dlaw_1027 dlaw_1028 ?_
  refine r_argZ (c := 2) hX hScr rfl rfl (by decide) (by omega) (by omega) dlaw_1029 dlaw_1030 dlaw_1032 dlaw_1033 dlaw_1034 ?_
  refine r_argZ (c := 3) hX hScr rfl rfl (by decide) (by omega) (by omega) dlaw_1035 dlaw_1036 dlaw_1038 dlaw_1039 dlaw_1040 ?_
  refine r_argZ (c := 4) hX hScr rfl rfl (by decide) (by omega) (by omega) dlaw_1041 dlaw_1042 dlaw_1044 dlaw_1045 dlaw_1046 ?_
  refine r_ne0Z hX (iZ_rng _) dlaw_1047 dlaw_1050 dlaw_1051 dlaw_1054 ?_
  refine r_callV hX (z_X4_moveDate ad ae cs (mKof S9 T) S th [(ao, .inr (4, [.long n9, s0]))] hS _ (iZ_rng _) _ (iZ_rng _) _ (iZ_rng _) _) kv_L_194 14 rfl rfl rfl rfl (Nat.le_of_ble_eq_true rfl) ⟨(Nat.le_of_ble_eq_true rfl), (Nat.le_of_ble_eq_true rfl)⟩ ⟨by show k + 2 + 1 ≤ 652172; omega, by show n + 12 + 4 ≤ 7139589; omega⟩ dlaw_1055 (fun _ _ z => False.elim z) (fun v8 ws8 h8 => ?_)
  obtain ⟨r8, th8, S8, g8, rfl, hw8⟩ := zU8 (W := fun S8 th8 => mRw ad ae cs (mKof S9 T) (mJof S8 th8) [(ao, .inr (4, [.long n9, s0]))]) h8
  replace hw8 : ws8 = mRw ad ae cs (mKof S9 T) (mJof S8 th8) [(ao, .inr (4, [.long n9, s0]))] := hw8
  subst hw8
  dsimp only [mPush]
  obtain ⟨e1, e2, hn9, hwf⟩ := zM g9 g8 hS (fun g => wf_oMv hS (by omega))
  subst S8
  subst th8
  refine r_istore hX dlaw_1058 (by decide) rfl ?_
  refine r_goto (tgt := 1886) hX dlaw_1060 (by decide) ?_
  exact r_loc (lv' := [(0, some (.ref b)), (1, some (.ref (ad 0))), (2, some (.ref (ae 0))), (3, some (.ref ao)), (4, some (.int (nI (7 * t))))]) (by exact ⟨rfl, rfl, rfl, rfl, rfl, trivial⟩) (Nat.le_refl _) (Nat.le_refl _) (back S9 T r9 n9 s0 _ _ hwf (by omega) (by omega))
set_option maxHeartbeats 1000000 in
theorem law_z16 {X : mC} {b L : Nat} {xs : Nat → Int32} {ad ae : Nat → Nat} {cs : ClassId × ClassId × ClassId} {S : mS} {T : mT2} {th : Int32} {ao t k n : Nat} {n0 : Int64} {s0 : Value} (hX : mOK X RL code 7 room_1 [] (mTy cs)) (hg : mHas X mNc) (hScr : mScr X b L xs) (hE : mLE X b) (hS : sWF S) (hL : L ≤ 3584) (hi : 7 * t + 6 < L) (hk : k + 100 ≤ 652172) (hn : n + 2500 ≤ 7139589) (back : mBkZ X b ad ae cs ao t k n) : mV X 1063 [(0, some (.ref b)), (1, some (.ref (ad 0))), (2, some (.ref (ae 0))), (3, some (.ref ao)), (4, some (.int (nI (7 * t))))] [] (mRw ad ae cs (mKof S T) (mJof S th) [(ao, .inr (4, [.long n0, s0]))]) k n := by
  refine r_aload_n hX dlaw_1063 rfl rfl ?_
  refine r_argZ (c := 1) hX hScr rfl rfl (by decide) (by omega) (by omega) dlaw_1064 dlaw_1065 dlaw_1067 dlaw_1068 dlaw_1069 ?_
  refine r_argZ (c := 2) hX hScr rfl rfl (by decide) (by omega) (by omega) dlaw_1070 dlaw_1071 dlaw_1073 dlaw_1074 dlaw_1075 ?_
  refine r_argZ (c := 3) hX hScr rfl rfl (by decide) (by omega) (by omega) dlaw_1076 dlaw_1077 dlaw_1079 dlaw_1080 dlaw_1081 ?_
  refine r_aload_n hX dlaw_1082 rfl rfl ?_
  refine r_callW hX hg (z_L_set ad ae cs S T (mJof S th) [] hS ao n0 s0 _ (iZ_rng _) _ (iZ_rng _) _ (iZ_rng _)) kh_L_195 rfl rfl (Nat.le_of_ble_eq_true rfl) ⟨(Nat.le_of_ble_eq_true rfl), (Nat.le_of_ble_eq_true rfl)⟩ ⟨by show k + 2 ≤ 652172; omega, by show n + 12 ≤ 7139589; omega⟩ dlaw_1083 (fun v9 ws9 h9 => ?_)
  obtain ⟨r9, n9, S9, g9, rfl, hw9⟩ := zU9 (W := fun S9 n9 => mRw ad ae cs (mKof S9 T) (mJof S th) [(ao, .inr (4, [.long n9, s0]))]) h9
  replace hw9 : ws9 = mRw ad ae cs (mKof S9 T) (mJof S th) [(ao, .inr (4, [.long n9, s0]))] := hw9
  subst hw9
  dsimp only [mPush]
  refine r_istore hX dlaw_1086 (by decide) rfl ?_
  refine r_aload_n hX dlaw_1088 rfl rfl ?_
  refine r_argZ (c := 1) hX hScr rfl rfl (by decide) (by omega) (by omega) dlaw_1089 dlaw_1090 dlaw_1092 dlaw_1093 dlaw_1094 ?_
  refine r_argZ (c := 2) hX hScr rfl rfl (by decide) (by omega) (by omega) dlaw_1095 dlaw_1096 dlaw_1098 dlaw_1099 dlaw_1100 ?_
  refine r_argZ (c := 3) hX hScr rfl rfl (by decide) (by omega) (by omega) dlaw_1101 dlaw_1102 dlaw_1104 dlaw_1105 dlaw_1106 ?_
  refine r_callV hX (z_X4_set ad ae cs (mKof S9 T) S th [(ao, .inr (4, [.long n9, s0]))] hS _ (iZ_rng _) _ (iZ_rng _) _ (iZ_rng _)) kv_L_197 14 rfl rfl rfl rfl (Nat.le_of_ble_eq_true rfl) ⟨(Nat.le_of_ble_eq_true rfl), (Nat.le_of_ble_eq_true rfl)⟩ ⟨by show k + 2 + 1 ≤ 652172; omega, by show n + 12 + 4 ≤ 7139589; omega⟩ dlaw_1107 (fun _ _ z => False.elim z) (fun v8 ws8 h8 => ?_)
  obtain ⟨r8, th8, S8, g8, rfl, hw8⟩ := zU8 (W := fun S8 th8 => mRw ad ae cs (mKof S9 T) (mJof S8 th8) [(ao, .inr (4, [.long n9, s0]))]) h8
  replace hw8 : ws8 = mRw ad ae cs (mKof S9 T) (mJof S8 th8) [(ao, .inr (4, [.long n9, s0]))] := hw8
  subst hw8
  dsimp only [mPush]
  obtain ⟨e1, e2, hn9, hwf⟩ := zM g9 g8 hS (fun g => wf_oSet hS (by omega))
  subst S8
  subst th8
  refine r_istore hX dlaw_1110 (by decide) rfl ?_
  refine r_goto (tgt := 1886) hX dlaw_1112 (by decide) ?_
  exact r_loc (lv' := [(0, some (.ref b)), (1, some (.ref (ad 0))), (2, some (.ref (ae 0))), (3, some (.ref ao)), (4, some (.int (nI (7 * t))))]) (by exact ⟨rfl, rfl, rfl, rfl, rfl, trivial⟩) (Nat.le_refl _) (Nat.le_refl _) (back S9 T r9 n9 s0 _ _ hwf (by omega) (by omega))

