-- 82 zcase
section
/-! The law's cases, exact. (Rows by a program of this repository.) -/
/-- the loop goes on behind a case -/
def mBkZ (X : mC) (b : Nat) (ad ae : Nat → Nat) (cs : ClassId × ClassId × ClassId) (ao t k n : Nat) : Prop := ∀ (S' : mS) (T' : mT2) (th' : Int32) (n1 : Int64) (s1 : Value) (k' n' : Nat), sWF S' → k' ≤ k + 100 → n' ≤ n + 2500 → mV X 1857 [(0, some (.ref b)), (1, some (.ref (ad 0))), (2, some (.ref (ae 0))), (3, some (.ref ao)), (4, some (.int (nI (7 * t))))] [] (mRw ad ae cs (mKof S' T') (mJof S' th') [(ao, .inr (4, [.long n1, s1]))]) k' n'
set_option maxHeartbeats 1000000 in
theorem law_z0 {X : mC} {b L : Nat} {xs : Nat → Int32} {ad ae : Nat → Nat} {cs : ClassId × ClassId × ClassId} {S : mS} {T : mT2} {th : Int32} {ao t k n : Nat} {n0 : Int64} {s0 : Value} (hX : mOK X RL code 7 room_1 [] (mTy cs)) (hg : mHas X mNc) (hScr : mScr X b L xs) (hE : mLE X b) (hS : sWF S) (hL : L ≤ 3584) (hi : 7 * t + 6 < L) (hk : k + 100 ≤ 652172) (hn : n + 2500 ≤ 7139589) (back : mBkZ X b ad ae cs ao t k n) : mV X 200 [(0, some (.ref b)), (1, some (.ref (ad 0))), (2, some (.ref (ae 0))), (3, some (.ref ao)), (4, some (.int (nI (7 * t))))] [] (mRw ad ae cs (mKof S T) (mJof S th) [(ao, .inr (4, [.long n0, s0]))]) k n := by
  refine r_aload_n hX dlaw_200 rfl rfl ?_
  refine r_argZ (c := 1) hX hScr rfl rfl (by decide) (by omega) (by omega) dlaw_201 dlaw_202 dlaw_204 dlaw_205 dlaw_206 ?_
  refine r_argZ (c := 2) hX hScr rfl rfl (by decide) (by omega) (by omega) dlaw_207 dlaw_208 dlaw_210 dlaw_211 dlaw_212 ?_
  refine r_aload_n hX dlaw_213 rfl rfl ?_
  refine r_callW hX hg (z_L_offset ad ae cs S T (mJof S th) [] hS ao n0 s0 _ (iZ_rng _) _ (iZ_rng _)) kh_L_134 rfl rfl (Nat.le_of_ble_eq_true rfl) ⟨(Nat.le_of_ble_eq_true rfl), (Nat.le_of_ble_eq_true rfl)⟩ ⟨by show k + 2 ≤ 652172; omega, by show n + 12 ≤ 7139589; omega⟩ dlaw_214 (fun v9 ws9 h9 => ?_)
  obtain ⟨r9, n9, S9, g9, rfl, hw9⟩ := zU9 (W := fun S9 n9 => mRw ad ae cs (mKof S9 T) (mJof S th) [(ao, .inr (4, [.long n9, s0]))]) h9
  replace hw9 : ws9 = mRw ad ae cs (mKof S9 T) (mJof S th) [(ao, .inr (4, [.long n9, s0]))] := hw9
  subst hw9
  dsimp only [mPush]
  refine r_istore hX dlaw_217 (by decide) rfl ?_
  refine r_aload_n hX dlaw_219 rfl rfl ?_
  refine r_argZ (c := 1) hX hScr rfl rfl (by decide) (by omega) (by omega) dlaw_220 dlaw_221 dlaw_223 dlaw_224 dlaw_225 ?_
  refine r_argZ (c := 2) hX hScr rfl rfl (by decide) (by omega) (by omega) dlaw_226 dlaw_227 dlaw_229 dlaw_230 dlaw_231 ?_
  refine r_callV hX (z_X4_offset ad ae cs (mKof S9 T) S th [(ao, .inr (4, [.long n9, s0]))] hS _ (iZ_rng _) _ (iZ_rng _)) kv_L_139 14 rfl rfl rfl rfl (Nat.le_of_ble_eq_true rfl) ⟨(Nat.le_of_ble_eq_true rfl), (Nat.le_of_ble_eq_true rfl)⟩ ⟨by show k + 2 + 0 ≤ 652172; omega, by show n + 12 + 0 ≤ 7139589; omega⟩ dlaw_232 (fun _ _ z => False.elim z) (fun v8 ws8 h8 => ?_)
  obtain ⟨r8, th8, S8, g8, rfl, hw8⟩ := zU8 (W := fun S8 th8 => mRw ad ae cs (mKof S9 T) (mJof S8 th8) [(ao, .inr (4, [.long n9, s0]))]) h8
  replace hw8 : ws8 = mRw ad ae cs (mKof S9 T) (mJof S8 th8) [(ao, .inr (4, [.long n9, s0]))] := hw8
  subst hw8
  dsimp only [mPush]
  obtain ⟨e1, e2, hn9, hwf⟩ := zM g9 g8 hS (fun g => hS.of g.2)
  subst S8
  subst th8
  refine r_istore hX dlaw_235 (by decide) rfl ?_
  refine r_goto (tgt := 1857) hX dlaw_237 (by decide) ?_
  exact r_loc (lv' := [(0, some (.ref b)), (1, some (.ref (ad 0))), (2, some (.ref (ae 0))), (3, some (.ref ao)), (4, some (.int (nI (7 * t))))]) (by exact ⟨rfl, rfl, rfl, rfl, rfl, trivial⟩) (Nat.le_refl _) (Nat.le_refl _) (back S9 T r9 n9 s0 _ _ hwf (by omega) (by omega))
set_option maxHeartbeats 1000000 in
theorem law_z1 {X : mC} {b L : Nat} {xs : Nat → Int32} {ad ae : Nat → Nat} {cs : ClassId × ClassId × ClassId} {S : mS} {T : mT2} {th : Int32} {ao t k n : Nat} {n0 : Int64} {s0 : Value} (hX : mOK X RL code 7 room_1 [] (mTy cs)) (hg : mHas X mNc) (hScr : mScr X b L xs) (hE : mLE X b) (hS : sWF S) (hL : L ≤ 3584) (hi : 7 * t + 6 < L) (hk : k + 100 ≤ 652172) (hn : n + 2500 ≤ 7139589) (back : mBkZ X b ad ae cs ao t k n) : mV X 240 [(0, some (.ref b)), (1, some (.ref (ad 0))), (2, some (.ref (ae 0))), (3, some (.ref ao)), (4, some (.int (nI (7 * t))))] [] (mRw ad ae cs (mKof S T) (mJof S th) [(ao, .inr (4, [.long n0, s0]))]) k n := by
  refine r_aload_n hX dlaw_240 rfl rfl ?_
  refine r_argZ (c := 1) hX hScr rfl rfl (by decide) (by omega) (by omega) dlaw_241 dlaw_242 dlaw_244 dlaw_245 dlaw_246 ?_
  refine r_argZ (c := 2) hX hScr rfl rfl (by decide) (by omega) (by omega) dlaw_247 dlaw_248 dlaw_250 dlaw_251 dlaw_252 ?_
  refine r_argZ (c := 3) hX hScr rfl rfl (by decide) (by omega) (by omega) dlaw_253 dlaw_254 dlaw_256 dlaw_257 dlaw_258 ?_
  refine r_argZ (c := 4) hX hScr rfl rfl (by decide) (by omega) (by omega) dlaw_259 dlaw_260 dlaw_262 dlaw_263 dlaw_264 ?_
  refine r_aload_n hX dlaw_265 rfl rfl ?_
  refine r_callW hX hg (z_L_offsetOf ad ae cs S T (mJof S th) [] hS ao n0 s0 _ (iZ_rng _) _ (iZ_rng _) _ (iZ_rng _) _ (iZ_rng _)) kh_L_140 rfl rfl (Nat.le_of_ble_eq_true rfl) ⟨(Nat.le_of_ble_eq_true rfl), (Nat.le_of_ble_eq_true rfl)⟩ ⟨by show k + 1 ≤ 652172; omega, by show n + 6 ≤ 7139589; omega⟩ dlaw_266 (fun v9 ws9 h9 => ?_)
  obtain ⟨r9, n9, S9, g9, rfl, hw9⟩ := zU9 (W := fun S9 n9 => mRw ad ae cs (mKof S9 T) (mJof S th) [(ao, .inr (4, [.long n9, s0]))]) h9
  replace hw9 : ws9 = mRw ad ae cs (mKof S9 T) (mJof S th) [(ao, .inr (4, [.long n9, s0]))] := hw9
  subst hw9
  dsimp only [mPush]
  refine r_istore hX dlaw_269 (by decide) rfl ?_
  refine r_aload_n hX dlaw_271 rfl rfl ?_
  refine r_argZ (c := 1) hX hScr rfl rfl (by decide) (by omega) (by omega) dlaw_272 dlaw_273 dlaw_275 dlaw_276 dlaw_277 ?_
  refine r_argZ (c := 2) hX hScr rfl rfl (by decide) (by omega) (by omega) dlaw_278 dlaw_279 dlaw_281 dlaw_282 dlaw_283 ?_
  refine r_argZ (c := 3) hX hScr rfl rfl (by decide) (by omega) (by omega) dlaw_284 dlaw_285 dlaw_287 dlaw_288 dlaw_289 ?_
  refine r_argZ (c := 4) hX hScr rfl rfl (by decide) (by omega) (by omega) dlaw_290 dlaw_291 dlaw_293 dlaw_294 dlaw_295 ?_
  refine r_callV hX (z_X4_offsetOf ad ae cs (mKof S9 T) S th [(ao, .inr (4, [.long n9, s0]))] hS _ (iZ_rng _) _ (iZ_rng _) _ (iZ_rng _) _ (iZ_rng _)) kv_L_143 14 rfl rfl rfl rfl (Nat.le_of_ble_eq_true rfl) ⟨(Nat.le_of_ble_eq_true rfl), (Nat.le_of_ble_eq_true rfl)⟩ ⟨by show k + 1 + 0 ≤ 652172; omega, by show n + 6 + 0 ≤ 7139589; omega⟩ dlaw_296 (fun _ _ z => False.elim z) (fun v8 ws8 h8 => ?_)
  obtain ⟨r8, th8, S8, g8, rfl, hw8⟩ := zU8 (W := fun S8 th8 => mRw ad ae cs (mKof S9 T) (mJof S8 th8) [(ao, .inr (4, [.long n9, s0]))]) h8
  replace hw8 : ws8 = mRw ad ae cs (mKof S9 T) (mJof S8 th8) [(ao, .inr (4, [.long n9, s0]))] := hw8
  subst hw8
  dsimp only [mPush]
  obtain ⟨e1, e2, hn9, hwf⟩ := zM g9 g8 hS (fun g => wf_oOff hS)
  subst S8
  subst th8
  refine r_istore hX dlaw_299 (by decide) rfl ?_
  refine r_goto (tgt := 1857) hX dlaw_301 (by decide) ?_
  exact r_loc (lv' := [(0, some (.ref b)), (1, some (.ref (ad 0))), (2, some (.ref (ae 0))), (3, some (.ref ao)), (4, some (.int (nI (7 * t))))]) (by exact ⟨rfl, rfl, rfl, rfl, rfl, trivial⟩) (Nat.le_refl _) (Nat.le_refl _) (back S9 T r9 n9 s0 _ _ hwf (by omega) (by omega))
set_option maxHeartbeats 1000000 in
theorem law_z2 {X : mC} {b L : Nat} {xs : Nat → Int32} {ad ae : Nat → Nat} {cs : ClassId × ClassId × ClassId} {S : mS} {T : mT2} {th : Int32} {ao t k n : Nat} {n0 : Int64} {s0 : Value} (hX : mOK X RL code 7 room_1 [] (mTy cs)) (hg : mHas X mNc) (hScr : mScr X b L xs) (hE : mLE X b) (hS : sWF S) (hL : L ≤ 3584) (hi : 7 * t + 6 < L) (hk : k + 100 ≤ 652172) (hn : n + 2500 ≤ 7139589) (back : mBkZ X b ad ae cs ao t k n) : mV X 304 [(0, some (.ref b)), (1, some (.ref (ad 0))), (2, some (.ref (ae 0))), (3, some (.ref ao)), (4, some (.int (nI (7 * t))))] [] (mRw ad ae cs (mKof S T) (mJof S th) [(ao, .inr (4, [.long n0, s0]))]) k n := by
  refine r_aload_n hX dlaw_304 rfl rfl ?_
  refine r_argZ (c := 1) hX hScr rfl rfl (by decide) (by omega) (by omega) dlaw_305 dlaw_306 dlaw_308 dlaw_309 dlaw_310 ?_
  refine r_aload_n hX dlaw_311 rfl rfl ?_
  refine r_callW hX hg (z_L_seconds ad ae cs S T (mJof S th) [] hS ao n0 s0 _ (iZ_rng _)) kh_L_144 rfl rfl (Nat.le_of_ble_eq_true rfl) ⟨(Nat.le_of_ble_eq_true rfl), (Nat.le_of_ble_eq_true rfl)⟩ ⟨by show k + 1 ≤ 652172; omega, by show n + 6 ≤ 7139589; omega⟩ dlaw_312 (fun v9 ws9 h9 => ?_)
  obtain ⟨r9, n9, S9, g9, rfl, hw9⟩ := zU9 (W := fun S9 n9 => mRw ad ae cs (mKof S9 T) (mJof S th) [(ao, .inr (4, [.long n9, s0]))]) h9
  replace hw9 : ws9 = mRw ad ae cs (mKof S9 T) (mJof S th) [(ao, .inr (4, [.long n9, s0]))] := hw9
  subst hw9
  dsimp only [mPush]
  refine r_istore hX dlaw_315 (by decide) rfl ?_
  refine r_aload_n hX dlaw_317 rfl rfl ?_
  refine r_argZ (c := 1) hX hScr rfl rfl (by decide) (by omega) (by omega) dlaw_318 dlaw_319 dlaw_321 dlaw_322 dlaw_323 ?_
  refine r_callV hX (z_X4_seconds ad ae cs (mKof S9 T) S th [(ao, .inr (4, [.long n9, s0]))] hS _ (iZ_rng _)) kv_L_147 14 rfl rfl rfl rfl (Nat.le_of_ble_eq_true rfl) ⟨(Nat.le_of_ble_eq_true rfl), (Nat.le_of_ble_eq_true rfl)⟩ ⟨by show k + 1 + 0 ≤ 652172; omega, by show n + 6 + 0 ≤ 7139589; omega⟩ dlaw_324 (fun _ _ z => False.elim z) (fun v8 ws8 h8 => ?_)
  obtain ⟨r8, th8, S8, g8, rfl, hw8⟩ := zU8 (W := fun S8 th8 => mRw ad ae cs (mKof S9 T) (mJof S8 th8) [(ao, .inr (4, [.long n9, s0]))]) h8
  replace hw8 : ws8 = mRw ad ae cs (mKof S9 T) (mJof S8 th8) [(ao, .inr (4, [.long n9, s0]))] := hw8
  subst hw8
  dsimp only [mPush]
  obtain ⟨e1, e2, hn9, hwf⟩ := zM g9 g8 hS (fun g => hS)
  subst S8
  subst th8
  refine r_istore hX dlaw_327 (by decide) rfl ?_
  refine r_goto (tgt := 1857) hX dlaw_329 (by decide) ?_
  exact r_loc (lv' := [(0, some (.ref b)), (1, some (.ref (ad 0))), (2, some (.ref (ae 0))), (3, some (.ref ao)), (4, some (.int (nI (7 * t))))]) (by exact ⟨rfl, rfl, rfl, rfl, rfl, trivial⟩) (Nat.le_refl _) (Nat.le_refl _) (back S9 T r9 n9 s0 _ _ hwf (by omega) (by omega))
set_option maxHeartbeats 1000000 in
theorem law_z3 {X : mC} {b L : Nat} {xs : Nat → Int32} {ad ae : Nat → Nat} {cs : ClassId × ClassId × ClassId} {S : mS} {T : mT2} {th : Int32} {ao t k n : Nat} {n0 : Int64} {s0 : Value} (hX : mOK X RL code 7 room_1 [] (mTy cs)) (hg : mHas X mNc) (hScr : mScr X b L xs) (hE : mLE X b) (hS : sWF S) (hL : L ≤ 3584) (hi : 7 * t + 6 < L) (hk : k + 100 ≤ 652172) (hn : n + 2500 ≤ 7139589) (back : mBkZ X b ad ae cs ao t k n) : mV X 332 [(0, some (.ref b)), (1, some (.ref (ad 0))), (2, some (.ref (ae 0))), (3, some (.ref ao)), (4, some (.int (nI (7 * t))))] [] (mRw ad ae cs (mKof S T) (mJof S th) [(ao, .inr (4, [.long n0, s0]))]) k n := by
  refine r_aload_n hX dlaw_332 rfl rfl ?_
  refine r_argZ (c := 1) hX hScr rfl rfl (by decide) (by omega) (by omega) dlaw_333 dlaw_334 dlaw_336 dlaw_337 dlaw_338 ?_
  refine r_argZ (c := 2) hX hScr rfl rfl (by decide) (by omega) (by omega) dlaw_339 dlaw_340 dlaw_342 dlaw_343 dlaw_344 ?_
  refine r_aload_n hX dlaw_345 rfl rfl ?_
  refine r_callW hX hg (z_L_orderOffset ad ae cs S T (mJof S th) [] hS ao n0 s0 _ (iZ_rng _) _ (iZ_rng _)) kh_L_148 rfl rfl (Nat.le_of_ble_eq_true rfl) ⟨(Nat.le_of_ble_eq_true rfl), (Nat.le_of_ble_eq_true rfl)⟩ ⟨by show k + 2 ≤ 652172; omega, by show n + 12 ≤ 7139589; omega⟩ dlaw_346 (fun v9 ws9 h9 => ?_)
  obtain ⟨r9, n9, S9, g9, rfl, hw9⟩ := zU9 (W := fun S9 n9 => mRw ad ae cs (mKof S9 T) (mJof S th) [(ao, .inr (4, [.long n9, s0]))]) h9
  replace hw9 : ws9 = mRw ad ae cs (mKof S9 T) (mJof S th) [(ao, .inr (4, [.long n9, s0]))] := hw9
  subst hw9
  dsimp only [mPush]
  refine r_istore hX dlaw_349 (by decide) rfl ?_
  refine r_aload_n hX dlaw_351 rfl rfl ?_
  refine r_argZ (c := 1) hX hScr rfl rfl (by decide) (by omega) (by omega) dlaw_352 dlaw_353 dlaw_355 dlaw_356 dlaw_357 ?_
  refine r_argZ (c := 2) hX hScr rfl rfl (by decide) (by omega) (by omega) dlaw_358 dlaw_359 dlaw_361 dlaw_362 dlaw_363 ?_
  refine r_callV hX (z_X4_orderOffset ad ae cs (mKof S9 T) S th [(ao, .inr (4, [.long n9, s0]))] hS _ (iZ_rng _) _ (iZ_rng _)) kv_L_150 14 rfl rfl rfl rfl (Nat.le_of_ble_eq_true rfl) ⟨(Nat.le_of_ble_eq_true rfl), (Nat.le_of_ble_eq_true rfl)⟩ ⟨by show k + 2 + 0 ≤ 652172; omega, by show n + 12 + 0 ≤ 7139589; omega⟩ dlaw_364 (fun _ _ z => False.elim z) (fun v8 ws8 h8 => ?_)
  obtain ⟨r8, th8, S8, g8, rfl, hw8⟩ := zU8 (W := fun S8 th8 => mRw ad ae cs (mKof S9 T) (mJof S8 th8) [(ao, .inr (4, [.long n9, s0]))]) h8
  replace hw8 : ws8 = mRw ad ae cs (mKof S9 T) (mJof S8 th8) [(ao, .inr (4, [.long n9, s0]))] := hw8
  subst hw8
  dsimp only [mPush]
  obtain ⟨e1, e2, hn9, hwf⟩ := zM g9 g8 hS (fun g => hS)
  subst S8
  subst th8
  refine r_istore hX dlaw_367 (by decide) rfl ?_
  refine r_goto (tgt := 1857) hX dlaw_369 (by decide) ?_
  exact r_loc (lv' := [(0, some (.ref b)), (1, some (.ref (ad 0))), (2, some (.ref (ae 0))), (3, some (.ref ao)), (4, some (.int (nI (7 * t))))]) (by exact ⟨rfl, rfl, rfl, rfl, rfl, trivial⟩) (Nat.le_refl _) (Nat.le_refl _) (back S9 T r9 n9 s0 _ _ hwf (by omega) (by omega))
set_option maxHeartbeats 1000000 in
theorem law_z4 {X : mC} {b L : Nat} {xs : Nat → Int32} {ad ae : Nat → Nat} {cs : ClassId × ClassId × ClassId} {S : mS} {T : mT2} {th : Int32} {ao t k n : Nat} {n0 : Int64} {s0 : Value} (hX : mOK X RL code 7 room_1 [] (mTy cs)) (hg : mHas X mNc) (hScr : mScr X b L xs) (hE : mLE X b) (hS : sWF S) (hL : L ≤ 3584) (hi : 7 * t + 6 < L) (hk : k + 100 ≤ 652172) (hn : n + 2500 ≤ 7139589) (back : mBkZ X b ad ae cs ao t k n) : mV X 372 [(0, some (.ref b)), (1, some (.ref (ad 0))), (2, some (.ref (ae 0))), (3, some (.ref ao)), (4, some (.int (nI (7 * t))))] [] (mRw ad ae cs (mKof S T) (mJof S th) [(ao, .inr (4, [.long n0, s0]))]) k n := by
  refine r_aload_n hX dlaw_372 rfl rfl ?_
  refine r_argZ (c := 1) hX hScr rfl rfl (by decide) (by omega) (by omega) dlaw_373 dlaw_374 dlaw_376 dlaw_377 dlaw_378 ?_
  refine r_argZ (c := 2) hX hScr rfl rfl (by decide) (by omega) (by omega) dlaw_379 dlaw_380 dlaw_382 dlaw_383 dlaw_384 ?_
  refine r_argZ (c := 3) hX hScr rfl rfl (by decide) (by omega) (by omega) dlaw_385 dlaw_386 dlaw_388 dlaw_389 dlaw_390 ?_
  refine r_aload_n hX dlaw_391 rfl rfl ?_
  refine r_callW hX hg (z_L_moment ad ae cs S T (mJof S th) [] hS ao n0 s0 _ (iZ_rng _) _ (iZ_rng _) _ (iZ_rng _)) kh_L_151 rfl rfl (Nat.le_of_ble_eq_true rfl) ⟨(Nat.le_of_ble_eq_true rfl), (Nat.le_of_ble_eq_true rfl)⟩ ⟨by show k + 1 ≤ 652172; omega, by show n + 6 ≤ 7139589; omega⟩ dlaw_392 (fun v9 ws9 h9 => ?_)
  obtain ⟨r9, n9, S9, g9, rfl, hw9⟩ := zU9 (W := fun S9 n9 => mRw ad ae cs (mKof S9 T) (mJof S th) [(ao, .inr (4, [.long n9, s0]))]) h9
  replace hw9 : ws9 = mRw ad ae cs (mKof S9 T) (mJof S th) [(ao, .inr (4, [.long n9, s0]))] := hw9
  subst hw9
  dsimp only [mPush]
  refine r_istore hX dlaw_395 (by decide) rfl ?_
  refine r_aload_n hX dlaw_397 rfl rfl ?_
  refine r_argZ (c := 1) hX hScr rfl rfl (by decide) (by omega) (by omega) dlaw_398 dlaw_399 dlaw_401 dlaw_402 dlaw_403 ?_
  refine r_argZ (c := 2) hX hScr rfl rfl (by decide) (by omega) (by omega) dlaw_404 dlaw_405 dlaw_407 dlaw_408 dlaw_409 ?_
  refine r_argZ (c := 3) hX hScr rfl rfl (by decide) (by omega) (by omega) dlaw_410 dlaw_411 dlaw_413 dlaw_414 dlaw_415 ?_
  refine r_callV hX (z_X4_moment ad ae cs (mKof S9 T) S th [(ao, .inr (4, [.long n9, s0]))] hS _ (iZ_rng _) _ (iZ_rng _) _ (iZ_rng _)) kv_L_154 14 rfl rfl rfl rfl (Nat.le_of_ble_eq_true rfl) ⟨(Nat.le_of_ble_eq_true rfl), (Nat.le_of_ble_eq_true rfl)⟩ ⟨by show k + 1 + 0 ≤ 652172; omega, by show n + 6 + 0 ≤ 7139589; omega⟩ dlaw_416 (fun _ _ z => False.elim z) (fun v8 ws8 h8 => ?_)
  obtain ⟨r8, th8, S8, g8, rfl, hw8⟩ := zU8 (W := fun S8 th8 => mRw ad ae cs (mKof S9 T) (mJof S8 th8) [(ao, .inr (4, [.long n9, s0]))]) h8
  replace hw8 : ws8 = mRw ad ae cs (mKof S9 T) (mJof S8 th8) [(ao, .inr (4, [.long n9, s0]))] := hw8
  subst hw8
  dsimp only [mPush]
  obtain ⟨e1, e2, hn9, hwf⟩ := zM g9 g8 hS (fun g => hS.oNum)
  subst S8
  subst th8
  refine r_istore hX dlaw_419 (by decide) rfl ?_
  refine r_goto (tgt := 1857) hX dlaw_421 (by decide) ?_
  exact r_loc (lv' := [(0, some (.ref b)), (1, some (.ref (ad 0))), (2, some (.ref (ae 0))), (3, some (.ref ao)), (4, some (.int (nI (7 * t))))]) (by exact ⟨rfl, rfl, rfl, rfl, rfl, trivial⟩) (Nat.le_refl _) (Nat.le_refl _) (back S9 T r9 n9 s0 _ _ hwf (by omega) (by omega))
set_option maxHeartbeats 1000000 in
theorem law_z5 {X : mC} {b L : Nat} {xs : Nat → Int32} {ad ae : Nat → Nat} {cs : ClassId × ClassId × ClassId} {S : mS} {T : mT2} {th : Int32} {ao t k n : Nat} {n0 : Int64} {s0 : Value} (hX : mOK X RL code 7 room_1 [] (mTy cs)) (hg : mHas X mNc) (hScr : mScr X b L xs) (hE : mLE X b) (hS : sWF S) (hL : L ≤ 3584) (hi : 7 * t + 6 < L) (hk : k + 100 ≤ 652172) (hn : n + 2500 ≤ 7139589) (back : mBkZ X b ad ae cs ao t k n) : mV X 424 [(0, some (.ref b)), (1, some (.ref (ad 0))), (2, some (.ref (ae 0))), (3, some (.ref ao)), (4, some (.int (nI (7 * t))))] [] (mRw ad ae cs (mKof S T) (mJof S th) [(ao, .inr (4, [.long n0, s0]))]) k n := by
  refine r_aload_n hX dlaw_424 rfl rfl ?_
  refine r_argZ (c := 1) hX hScr rfl rfl (by decide) (by omega) (by omega) dlaw_425 dlaw_426 dlaw_428 dlaw_429 dlaw_430 ?_
  refine r_argZ (c := 2) hX hScr rfl rfl (by decide) (by omega) (by omega) dlaw_431 dlaw_432 dlaw_434 dlaw_435 dlaw_436 ?_
  refine r_argZ (c := 3) hX hScr rfl rfl (by decide) (by omega) (by omega) dlaw_437 dlaw_438 dlaw_440 dlaw_441 dlaw_442 ?_
  refine r_aload_n hX dlaw_443 rfl rfl ?_
  refine r_callW hX hg (z_L_milli ad ae cs S T (mJof S th) [] hS ao n0 s0 _ (iZ_rng _) _ (iZ_rng _) _ (iZ_rng _)) kh_L_155 rfl rfl (Nat.le_of_ble_eq_true rfl) ⟨(Nat.le_of_ble_eq_true rfl), (Nat.le_of_ble_eq_true rfl)⟩ ⟨by show k + 1 ≤ 652172; omega, by show n + 6 ≤ 7139589; omega⟩ dlaw_444 (fun v9 ws9 h9 => ?_)
  obtain ⟨r9, n9, S9, g9, rfl, hw9⟩ := zU9 (W := fun S9 n9 => mRw ad ae cs (mKof S9 T) (mJof S th) [(ao, .inr (4, [.long n9, s0]))]) h9
  replace hw9 : ws9 = mRw ad ae cs (mKof S9 T) (mJof S th) [(ao, .inr (4, [.long n9, s0]))] := hw9
  subst hw9
  dsimp only [mPush]
  refine r_istore hX dlaw_447 (by decide) rfl ?_
  refine r_aload_n hX dlaw_449 rfl rfl ?_
  refine r_argZ (c := 1) hX hScr rfl rfl (by decide) (by omega) (by omega) dlaw_450 dlaw_451 dlaw_453 dlaw_454 dlaw_455 ?_
  refine r_argZ (c := 2) hX hScr rfl rfl (by decide) (by omega) (by omega) dlaw_456 dlaw_457 dlaw_459 dlaw_460 dlaw_461 ?_
  refine r_argZ (c := 3) hX hScr rfl rfl (by decide) (by omega) (by omega) dlaw_462 dlaw_463 dlaw_465 dlaw_466 dlaw_467 ?_
  refine r_callV hX (z_X4_milli ad ae cs (mKof S9 T) S th [(ao, .inr (4, [.long n9, s0]))] hS _ (iZ_rng _) _ (iZ_rng _) _ (iZ_rng _)) kv_L_157 14 rfl rfl rfl rfl (Nat.le_of_ble_eq_true rfl) ⟨(Nat.le_of_ble_eq_true rfl), (Nat.le_of_ble_eq_true rfl)⟩ ⟨by show k + 1 + 0 ≤ 652172; omega, by show n + 6 + 0 ≤ 7139589; omega⟩ dlaw_468 (fun _ _ z => False.elim z) (fun v8 ws8 h8 => ?_)
  obtain ⟨r8, th8, S8, g8, rfl, hw8⟩ := zU8 (W := fun S8 th8 => mRw ad ae cs (mKof S9 T) (mJof S8 th8) [(ao, .inr (4, [.long n9, s0]))]) h8
  replace hw8 : ws8 = mRw ad ae cs (mKof S9 T) (mJof S8 th8) [(ao, .inr (4, [.long n9, s0]))] := hw8
  subst hw8
  dsimp only [mPush]
  obtain ⟨e1, e2, hn9, hwf⟩ := zM g9 g8 hS (fun g => hS.oNum)
  subst S8
  subst th8
  refine r_istore hX dlaw_471 (by decide) rfl ?_
  refine r_goto (tgt := 1857) hX dlaw_473 (by decide) ?_
  exact r_loc (lv' := [(0, some (.ref b)), (1, some (.ref (ad 0))), (2, some (.ref (ae 0))), (3, some (.ref ao)), (4, some (.int (nI (7 * t))))]) (by exact ⟨rfl, rfl, rfl, rfl, rfl, trivial⟩) (Nat.le_refl _) (Nat.le_refl _) (back S9 T r9 n9 s0 _ _ hwf (by omega) (by omega))
set_option maxHeartbeats 1000000 in
theorem law_z6 {X : mC} {b L : Nat} {xs : Nat → Int32} {ad ae : Nat → Nat} {cs : ClassId × ClassId × ClassId} {S : mS} {T : mT2} {th : Int32} {ao t k n : Nat} {n0 : Int64} {s0 : Value} (hX : mOK X RL code 7 room_1 [] (mTy cs)) (hg : mHas X mNc) (hScr : mScr X b L xs) (hE : mLE X b) (hS : sWF S) (hL : L ≤ 3584) (hi : 7 * t + 6 < L) (hk : k + 100 ≤ 652172) (hn : n + 2500 ≤ 7139589) (back : mBkZ X b ad ae cs ao t k n) : mV X 476 [(0, some (.ref b)), (1, some (.ref (ad 0))), (2, some (.ref (ae 0))), (3, some (.ref ao)), (4, some (.int (nI (7 * t))))] [] (mRw ad ae cs (mKof S T) (mJof S th) [(ao, .inr (4, [.long n0, s0]))]) k n := by
  refine r_aload_n hX dlaw_476 rfl rfl ?_
  refine r_argZ (c := 1) hX hScr rfl rfl (by decide) (by omega) (by omega) dlaw_477 dlaw_478 dlaw_480 dlaw_481 dlaw_482 ?_
  refine r_argZ (c := 2) hX hScr rfl rfl (by decide) (by omega) (by omega) dlaw_483 dlaw_484 dlaw_486 dlaw_487 dlaw_488 ?_
  refine r_argZ (c := 3) hX hScr rfl rfl (by decide) (by omega) (by omega) dlaw_489 dlaw_490 dlaw_492 dlaw_493 dlaw_494 ?_
  refine r_argZ (c := 4) hX hScr rfl rfl (by decide) (by omega) (by omega) dlaw_495 dlaw_496 dlaw_498 dlaw_499 dlaw_500 ?_
  refine r_ne0Z hX (iZ_rng _) dlaw_501 dlaw_504 dlaw_505 dlaw_508 ?_
  refine r_aload_n hX dlaw_509 rfl rfl ?_
  refine r_callW hX hg (z_L_move ad ae cs S T (mJof S th) [] hS ao n0 s0 _ (iZ_rng _) _ (iZ_rng _) _ (iZ_rng _) _) kh_L_158 rfl rfl (Nat.le_of_ble_eq_true rfl) ⟨(Nat.le_of_ble_eq_true rfl), (Nat.le_of_ble_eq_true rfl)⟩ ⟨by show k + 2 ≤ 652172; omega, by show n + 12 ≤ 7139589; omega⟩ dlaw_510 (fun v9 ws9 h9 => ?_)
  obtain ⟨r9, n9, S9, g9, rfl, hw9⟩ := zU9 (W := fun S9 n9 => mRw ad ae cs (mKof S9 T) (mJof S th) [(ao, .inr (4, [.long n9, s0]))]) h9
  replace hw9 : ws9 = mRw ad ae cs (mKof S9 T) (mJof S th) [(ao, .inr (4, [.long n9, s0]))] := hw9
  subst hw9
  dsimp only [mPush]
  refine r_istore hX dlaw_513 (by decide) rfl ?_
  refine r_aload_n hX dlaw_515 rfl rfl ?_
  refine r_argZ (c := 1) hX hScr rfl rfl (by decide) (by omega) (by omega) dlaw_516 dlaw_517 dlaw_519 dlaw_520 dlaw_521 ?_
  refine r_argZ (c := 2) hX hScr rfl rfl (by decide) (by omega) (by omega) dlaw_522 dlaw_523 dlaw_525 dlaw_526 dlaw_527 ?_
  refine r_argZ (c := 3) hX hScr rfl rfl (by decide) (by omega) (by omega) dlaw_528 dlaw_529 dlaw_531 dlaw_532 dlaw_533 ?_
  refine r_argZ (c := 4) hX hScr rfl rfl (by decide) (by omega) (by omega) dlaw_534 dlaw_535 dlaw_537 dlaw_538 dlaw_539 ?_
  refine r_ne0Z hX (iZ_rng _) dlaw_540 dlaw_543 dlaw_544 dlaw_547 ?_
  refine r_callV hX (z_X4_move ad ae cs (mKof S9 T) S th [(ao, .inr (4, [.long n9, s0]))] hS _ (iZ_rng _) _ (iZ_rng _) _ (iZ_rng _) _) kv_L_161 14 rfl rfl rfl rfl (Nat.le_of_ble_eq_true rfl) ⟨(Nat.le_of_ble_eq_true rfl), (Nat.le_of_ble_eq_true rfl)⟩ ⟨by show k + 2 + 0 ≤ 652172; omega, by show n + 12 + 0 ≤ 7139589; omega⟩ dlaw_548 (fun _ _ z => False.elim z) (fun v8 ws8 h8 => ?_)
  obtain ⟨r8, th8, S8, g8, rfl, hw8⟩ := zU8 (W := fun S8 th8 => mRw ad ae cs (mKof S9 T) (mJof S8 th8) [(ao, .inr (4, [.long n9, s0]))]) h8
  replace hw8 : ws8 = mRw ad ae cs (mKof S9 T) (mJof S8 th8) [(ao, .inr (4, [.long n9, s0]))] := hw8
  subst hw8
  dsimp only [mPush]
  obtain ⟨e1, e2, hn9, hwf⟩ := zM g9 g8 hS (fun g => hS.oNum)
  subst S8
  subst th8
  refine r_istore hX dlaw_551 (by decide) rfl ?_
  refine r_goto (tgt := 1857) hX dlaw_553 (by decide) ?_
  exact r_loc (lv' := [(0, some (.ref b)), (1, some (.ref (ad 0))), (2, some (.ref (ae 0))), (3, some (.ref ao)), (4, some (.int (nI (7 * t))))]) (by exact ⟨rfl, rfl, rfl, rfl, rfl, trivial⟩) (Nat.le_refl _) (Nat.le_refl _) (back S9 T r9 n9 s0 _ _ hwf (by omega) (by omega))
set_option maxHeartbeats 1000000 in
theorem law_z7 {X : mC} {b L : Nat} {xs : Nat → Int32} {ad ae : Nat → Nat} {cs : ClassId × ClassId × ClassId} {S : mS} {T : mT2} {th : Int32} {ao t k n : Nat} {n0 : Int64} {s0 : Value} (hX : mOK X RL code 7 room_1 [] (mTy cs)) (hg : mHas X mNc) (hScr : mScr X b L xs) (hE : mLE X b) (hS : sWF S) (hL : L ≤ 3584) (hi : 7 * t + 6 < L) (hk : k + 100 ≤ 652172) (hn : n + 2500 ≤ 7139589) (back : mBkZ X b ad ae cs ao t k n) : mV X 556 [(0, some (.ref b)), (1, some (.ref (ad 0))), (2, some (.ref (ae 0))), (3, some (.ref ao)), (4, some (.int (nI (7 * t))))] [] (mRw ad ae cs (mKof S T) (mJof S th) [(ao, .inr (4, [.long n0, s0]))]) k n := by
  refine r_aload_n hX dlaw_556 rfl rfl ?_
  refine r_argZ (c := 1) hX hScr rfl rfl (by decide) (by omega) (by omega) dlaw_557 dlaw_558 dlaw_560 dlaw_561 dlaw_562 ?_
  refine r_argZ (c := 2) hX hScr rfl rfl (by decide) (by omega) (by omega) dlaw_563 dlaw_564 dlaw_566 dlaw_567 dlaw_568 ?_
  refine r_aload_n hX dlaw_569 rfl rfl ?_
  refine r_callW hX hg (z_L_momentOf ad ae cs S T (mJof S th) [] hS ao n0 s0 _ (iZ_rng _) _ (iZ_rng _)) kh_L_162 rfl rfl (Nat.le_of_ble_eq_true rfl) ⟨(Nat.le_of_ble_eq_true rfl), (Nat.le_of_ble_eq_true rfl)⟩ ⟨by show k + 2 ≤ 652172; omega, by show n + 12 ≤ 7139589; omega⟩ dlaw_570 (fun v9 ws9 h9 => ?_)
  obtain ⟨r9, n9, S9, g9, rfl, hw9⟩ := zU9 (W := fun S9 n9 => mRw ad ae cs (mKof S9 T) (mJof S th) [(ao, .inr (4, [.long n9, s0]))]) h9
  replace hw9 : ws9 = mRw ad ae cs (mKof S9 T) (mJof S th) [(ao, .inr (4, [.long n9, s0]))] := hw9
  subst hw9
  dsimp only [mPush]
  refine r_istore hX dlaw_573 (by decide) rfl ?_
  refine r_aload_n hX dlaw_575 rfl rfl ?_
  refine r_argZ (c := 1) hX hScr rfl rfl (by decide) (by omega) (by omega) dlaw_576 dlaw_577 dlaw_579 dlaw_580 dlaw_581 ?_
  refine r_argZ (c := 2) hX hScr rfl rfl (by decide) (by omega) (by omega) dlaw_582 dlaw_583 dlaw_585 dlaw_586 dlaw_587 ?_
  refine r_callV hX (z_X4_momentOf ad ae cs (mKof S9 T) S th [(ao, .inr (4, [.long n9, s0]))] hS _ (iZ_rng _) _ (iZ_rng _)) kv_L_164 14 rfl rfl rfl rfl (Nat.le_of_ble_eq_true rfl) ⟨(Nat.le_of_ble_eq_true rfl), (Nat.le_of_ble_eq_true rfl)⟩ ⟨by show k + 2 + 0 ≤ 652172; omega, by show n + 12 + 0 ≤ 7139589; omega⟩ dlaw_588 (fun _ _ z => False.elim z) (fun v8 ws8 h8 => ?_)
  obtain ⟨r8, th8, S8, g8, rfl, hw8⟩ := zU8 (W := fun S8 th8 => mRw ad ae cs (mKof S9 T) (mJof S8 th8) [(ao, .inr (4, [.long n9, s0]))]) h8
  replace hw8 : ws8 = mRw ad ae cs (mKof S9 T) (mJof S8 th8) [(ao, .inr (4, [.long n9, s0]))] := hw8
  subst hw8
  dsimp only [mPush]
  obtain ⟨e1, e2, hn9, hwf⟩ := zM g9 g8 hS (fun g => hS.oNum)
  subst S8
  subst th8
  refine r_istore hX dlaw_591 (by decide) rfl ?_
  refine r_goto (tgt := 1857) hX dlaw_593 (by decide) ?_
  exact r_loc (lv' := [(0, some (.ref b)), (1, some (.ref (ad 0))), (2, some (.ref (ae 0))), (3, some (.ref ao)), (4, some (.int (nI (7 * t))))]) (by exact ⟨rfl, rfl, rfl, rfl, rfl, trivial⟩) (Nat.le_refl _) (Nat.le_refl _) (back S9 T r9 n9 s0 _ _ hwf (by omega) (by omega))
set_option maxHeartbeats 1000000 in
theorem law_z8 {X : mC} {b L : Nat} {xs : Nat → Int32} {ad ae : Nat → Nat} {cs : ClassId × ClassId × ClassId} {S : mS} {T : mT2} {th : Int32} {ao t k n : Nat} {n0 : Int64} {s0 : Value} (hX : mOK X RL code 7 room_1 [] (mTy cs)) (hg : mHas X mNc) (hScr : mScr X b L xs) (hE : mLE X b) (hS : sWF S) (hL : L ≤ 3584) (hi : 7 * t + 6 < L) (hk : k + 100 ≤ 652172) (hn : n + 2500 ≤ 7139589) (back : mBkZ X b ad ae cs ao t k n) : mV X 596 [(0, some (.ref b)), (1, some (.ref (ad 0))), (2, some (.ref (ae 0))), (3, some (.ref ao)), (4, some (.int (nI (7 * t))))] [] (mRw ad ae cs (mKof S T) (mJof S th) [(ao, .inr (4, [.long n0, s0]))]) k n := by
  refine r_aload_n hX dlaw_596 rfl rfl ?_
  refine r_argZ (c := 1) hX hScr rfl rfl (by decide) (by omega) (by omega) dlaw_597 dlaw_598 dlaw_600 dlaw_601 dlaw_602 ?_
  refine r_argZ (c := 2) hX hScr rfl rfl (by decide) (by omega) (by omega) dlaw_603 dlaw_604 dlaw_606 dlaw_607 dlaw_608 ?_
  refine r_ne0Z hX (iZ_rng _) dlaw_609 dlaw_612 dlaw_613 dlaw_616 ?_
  refine r_aload_n hX dlaw_617 rfl rfl ?_
  refine r_callW hX hg (z_L_ofMoment ad ae cs S T (mJof S th) [] hS ao n0 s0 _ (iZ_rng _) _) kh_L_165 rfl rfl (Nat.le_of_ble_eq_true rfl) ⟨(Nat.le_of_ble_eq_true rfl), (Nat.le_of_ble_eq_true rfl)⟩ ⟨by show k + 1 ≤ 652172; omega, by show n + 6 ≤ 7139589; omega⟩ dlaw_618 (fun v9 ws9 h9 => ?_)
  obtain ⟨r9, n9, S9, g9, rfl, hw9⟩ := zU9 (W := fun S9 n9 => mRw ad ae cs (mKof S9 T) (mJof S th) [(ao, .inr (4, [.long n9, s0]))]) h9
  replace hw9 : ws9 = mRw ad ae cs (mKof S9 T) (mJof S th) [(ao, .inr (4, [.long n9, s0]))] := hw9
  subst hw9
  dsimp only [mPush]
  refine r_istore hX dlaw_621 (by decide) rfl ?_
  refine r_aload_n hX dlaw_623 rfl rfl ?_
  refine r_argZ (c := 1) hX hScr rfl rfl (by decide) (by omega) (by omega) dlaw_624 dlaw_625 dlaw_627 dlaw_628 dlaw_629 ?_
  refine r_argZ (c := 2) hX hScr rfl rfl (by decide) (by omega) (by omega) dlaw_630 dlaw_631 dlaw_633 dlaw_634 dlaw_635 ?_
  refine r_ne0Z hX (iZ_rng _) dlaw_636 dlaw_639 dlaw_640 dlaw_643 ?_
  refine r_callV hX (z_X4_ofMoment ad ae cs (mKof S9 T) S th [(ao, .inr (4, [.long n9, s0]))] hS _ (iZ_rng _) _) kv_L_168 14 rfl rfl rfl rfl (Nat.le_of_ble_eq_true rfl) ⟨(Nat.le_of_ble_eq_true rfl), (Nat.le_of_ble_eq_true rfl)⟩ ⟨by show k + 1 + 0 ≤ 652172; omega, by show n + 6 + 0 ≤ 7139589; omega⟩ dlaw_644 (fun _ _ z => False.elim z) (fun v8 ws8 h8 => ?_)
  obtain ⟨r8, th8, S8, g8, rfl, hw8⟩ := zU8 (W := fun S8 th8 => mRw ad ae cs (mKof S9 T) (mJof S8 th8) [(ao, .inr (4, [.long n9, s0]))]) h8
  replace hw8 : ws8 = mRw ad ae cs (mKof S9 T) (mJof S8 th8) [(ao, .inr (4, [.long n9, s0]))] := hw8
  subst hw8
  dsimp only [mPush]
  obtain ⟨e1, e2, hn9, hwf⟩ := zM g9 g8 hS (fun g => hS)
  subst S8
  subst th8
  refine r_istore hX dlaw_647 (by decide) rfl ?_
  refine r_goto (tgt := 1857) hX dlaw_649 (by decide) ?_
  exact r_loc (lv' := [(0, some (.ref b)), (1, some (.ref (ad 0))), (2, some (.ref (ae 0))), (3, some (.ref ao)), (4, some (.int (nI (7 * t))))]) (by exact ⟨rfl, rfl, rfl, rfl, rfl, trivial⟩) (Nat.le_refl _) (Nat.le_refl _) (back S9 T r9 n9 s0 _ _ hwf (by omega) (by omega))
set_option maxHeartbeats 1000000 in
theorem law_z9 {X : mC} {b L : Nat} {xs : Nat → Int32} {ad ae : Nat → Nat} {cs : ClassId × ClassId × ClassId} {S : mS} {T : mT2} {th : Int32} {ao t k n : Nat} {n0 : Int64} {s0 : Value} (hX : mOK X RL code 7 room_1 [] (mTy cs)) (hg : mHas X mNc) (hScr : mScr X b L xs) (hE : mLE X b) (hS : sWF S) (hL : L ≤ 3584) (hi : 7 * t + 6 < L) (hk : k + 100 ≤ 652172) (hn : n + 2500 ≤ 7139589) (back : mBkZ X b ad ae cs ao t k n) : mV X 652 [(0, some (.ref b)), (1, some (.ref (ad 0))), (2, some (.ref (ae 0))), (3, some (.ref ao)), (4, some (.int (nI (7 * t))))] [] (mRw ad ae cs (mKof S T) (mJof S th) [(ao, .inr (4, [.long n0, s0]))]) k n := by
  refine r_aload_n hX dlaw_652 rfl rfl ?_
  refine r_argZ (c := 1) hX hScr rfl rfl (by decide) (by omega) (by omega) dlaw_653 dlaw_654 dlaw_656 dlaw_657 dlaw_658 ?_
  refine r_aload_n hX dlaw_659 rfl rfl ?_
  refine r_callW hX hg (c_L_millis_x ad ae cs (mKof S T) (mJof S th) [] ao n0 s0 _) kh_L_169 rfl rfl (Nat.le_of_ble_eq_true rfl) ⟨(Nat.le_of_ble_eq_true rfl), (Nat.le_of_ble_eq_true rfl)⟩ ⟨by show k + 31 ≤ 652172; omega, by show n + 1506 ≤ 7139589; omega⟩ dlaw_660 (fun v9 ws9 h9 => ?_)
  obtain ⟨r9, n9, s9, rfl, hw9⟩ := h9
  subst hw9
  dsimp only [mPush]
  refine r_istore hX dlaw_663 (by decide) rfl ?_
  refine r_aload_n hX dlaw_665 rfl rfl ?_
  refine r_argZ (c := 1) hX hScr rfl rfl (by decide) (by omega) (by omega) dlaw_666 dlaw_667 dlaw_669 dlaw_670 dlaw_671 ?_
  refine r_callV hX (z_X4_millis ad ae cs (mKof S T) S th [(ao, .inr (4, [.long n9, s9]))] (iZ _)) kv_L_171 14 rfl rfl rfl rfl (Nat.le_of_ble_eq_true rfl) ⟨(Nat.le_of_ble_eq_true rfl), (Nat.le_of_ble_eq_true rfl)⟩ ⟨by show k + 31 + 8 ≤ 652172; omega, by show n + 1506 + 240 ≤ 7139589; omega⟩ dlaw_672 (fun _ _ z => False.elim z) (fun v8 ws8 h8 => ?_)
  obtain ⟨q8, th8, rfl, hw8⟩ := h8
  subst hw8
  dsimp only [mPush]
  refine r_astore hX dlaw_675 (by decide) rfl ?_
  refine r_goto (tgt := 1857) hX dlaw_677 (by decide) ?_
  exact r_loc (lv' := [(0, some (.ref b)), (1, some (.ref (ad 0))), (2, some (.ref (ae 0))), (3, some (.ref ao)), (4, some (.int (nI (7 * t))))]) (by exact ⟨rfl, rfl, rfl, rfl, rfl, trivial⟩) (Nat.le_refl _) (Nat.le_refl _) (back S T th8 n9 s9 _ _ hS (by omega) (by omega))
set_option maxHeartbeats 1000000 in
theorem law_z10 {X : mC} {b L : Nat} {xs : Nat → Int32} {ad ae : Nat → Nat} {cs : ClassId × ClassId × ClassId} {S : mS} {T : mT2} {th : Int32} {ao t k n : Nat} {n0 : Int64} {s0 : Value} (hX : mOK X RL code 7 room_1 [] (mTy cs)) (hg : mHas X mNc) (hScr : mScr X b L xs) (hE : mLE X b) (hS : sWF S) (hL : L ≤ 3584) (hi : 7 * t + 6 < L) (hk : k + 100 ≤ 652172) (hn : n + 2500 ≤ 7139589) (back : mBkZ X b ad ae cs ao t k n) : mV X 680 [(0, some (.ref b)), (1, some (.ref (ad 0))), (2, some (.ref (ae 0))), (3, some (.ref ao)), (4, some (.int (nI (7 * t))))] [] (mRw ad ae cs (mKof S T) (mJof S th) [(ao, .inr (4, [.long n0, s0]))]) k n := by
  refine r_aload_n hX dlaw_680 rfl rfl ?_
  refine r_argZ (c := 1) hX hScr rfl rfl (by decide) (by omega) (by omega) dlaw_681 dlaw_682 dlaw_684 dlaw_685 dlaw_686 ?_
  refine r_argZ (c := 2) hX hScr rfl rfl (by decide) (by omega) (by omega) dlaw_687 dlaw_688 dlaw_690 dlaw_691 dlaw_692 ?_
  refine r_aload_n hX dlaw_693 rfl rfl ?_
  refine r_callW hX hg (z_L_orderMoment ad ae cs S T (mJof S th) [] hS ao n0 s0 _ (iZ_rng _) _ (iZ_rng _)) kh_L_172 rfl rfl (Nat.le_of_ble_eq_true rfl) ⟨(Nat.le_of_ble_eq_true rfl), (Nat.le_of_ble_eq_true rfl)⟩ ⟨by show k + 2 ≤ 652172; omega, by show n + 12 ≤ 7139589; omega⟩ dlaw_694 (fun v9 ws9 h9 => ?_)
  obtain ⟨r9, n9, S9, g9, rfl, hw9⟩ := zU9 (W := fun S9 n9 => mRw ad ae cs (mKof S9 T) (mJof S th) [(ao, .inr (4, [.long n9, s0]))]) h9
  replace hw9 : ws9 = mRw ad ae cs (mKof S9 T) (mJof S th) [(ao, .inr (4, [.long n9, s0]))] := hw9
  subst hw9
  dsimp only [mPush]
  refine r_istore hX dlaw_697 (by decide) rfl ?_
  refine r_aload_n hX dlaw_699 rfl rfl ?_
  refine r_argZ (c := 1) hX hScr rfl rfl (by decide) (by omega) (by omega) dlaw_700 dlaw_701 dlaw_703 dlaw_704 dlaw_705 ?_
  refine r_argZ (c := 2) hX hScr rfl rfl (by decide) (by omega) (by omega) dlaw_706 dlaw_707 dlaw_709 dlaw_710 dlaw_711 ?_
  refine r_callV hX (z_X4_orderMoment ad ae cs (mKof S9 T) S th [(ao, .inr (4, [.long n9, s0]))] hS _ (iZ_rng _) _ (iZ_rng _)) kv_L_174 14 rfl rfl rfl rfl (Nat.le_of_ble_eq_true rfl) ⟨(Nat.le_of_ble_eq_true rfl), (Nat.le_of_ble_eq_true rfl)⟩ ⟨by show k + 2 + 0 ≤ 652172; omega, by show n + 12 + 0 ≤ 7139589; omega⟩ dlaw_712 (fun _ _ z => False.elim z) (fun v8 ws8 h8 => ?_)
  obtain ⟨r8, th8, S8, g8, rfl, hw8⟩ := zU8 (W := fun S8 th8 => mRw ad ae cs (mKof S9 T) (mJof S8 th8) [(ao, .inr (4, [.long n9, s0]))]) h8
  replace hw8 : ws8 = mRw ad ae cs (mKof S9 T) (mJof S8 th8) [(ao, .inr (4, [.long n9, s0]))] := hw8
  subst hw8
  dsimp only [mPush]
  obtain ⟨e1, e2, hn9, hwf⟩ := zM g9 g8 hS (fun g => hS)
  subst S8
  subst th8
  refine r_istore hX dlaw_715 (by decide) rfl ?_
  refine r_goto (tgt := 1857) hX dlaw_717 (by decide) ?_
  exact r_loc (lv' := [(0, some (.ref b)), (1, some (.ref (ad 0))), (2, some (.ref (ae 0))), (3, some (.ref ao)), (4, some (.int (nI (7 * t))))]) (by exact ⟨rfl, rfl, rfl, rfl, rfl, trivial⟩) (Nat.le_refl _) (Nat.le_refl _) (back S9 T r9 n9 s0 _ _ hwf (by omega) (by omega))
set_option maxHeartbeats 1000000 in
theorem law_z11 {X : mC} {b L : Nat} {xs : Nat → Int32} {ad ae : Nat → Nat} {cs : ClassId × ClassId × ClassId} {S : mS} {T : mT2} {th : Int32} {ao t k n : Nat} {n0 : Int64} {s0 : Value} (hX : mOK X RL code 7 room_1 [] (mTy cs)) (hg : mHas X mNc) (hScr : mScr X b L xs) (hE : mLE X b) (hS : sWF S) (hL : L ≤ 3584) (hi : 7 * t + 6 < L) (hk : k + 100 ≤ 652172) (hn : n + 2500 ≤ 7139589) (back : mBkZ X b ad ae cs ao t k n) : mV X 720 [(0, some (.ref b)), (1, some (.ref (ad 0))), (2, some (.ref (ae 0))), (3, some (.ref ao)), (4, some (.int (nI (7 * t))))] [] (mRw ad ae cs (mKof S T) (mJof S th) [(ao, .inr (4, [.long n0, s0]))]) k n := by
  refine r_aload_n hX dlaw_720 rfl rfl ?_
  refine r_argZ (c := 1) hX hScr rfl rfl (by decide) (by omega) (by omega) dlaw_721 dlaw_722 dlaw_724 dlaw_725 dlaw_726 ?_
  refine r_argZ (c := 2) hX hScr rfl rfl (by decide) (by omega) (by omega) dlaw_727 dlaw_728 dlaw_730 dlaw_731 dlaw_732 ?_
  refine r_argZ (c := 3) hX hScr rfl rfl (by decide) (by omega) (by omega) dlaw_733 dlaw_734 dlaw_736 dlaw_737 dlaw_738 ?_
  refine r_aload_n hX dlaw_739 rfl rfl ?_
  refine r_callW hX hg (z_L_isMoment ad ae cs S T (mJof S th) [] hS ao n0 s0 _ (iZ_rng _) _ (iZ_rng _) _ (iZ_rng _)) kh_L_175 rfl rfl (Nat.le_of_ble_eq_true rfl) ⟨(Nat.le_of_ble_eq_true rfl), (Nat.le_of_ble_eq_true rfl)⟩ ⟨by show k + 3 ≤ 652172; omega, by show n + 18 ≤ 7139589; omega⟩ dlaw_740 (fun v9 ws9 h9 => ?_)
  obtain ⟨r9, n9, S9, g9, rfl, hw9⟩ := zU9 (W := fun S9 n9 => mRw ad ae cs (mKof S9 T) (mJof S th) [(ao, .inr (4, [.long n9, s0]))]) h9
  replace hw9 : ws9 = mRw ad ae cs (mKof S9 T) (mJof S th) [(ao, .inr (4, [.long n9, s0]))] := hw9
  subst hw9
  dsimp only [mPush]
  refine r_istore hX dlaw_743 (by decide) rfl ?_
  refine r_aload_n hX dlaw_745 rfl rfl ?_
  refine r_argZ (c := 1) hX hScr rfl rfl (by decide) (by omega) (by omega) dlaw_746 dlaw_747 dlaw_749 dlaw_750 dlaw_751 ?_
  refine r_argZ (c := 2) hX hScr rfl rfl (by decide) (by omega) (by omega) dlaw_752 dlaw_753 dlaw_755 dlaw_756 dlaw_757 ?_
  refine r_argZ (c := 3) hX hScr rfl rfl (by decide) (by omega) (by omega) dlaw_758 dlaw_759 dlaw_761 dlaw_762 dlaw_763 ?_
  refine r_callV hX (z_X4_isMoment ad ae cs (mKof S9 T) S th [(ao, .inr (4, [.long n9, s0]))] hS _ (iZ_rng _) _ (iZ_rng _) _ (iZ_rng _)) kv_L_177 14 rfl rfl rfl rfl (Nat.le_of_ble_eq_true rfl) ⟨(Nat.le_of_ble_eq_true rfl), (Nat.le_of_ble_eq_true rfl)⟩ ⟨by show k + 3 + 0 ≤ 652172; omega, by show n + 18 + 0 ≤ 7139589; omega⟩ dlaw_764 (fun _ _ z => False.elim z) (fun v8 ws8 h8 => ?_)
  obtain ⟨r8, th8, S8, g8, rfl, hw8⟩ := zU8 (W := fun S8 th8 => mRw ad ae cs (mKof S9 T) (mJof S8 th8) [(ao, .inr (4, [.long n9, s0]))]) h8
  replace hw8 : ws8 = mRw ad ae cs (mKof S9 T) (mJof S8 th8) [(ao, .inr (4, [.long n9, s0]))] := hw8
  subst hw8
  dsimp only [mPush]
  obtain ⟨e1, e2, hn9, hwf⟩ := zM g9 g8 hS (fun g => hS)
  subst S8
  subst th8
  refine r_istore hX dlaw_767 (by decide) rfl ?_
  refine r_goto (tgt := 1857) hX dlaw_769 (by decide) ?_
  exact r_loc (lv' := [(0, some (.ref b)), (1, some (.ref (ad 0))), (2, some (.ref (ae 0))), (3, some (.ref ao)), (4, some (.int (nI (7 * t))))]) (by exact ⟨rfl, rfl, rfl, rfl, rfl, trivial⟩) (Nat.le_refl _) (Nat.le_refl _) (back S9 T r9 n9 s0 _ _ hwf (by omega) (by omega))
set_option maxHeartbeats 1000000 in
theorem law_z12 {X : mC} {b L : Nat} {xs : Nat → Int32} {ad ae : Nat → Nat} {cs : ClassId × ClassId × ClassId} {S : mS} {T : mT2} {th : Int32} {ao t k n : Nat} {n0 : Int64} {s0 : Value} (hX : mOK X RL code 7 room_1 [] (mTy cs)) (hg : mHas X mNc) (hScr : mScr X b L xs) (hE : mLE X b) (hS : sWF S) (hL : L ≤ 3584) (hi : 7 * t + 6 < L) (hk : k + 100 ≤ 652172) (hn : n + 2500 ≤ 7139589) (back : mBkZ X b ad ae cs ao t k n) : mV X 772 [(0, some (.ref b)), (1, some (.ref (ad 0))), (2, some (.ref (ae 0))), (3, some (.ref ao)), (4, some (.int (nI (7 * t))))] [] (mRw ad ae cs (mKof S T) (mJof S th) [(ao, .inr (4, [.long n0, s0]))]) k n := by
  refine r_aload_n hX dlaw_772 rfl rfl ?_
  refine r_argZ (c := 1) hX hScr rfl rfl (by decide) (by omega) (by omega) dlaw_773 dlaw_774 dlaw_776 dlaw_777 dlaw_778 ?_
  refine r_argZ (c := 2) hX hScr rfl rfl (by decide) (by omega) (by omega) dlaw_779 dlaw_780 dlaw_782 dlaw_783 dlaw_784 ?_
  refine r_aload_n hX dlaw_785 rfl rfl ?_
  refine r_callW hX hg (z_L_copyMoment ad ae cs S T (mJof S th) [] hS ao n0 s0 _ (iZ_rng _) _ (iZ_rng _)) kh_L_178 rfl rfl (Nat.le_of_ble_eq_true rfl) ⟨(Nat.le_of_ble_eq_true rfl), (Nat.le_of_ble_eq_true rfl)⟩ ⟨by show k + 2 ≤ 652172; omega, by show n + 12 ≤ 7139589; omega⟩ dlaw_786 (fun v9 ws9 h9 => ?_)
  obtain ⟨r9, n9, S9, g9, rfl, hw9⟩ := zU9 (W := fun S9 n9 => mRw ad ae cs (mKof S9 T) (mJof S th) [(ao, .inr (4, [.long n9, s0]))]) h9
  replace hw9 : ws9 = mRw ad ae cs (mKof S9 T) (mJof S th) [(ao, .inr (4, [.long n9, s0]))] := hw9
  subst hw9
  dsimp only [mPush]
  refine r_istore hX dlaw_789 (by decide) rfl ?_
  refine r_aload_n hX dlaw_791 rfl rfl ?_
  refine r_argZ (c := 1) hX hScr rfl rfl (by decide) (by omega) (by omega) dlaw_792 dlaw_793 dlaw_795 dlaw_796 dlaw_797 ?_
  refine r_argZ (c := 2) hX hScr rfl rfl (by decide) (by omega) (by omega) dlaw_798 dlaw_799 dlaw_801 dlaw_802 dlaw_803 ?_
  refine r_callV hX (z_X4_copyMoment ad ae cs (mKof S9 T) S th [(ao, .inr (4, [.long n9, s0]))] hS _ (iZ_rng _) _ (iZ_rng _)) kv_L_180 14 rfl rfl rfl rfl (Nat.le_of_ble_eq_true rfl) ⟨(Nat.le_of_ble_eq_true rfl), (Nat.le_of_ble_eq_true rfl)⟩ ⟨by show k + 2 + 0 ≤ 652172; omega, by show n + 12 + 0 ≤ 7139589; omega⟩ dlaw_804 (fun _ _ z => False.elim z) (fun v8 ws8 h8 => ?_)
  obtain ⟨r8, th8, S8, g8, rfl, hw8⟩ := zU8 (W := fun S8 th8 => mRw ad ae cs (mKof S9 T) (mJof S8 th8) [(ao, .inr (4, [.long n9, s0]))]) h8
  replace hw8 : ws8 = mRw ad ae cs (mKof S9 T) (mJof S8 th8) [(ao, .inr (4, [.long n9, s0]))] := hw8
  subst hw8
  dsimp only [mPush]
  obtain ⟨e1, e2, hn9, hwf⟩ := zM g9 g8 hS (fun g => hS.oNum)
  subst S8
  subst th8
  refine r_istore hX dlaw_807 (by decide) rfl ?_
  refine r_goto (tgt := 1857) hX dlaw_809 (by decide) ?_
  exact r_loc (lv' := [(0, some (.ref b)), (1, some (.ref (ad 0))), (2, some (.ref (ae 0))), (3, some (.ref ao)), (4, some (.int (nI (7 * t))))]) (by exact ⟨rfl, rfl, rfl, rfl, rfl, trivial⟩) (Nat.le_refl _) (Nat.le_refl _) (back S9 T r9 n9 s0 _ _ hwf (by omega) (by omega))
set_option maxHeartbeats 1000000 in
theorem law_z13 {X : mC} {b L : Nat} {xs : Nat → Int32} {ad ae : Nat → Nat} {cs : ClassId × ClassId × ClassId} {S : mS} {T : mT2} {th : Int32} {ao t k n : Nat} {n0 : Int64} {s0 : Value} (hX : mOK X RL code 7 room_1 [] (mTy cs)) (hg : mHas X mNc) (hScr : mScr X b L xs) (hE : mLE X b) (hS : sWF S) (hL : L ≤ 3584) (hi : 7 * t + 6 < L) (hk : k + 100 ≤ 652172) (hn : n + 2500 ≤ 7139589) (back : mBkZ X b ad ae cs ao t k n) : mV X 812 [(0, some (.ref b)), (1, some (.ref (ad 0))), (2, some (.ref (ae 0))), (3, some (.ref ao)), (4, some (.int (nI (7 * t))))] [] (mRw ad ae cs (mKof S T) (mJof S th) [(ao, .inr (4, [.long n0, s0]))]) k n := by
  refine r_aload_n hX dlaw_812 rfl rfl ?_
  refine r_argZ (c := 1) hX hScr rfl rfl (by decide) (by omega) (by omega) dlaw_813 dlaw_814 dlaw_816 dlaw_817 dlaw_818 ?_
  refine r_argZ (c := 2) hX hScr rfl rfl (by decide) (by omega) (by omega) dlaw_819 dlaw_820 dlaw_822 dlaw_823 dlaw_824 ?_
  refine r_argZ (c := 3) hX hScr rfl rfl (by decide) (by omega) (by omega) dlaw_825 dlaw_826 dlaw_828 dlaw_829 dlaw_830 ?_
  refine r_argZ (c := 4) hX hScr rfl rfl (by decide) (by omega) (by omega) dlaw_831 dlaw_832 dlaw_834 dlaw_835 dlaw_836 ?_
  refine r_argZ (c := 5) hX hScr rfl rfl (by decide) (by omega) (by omega) dlaw_837 dlaw_838 dlaw_840 dlaw_841 dlaw_842 ?_
  refine r_argBZ (c := 6) hX hScr rfl rfl (by decide) (by omega) (by omega) dlaw_843 dlaw_844 dlaw_846 dlaw_848 dlaw_849 ?_
  refine r_aload_n hX dlaw_850 rfl rfl ?_
  refine r_callW hX hg (z_L_date ad ae cs S T (mJof S th) [] hS ao n0 s0 _ (iZ_rng _) _ (iZ_rng _) _ (iZ_rng _) _ (iZ_rng _) _ (iZ_rng _) _ (iZ_rng _)) kh_L_181 rfl rfl (Nat.le_of_ble_eq_true rfl) ⟨(Nat.le_of_ble_eq_true rfl), (Nat.le_of_ble_eq_true rfl)⟩ ⟨by show k + 5 ≤ 652172; omega, by show n + 30 ≤ 7139589; omega⟩ dlaw_851 (fun v9 ws9 h9 => ?_)
  obtain ⟨r9, n9, S9, g9, rfl, hw9⟩ := zU9 (W := fun S9 n9 => mRw ad ae cs (mKof S9 T) (mJof S th) [(ao, .inr (4, [.long n9, s0]))]) h9
  replace hw9 : ws9 = mRw ad ae cs (mKof S9 T) (mJof S th) [(ao, .inr (4, [.long n9, s0]))] := hw9
  subst hw9
  dsimp only [mPush]
  refine r_istore hX dlaw_854 (by decide) rfl ?_
  refine r_aload_n hX dlaw_856 rfl rfl ?_
  refine r_argZ (c := 1) hX hScr rfl rfl (by decide) (by omega) (by omega) dlaw_857 dlaw_858 dlaw_860 dlaw_861 dlaw_862 ?_
  refine r_argZ (c := 2) hX hScr rfl rfl (by decide) (by omega) (by omega) dlaw_863 dlaw_864 dlaw_866 dlaw_867 dlaw_868 ?_
  refine r_argZ (c := 3) hX hScr rfl rfl (by decide) (by omega) (by omega) dlaw_869 dlaw_870 dlaw_872 dlaw_873 dlaw_874 ?_
  refine r_argZ (c := 4) hX hScr rfl rfl (by decide) (by omega) (by omega) dlaw_875 dlaw_876 dlaw_878 dlaw_879 dlaw_880 ?_
  refine r_argZ (c := 5) hX hScr rfl rfl (by decide) (by omega) (by omega) dlaw_881 dlaw_882 dlaw_884 dlaw_885 dlaw_886 ?_
  refine r_argBZ (c := 6) hX hScr rfl rfl (by decide) (by omega) (by omega) dlaw_887 dlaw_888 dlaw_890 dlaw_892 dlaw_893 ?_
  refine r_callV hX (z_X4_date ad ae cs (mKof S9 T) S th [(ao, .inr (4, [.long n9, s0]))] hS _ (iZ_rng _) _ (iZ_rng _) _ (iZ_rng _) _ (iZ_rng _) _ (iZ_rng _) _ (iZ_rng _)) kv_L_184 14 rfl rfl rfl rfl (Nat.le_of_ble_eq_true rfl) ⟨(Nat.le_of_ble_eq_true rfl), (Nat.le_of_ble_eq_true rfl)⟩ ⟨by show k + 5 + 0 ≤ 652172; omega, by show n + 30 + 0 ≤ 7139589; omega⟩ dlaw_894 (fun _ _ z => False.elim z) (fun v8 ws8 h8 => ?_)
  obtain ⟨r8, th8, S8, g8, rfl, hw8⟩ := zU8 (W := fun S8 th8 => mRw ad ae cs (mKof S9 T) (mJof S8 th8) [(ao, .inr (4, [.long n9, s0]))]) h8
  replace hw8 : ws8 = mRw ad ae cs (mKof S9 T) (mJof S8 th8) [(ao, .inr (4, [.long n9, s0]))] := hw8
  subst hw8
  dsimp only [mPush]
  obtain ⟨e1, e2, hn9, hwf⟩ := zM g9 g8 hS (fun g => wf_oDate hS (by omega) g.2.2.2 (hS.1 (((xs (7 * t + 6)).toInt).toNat) (by omega)))
  subst S8
  subst th8
  refine r_istore hX dlaw_897 (by decide) rfl ?_
  refine r_goto (tgt := 1857) hX dlaw_899 (by decide) ?_
  exact r_loc (lv' := [(0, some (.ref b)), (1, some (.ref (ad 0))), (2, some (.ref (ae 0))), (3, some (.ref ao)), (4, some (.int (nI (7 * t))))]) (by exact ⟨rfl, rfl, rfl, rfl, rfl, trivial⟩) (Nat.le_refl _) (Nat.le_refl _) (back S9 T r9 n9 s0 _ _ hwf (by omega) (by omega))
set_option maxHeartbeats 1000000 in
theorem law_z14 {X : mC} {b L : Nat} {xs : Nat → Int32} {ad ae : Nat → Nat} {cs : ClassId × ClassId × ClassId} {S : mS} {T : mT2} {th : Int32} {ao t k n : Nat} {n0 : Int64} {s0 : Value} (hX : mOK X RL code 7 room_1 [] (mTy cs)) (hg : mHas X mNc) (hScr : mScr X b L xs) (hE : mLE X b) (hS : sWF S) (hL : L ≤ 3584) (hi : 7 * t + 6 < L) (hk : k + 100 ≤ 652172) (hn : n + 2500 ≤ 7139589) (back : mBkZ X b ad ae cs ao t k n) : mV X 902 [(0, some (.ref b)), (1, some (.ref (ad 0))), (2, some (.ref (ae 0))), (3, some (.ref ao)), (4, some (.int (nI (7 * t))))] [] (mRw ad ae cs (mKof S T) (mJof S th) [(ao, .inr (4, [.long n0, s0]))]) k n := by
  refine r_aload_n hX dlaw_902 rfl rfl ?_
  refine r_argZ (c := 1) hX hScr rfl rfl (by decide) (by omega) (by omega) dlaw_903 dlaw_904 dlaw_906 dlaw_907 dlaw_908 ?_
  refine r_argZ (c := 2) hX hScr rfl rfl (by decide) (by omega) (by omega) dlaw_909 dlaw_910 dlaw_912 dlaw_913 dlaw_914 ?_
  refine r_argZ (c := 3) hX hScr rfl rfl (by decide) (by omega) (by omega) dlaw_915 dlaw_916 dlaw_918 dlaw_919 dlaw_920 ?_
  refine r_aload_n hX dlaw_921 rfl rfl ?_
  refine r_callW hX hg (z_L_dateOf ad ae cs S T (mJof S th) [] hS ao n0 s0 _ (iZ_rng _) _ (iZ_rng _) _ (iZ_rng _)) kh_L_185 rfl rfl (Nat.le_of_ble_eq_true rfl) ⟨(Nat.le_of_ble_eq_true rfl), (Nat.le_of_ble_eq_true rfl)⟩ ⟨by show k + 3 ≤ 652172; omega, by show n + 18 ≤ 7139589; omega⟩ dlaw_922 (fun v9 ws9 h9 => ?_)
  obtain ⟨r9, n9, S9, g9, rfl, hw9⟩ := zU9 (W := fun S9 n9 => mRw ad ae cs (mKof S9 T) (mJof S th) [(ao, .inr (4, [.long n9, s0]))]) h9
  replace hw9 : ws9 = mRw ad ae cs (mKof S9 T) (mJof S th) [(ao, .inr (4, [.long n9, s0]))] := hw9
  subst hw9
  dsimp only [mPush]
  refine r_istore hX dlaw_925 (by decide) rfl ?_
  refine r_aload_n hX dlaw_927 rfl rfl ?_
  refine r_argZ (c := 1) hX hScr rfl rfl (by decide) (by omega) (by omega) dlaw_928 dlaw_929 dlaw_931 dlaw_932 dlaw_933 ?_
  refine r_argZ (c := 2) hX hScr rfl rfl (by decide) (by omega) (by omega) dlaw_934 dlaw_935 dlaw_937 dlaw_938 dlaw_939 ?_
  refine r_argZ (c := 3) hX hScr rfl rfl (by decide) (by omega) (by omega) dlaw_940 dlaw_941 dlaw_943 dlaw_944 dlaw_945 ?_
  refine r_callV hX (z_X4_dateOf ad ae cs (mKof S9 T) S th [(ao, .inr (4, [.long n9, s0]))] hS _ (iZ_rng _) _ (iZ_rng _) _ (iZ_rng _)) kv_L_187 14 rfl rfl rfl rfl (Nat.le_of_ble_eq_true rfl) ⟨(Nat.le_of_ble_eq_true rfl), (Nat.le_of_ble_eq_true rfl)⟩ ⟨by show k + 3 + 0 ≤ 652172; omega, by show n + 18 + 0 ≤ 7139589; omega⟩ dlaw_946 (fun _ _ z => False.elim z) (fun v8 ws8 h8 => ?_)
  obtain ⟨r8, th8, S8, g8, rfl, hw8⟩ := zU8 (W := fun S8 th8 => mRw ad ae cs (mKof S9 T) (mJof S8 th8) [(ao, .inr (4, [.long n9, s0]))]) h8
  replace hw8 : ws8 = mRw ad ae cs (mKof S9 T) (mJof S8 th8) [(ao, .inr (4, [.long n9, s0]))] := hw8
  subst hw8
  dsimp only [mPush]
  obtain ⟨e1, e2, hn9, hwf⟩ := zM g9 g8 hS (fun g => hS.oLoc (by omega) (by show 0 ≤ _ ∧ _ ≤ 999999999; omega) (hS.1 (((xs (7 * t + 3)).toInt).toNat) (by omega)))
  subst S8
  subst th8
  refine r_istore hX dlaw_949 (by decide) rfl ?_
  refine r_goto (tgt := 1857) hX dlaw_951 (by decide) ?_
  exact r_loc (lv' := [(0, some (.ref b)), (1, some (.ref (ad 0))), (2, some (.ref (ae 0))), (3, some (.ref ao)), (4, some (.int (nI (7 * t))))]) (by exact ⟨rfl, rfl, rfl, rfl, rfl, trivial⟩) (Nat.le_refl _) (Nat.le_refl _) (back S9 T r9 n9 s0 _ _ hwf (by omega) (by omega))
set_option maxHeartbeats 1000000 in
theorem law_z15 {X : mC} {b L : Nat} {xs : Nat → Int32} {ad ae : Nat → Nat} {cs : ClassId × ClassId × ClassId} {S : mS} {T : mT2} {th : Int32} {ao t k n : Nat} {n0 : Int64} {s0 : Value} (hX : mOK X RL code 7 room_1 [] (mTy cs)) (hg : mHas X mNc) (hScr : mScr X b L xs) (hE : mLE X b) (hS : sWF S) (hL : L ≤ 3584) (hi : 7 * t + 6 < L) (hk : k + 100 ≤ 652172) (hn : n + 2500 ≤ 7139589) (back : mBkZ X b ad ae cs ao t k n) : mV X 954 [(0, some (.ref b)), (1, some (.ref (ad 0))), (2, some (.ref (ae 0))), (3, some (.ref ao)), (4, some (.int (nI (7 * t))))] [] (mRw ad ae cs (mKof S T) (mJof S th) [(ao, .inr (4, [.long n0, s0]))]) k n := by
  refine r_aload_n hX dlaw_954 rfl rfl ?_
  refine r_argZ (c := 1) hX hScr rfl rfl (by decide) (by omega) (by omega) dlaw_955 dlaw_956 dlaw_958 dlaw_959 dlaw_960 ?_
  refine r_argZ (c := 2) hX hScr rfl rfl (by decide) (by omega) (by omega) dlaw_961 dlaw_962 dlaw_964 dlaw_965 dlaw_966 ?_
  refine r_argZ (c := 3) hX hScr rfl rfl (by decide) (by omega) (by omega) dlaw_967 dlaw_968 dlaw_970 dlaw_971 dlaw_972 ?_
  refine r_argZ (c := 4) hX hScr rfl rfl (by decide) (by omega) (by omega) dlaw_973 dlaw_974 dlaw_976 dlaw_977 dlaw_978 ?_
  refine r_ne0Z hX (iZ_rng _) dlaw_979 dlaw_982 dlaw_983 dlaw_986 ?_
  refine r_aload_n hX dlaw_987 rfl rfl ?_
  refine r_callW hX hg (z_L_moveDate ad ae cs S T (mJof S th) [] hS ao n0 s0 _ (iZ_rng _) _ (iZ_rng _) _ (iZ_rng _) _) kh_L_188 rfl rfl (Nat.le_of_ble_eq_true rfl) ⟨(Nat.le_of_ble_eq_true rfl), (Nat.le_of_ble_eq_true rfl)⟩ ⟨by show k + 2 ≤ 652172; omega, by show n + 12 ≤ 7139589; omega⟩ dlaw_988 (fun v9 ws9 h9 => ?_)
  obtain ⟨r9, n9, S9, g9, rfl, hw9⟩ := zU9 (W := fun S9 n9 => mRw ad ae cs (mKof S9 T) (mJof S th) [(ao, .inr (4, [.long n9, s0]))]) h9
  replace hw9 : ws9 = mRw ad ae cs (mKof S9 T) (mJof S th) [(ao, .inr (4, [.long n9, s0]))] := hw9
  subst hw9
  dsimp only [mPush]
  refine r_istore hX dlaw_991 (by decide) rfl ?_
  refine r_aload_n hX dlaw_993 rfl rfl ?_
  refine r_argZ (c := 1) hX hScr rfl rfl (by decide) (by omega) (by omega) dlaw_994 dlaw_995 dlaw_997 dlaw_998 dlaw_999 ?_
  refine r_argZ (c := 2) hX hScr rfl rfl (by decide) (by omega) (by omega) dlaw_1000 dlaw_1001 dlaw_1003 dlaw_1004 dlaw_1005 ?_
  refine r_argZ (c := 3) hX hScr rfl rfl (by decide) (by omega) (by omega) dlaw_1006 dlaw_1007 dlaw_1009 dlaw_1010 dlaw_1011 ?_
  refine r_argZ (c := 4) hX hScr rfl rfl (by decide) (by omega) (by omega) dlaw_1012 dlaw_1013 dlaw_1015 dlaw_1016 dlaw_1017 ?_
  refine r_ne0Z hX (iZ_rng _) dlaw_1018 dlaw_1021 dlaw_1022 dlaw_1025 ?_
  refine r_callV hX (z_X4_moveDate ad ae cs (mKof S9 T) S th [(ao, .inr (4, [.long n9, s0]))] hS _ (iZ_rng _) _ (iZ_rng _) _ (iZ_rng _) _) kv_L_190 14 rfl rfl rfl rfl (Nat.le_of_ble_eq_true rfl) ⟨(Nat.le_of_ble_eq_true rfl), (Nat.le_of_ble_eq_true rfl)⟩ ⟨by show k + 2 + 1 ≤ 652172; omega, by show n + 12 + 4 ≤ 7139589; omega⟩ dlaw_1026 (fun _ _ z => False.elim z) (fun v8 ws8 h8 => ?_)
  obtain ⟨r8, th8, S8, g8, rfl, hw8⟩ := zU8 (W := fun S8 th8 => mRw ad ae cs (mKof S9 T) (mJof S8 th8) [(ao, .inr (4, [.long n9, s0]))]) h8
  replace hw8 : ws8 = mRw ad ae cs (mKof S9 T) (mJof S8 th8) [(ao, .inr (4, [.long n9, s0]))] := hw8
  subst hw8
  dsimp only [mPush]
  obtain ⟨e1, e2, hn9, hwf⟩ := zM g9 g8 hS (fun g => wf_oMv hS (by omega))
  subst S8
  subst th8
  refine r_istore hX dlaw_1029 (by decide) rfl ?_
  refine r_goto (tgt := 1857) hX dlaw_1031 (by decide) ?_
  exact r_loc (lv' := [(0, some (.ref b)), (1, some (.ref (ad 0))), (2, some (.ref (ae 0))), (3, some (.ref ao)), (4, some (.int (nI (7 * t))))]) (by exact ⟨rfl, rfl, rfl, rfl, rfl, trivial⟩) (Nat.le_refl _) (Nat.le_refl _) (back S9 T r9 n9 s0 _ _ hwf (by omega) (by omega))
set_option maxHeartbeats 1000000 in
theorem law_z16 {X : mC} {b L : Nat} {xs : Nat → Int32} {ad ae : Nat → Nat} {cs : ClassId × ClassId × ClassId} {S : mS} {T : mT2} {th : Int32} {ao t k n : Nat} {n0 : Int64} {s0 : Value} (hX : mOK X RL code 7 room_1 [] (mTy cs)) (hg : mHas X mNc) (hScr : mScr X b L xs) (hE : mLE X b) (hS : sWF S) (hL : L ≤ 3584) (hi : 7 * t + 6 < L) (hk : k + 100 ≤ 652172) (hn : n + 2500 ≤ 7139589) (back : mBkZ X b ad ae cs ao t k n) : mV X 1034 [(0, some (.ref b)), (1, some (.ref (ad 0))), (2, some (.ref (ae 0))), (3, some (.ref ao)), (4, some (.int (nI (7 * t))))] [] (mRw ad ae cs (mKof S T) (mJof S th) [(ao, .inr (4, [.long n0, s0]))]) k n := by
  refine r_aload_n hX dlaw_1034 rfl rfl ?_
  refine r_argZ (c := 1) hX hScr rfl rfl (by decide) (by omega) (by omega) dlaw_1035 dlaw_1036 dlaw_1038 dlaw_1039 dlaw_1040 ?_
  refine r_argZ (c := 2) hX hScr rfl rfl (by decide) (by omega) (by omega) dlaw_1041 dlaw_1042 dlaw_1044 dlaw_1045 dlaw_1046 ?_
  refine r_argZ (c := 3) hX hScr rfl rfl (by decide) (by omega) (by omega) dlaw_1047 dlaw_1048 dlaw_1050 dlaw_1051 dlaw_1052 ?_
  refine r_aload_n hX dlaw_1053 rfl rfl ?_
  refine r_callW hX hg (z_L_set ad ae cs S T (mJof S th) [] hS ao n0 s0 _ (iZ_rng _) _ (iZ_rng _) _ (iZ_rng _)) kh_L_191 rfl rfl (Nat.le_of_ble_eq_true rfl) ⟨(Nat.le_of_ble_eq_true rfl), (Nat.le_of_ble_eq_true rfl)⟩ ⟨by show k + 2 ≤ 652172; omega, by show n + 12 ≤ 7139589; omega⟩ dlaw_1054 (fun v9 ws9 h9 => ?_)
  obtain ⟨r9, n9, S9, g9, rfl, hw9⟩ := zU9 (W := fun S9 n9 => mRw ad ae cs (mKof S9 T) (mJof S th) [(ao, .inr (4, [.long n9, s0]))]) h9
  replace hw9 : ws9 = mRw ad ae cs (mKof S9 T) (mJof S th) [(ao, .inr (4, [.long n9, s0]))] := hw9
  subst hw9
  dsimp only [mPush]
  refine r_istore hX dlaw_1057 (by decide) rfl ?_
  refine r_aload_n hX dlaw_1059 rfl rfl ?_
  refine r_argZ (c := 1) hX hScr rfl rfl (by decide) (by omega) (by omega) dlaw_1060 dlaw_1061 dlaw_1063 dlaw_1064 dlaw_1065 ?_
  refine r_argZ (c := 2) hX hScr rfl rfl (by decide) (by omega) (by omega) dlaw_1066 dlaw_1067 dlaw_1069 dlaw_1070 dlaw_1071 ?_
  refine r_argZ (c := 3) hX hScr rfl rfl (by decide) (by omega) (by omega) dlaw_1072 dlaw_1073 dlaw_1075 dlaw_1076 dlaw_1077 ?_
  refine r_callV hX (z_X4_set ad ae cs (mKof S9 T) S th [(ao, .inr (4, [.long n9, s0]))] hS _ (iZ_rng _) _ (iZ_rng _) _ (iZ_rng _)) kv_L_193 14 rfl rfl rfl rfl (Nat.le_of_ble_eq_true rfl) ⟨(Nat.le_of_ble_eq_true rfl), (Nat.le_of_ble_eq_true rfl)⟩ ⟨by show k + 2 + 1 ≤ 652172; omega, by show n + 12 + 4 ≤ 7139589; omega⟩ dlaw_1078 (fun _ _ z => False.elim z) (fun v8 ws8 h8 => ?_)
  obtain ⟨r8, th8, S8, g8, rfl, hw8⟩ := zU8 (W := fun S8 th8 => mRw ad ae cs (mKof S9 T) (mJof S8 th8) [(ao, .inr (4, [.long n9, s0]))]) h8
  replace hw8 : ws8 = mRw ad ae cs (mKof S9 T) (mJof S8 th8) [(ao, .inr (4, [.long n9, s0]))] := hw8
  subst hw8
  dsimp only [mPush]
  obtain ⟨e1, e2, hn9, hwf⟩ := zM g9 g8 hS (fun g => wf_oSet hS (by omega))
  subst S8
  subst th8
  refine r_istore hX dlaw_1081 (by decide) rfl ?_
  refine r_goto (tgt := 1857) hX dlaw_1083 (by decide) ?_
  exact r_loc (lv' := [(0, some (.ref b)), (1, some (.ref (ad 0))), (2, some (.ref (ae 0))), (3, some (.ref ao)), (4, some (.int (nI (7 * t))))]) (by exact ⟨rfl, rfl, rfl, rfl, rfl, trivial⟩) (Nat.le_refl _) (Nat.le_refl _) (back S9 T r9 n9 s0 _ _ hwf (by omega) (by omega))
end
-- 83 zcase
section
/-! The law's cases, exact. (Rows by a program of this repository.) -/
set_option maxHeartbeats 1000000 in
theorem law_z17 {X : mC} {b L : Nat} {xs : Nat → Int32} {ad ae : Nat → Nat} {cs : ClassId × ClassId × ClassId} {S : mS} {T : mT2} {th : Int32} {ao t k n : Nat} {n0 : Int64} {s0 : Value} (hX : mOK X RL code 7 room_1 [] (mTy cs)) (hg : mHas X mNc) (hScr : mScr X b L xs) (hE : mLE X b) (hS : sWF S) (hL : L ≤ 3584) (hi : 7 * t + 6 < L) (hk : k + 100 ≤ 652172) (hn : n + 2500 ≤ 7139589) (back : mBkZ X b ad ae cs ao t k n) : mV X 1086 [(0, some (.ref b)), (1, some (.ref (ad 0))), (2, some (.ref (ae 0))), (3, some (.ref ao)), (4, some (.int (nI (7 * t))))] [] (mRw ad ae cs (mKof S T) (mJof S th) [(ao, .inr (4, [.long n0, s0]))]) k n := by
  refine r_aload_n hX dlaw_1086 rfl rfl ?_
  refine r_argZ (c := 1) hX hScr rfl rfl (by decide) (by omega) (by omega) dlaw_1087 dlaw_1088 dlaw_1090 dlaw_1091 dlaw_1092 ?_
  refine r_argZ (c := 2) hX hScr rfl rfl (by decide) (by omega) (by omega) dlaw_1093 dlaw_1094 dlaw_1096 dlaw_1097 dlaw_1098 ?_
  refine r_argZ (c := 3) hX hScr rfl rfl (by decide) (by omega) (by omega) dlaw_1099 dlaw_1100 dlaw_1102 dlaw_1103 dlaw_1104 ?_
  refine r_ne0Z hX (iZ_rng _) dlaw_1105 dlaw_1108 dlaw_1109 dlaw_1112 ?_
  refine r_aload_n hX dlaw_1113 rfl rfl ?_
  refine r_callW hX hg (z_L_anew ad ae cs S T (mJof S th) [] hS ao n0 s0 _ (iZ_rng _) _ (iZ_rng _) _) kh_L_194 rfl rfl (Nat.le_of_ble_eq_true rfl) ⟨(Nat.le_of_ble_eq_true rfl), (Nat.le_of_ble_eq_true rfl)⟩ ⟨by show k + 2 ≤ 652172; omega, by show n + 12 ≤ 7139589; omega⟩ dlaw_1114 (fun v9 ws9 h9 => ?_)
  obtain ⟨r9, n9, S9, g9, rfl, hw9⟩ := zU9 (W := fun S9 n9 => mRw ad ae cs (mKof S9 T) (mJof S th) [(ao, .inr (4, [.long n9, s0]))]) h9
  replace hw9 : ws9 = mRw ad ae cs (mKof S9 T) (mJof S th) [(ao, .inr (4, [.long n9, s0]))] := hw9
  subst hw9
  dsimp only [mPush]
  refine r_istore hX dlaw_1117 (by decide) rfl ?_
  refine r_aload_n hX dlaw_1119 rfl rfl ?_
  refine r_argZ (c := 1) hX hScr rfl rfl (by decide) (by omega) (by omega) dlaw_1120 dlaw_1121 dlaw_1123 dlaw_1124 dlaw_1125 ?_
  refine r_argZ (c := 2) hX hScr rfl rfl (by decide) (by omega) (by omega) dlaw_1126 dlaw_1127 dlaw_1129 dlaw_1130 dlaw_1131 ?_
  refine r_argZ (c := 3) hX hScr rfl rfl (by decide) (by omega) (by omega) dlaw_1132 dlaw_1133 dlaw_1135 dlaw_1136 dlaw_1137 ?_
  refine r_ne0Z hX (iZ_rng _) dlaw_1138 dlaw_1141 dlaw_1142 dlaw_1145 ?_
  refine r_callV hX (z_X4_anew ad ae cs (mKof S9 T) S th [(ao, .inr (4, [.long n9, s0]))] hS _ (iZ_rng _) _ (iZ_rng _) _) kv_L_197 14 rfl rfl rfl rfl (Nat.le_of_ble_eq_true rfl) ⟨(Nat.le_of_ble_eq_true rfl), (Nat.le_of_ble_eq_true rfl)⟩ ⟨by show k + 2 + 0 ≤ 652172; omega, by show n + 12 + 0 ≤ 7139589; omega⟩ dlaw_1146 (fun _ _ z => False.elim z) (fun v8 ws8 h8 => ?_)
  obtain ⟨r8, th8, S8, g8, rfl, hw8⟩ := zU8 (W := fun S8 th8 => mRw ad ae cs (mKof S9 T) (mJof S8 th8) [(ao, .inr (4, [.long n9, s0]))]) h8
  replace hw8 : ws8 = mRw ad ae cs (mKof S9 T) (mJof S8 th8) [(ao, .inr (4, [.long n9, s0]))] := hw8
  subst hw8
  dsimp only [mPush]
  obtain ⟨e1, e2, hn9, hwf⟩ := zM g9 g8 hS (fun g => hS.oLoc (by omega) (hS.2.2.1 (((xs (7 * t + 1)).toInt).toNat) (by omega)).1 (hS.1 (((xs (7 * t + 2)).toInt).toNat) (by omega)))
  subst S8
  subst th8
  refine r_istore hX dlaw_1149 (by decide) rfl ?_
  refine r_goto (tgt := 1857) hX dlaw_1151 (by decide) ?_
  exact r_loc (lv' := [(0, some (.ref b)), (1, some (.ref (ad 0))), (2, some (.ref (ae 0))), (3, some (.ref ao)), (4, some (.int (nI (7 * t))))]) (by exact ⟨rfl, rfl, rfl, rfl, rfl, trivial⟩) (Nat.le_refl _) (Nat.le_refl _) (back S9 T r9 n9 s0 _ _ hwf (by omega) (by omega))
set_option maxHeartbeats 1000000 in
theorem law_z18 {X : mC} {b L : Nat} {xs : Nat → Int32} {ad ae : Nat → Nat} {cs : ClassId × ClassId × ClassId} {S : mS} {T : mT2} {th : Int32} {ao t k n : Nat} {n0 : Int64} {s0 : Value} (hX : mOK X RL code 7 room_1 [] (mTy cs)) (hg : mHas X mNc) (hScr : mScr X b L xs) (hE : mLE X b) (hS : sWF S) (hL : L ≤ 3584) (hi : 7 * t + 6 < L) (hk : k + 100 ≤ 652172) (hn : n + 2500 ≤ 7139589) (back : mBkZ X b ad ae cs ao t k n) : mV X 1154 [(0, some (.ref b)), (1, some (.ref (ad 0))), (2, some (.ref (ae 0))), (3, some (.ref ao)), (4, some (.int (nI (7 * t))))] [] (mRw ad ae cs (mKof S T) (mJof S th) [(ao, .inr (4, [.long n0, s0]))]) k n := by
  refine r_aload_n hX dlaw_1154 rfl rfl ?_
  refine r_argZ (c := 1) hX hScr rfl rfl (by decide) (by omega) (by omega) dlaw_1155 dlaw_1156 dlaw_1158 dlaw_1159 dlaw_1160 ?_
  refine r_argZ (c := 2) hX hScr rfl rfl (by decide) (by omega) (by omega) dlaw_1161 dlaw_1162 dlaw_1164 dlaw_1165 dlaw_1166 ?_
  refine r_aload_n hX dlaw_1167 rfl rfl ?_
  refine r_callW hX hg (z_L_copy ad ae cs S T (mJof S th) [] hS ao n0 s0 _ (iZ_rng _) _ (iZ_rng _)) kh_L_198 rfl rfl (Nat.le_of_ble_eq_true rfl) ⟨(Nat.le_of_ble_eq_true rfl), (Nat.le_of_ble_eq_true rfl)⟩ ⟨by show k + 2 ≤ 652172; omega, by show n + 12 ≤ 7139589; omega⟩ dlaw_1168 (fun v9 ws9 h9 => ?_)
  obtain ⟨r9, n9, S9, g9, rfl, hw9⟩ := zU9 (W := fun S9 n9 => mRw ad ae cs (mKof S9 T) (mJof S th) [(ao, .inr (4, [.long n9, s0]))]) h9
  replace hw9 : ws9 = mRw ad ae cs (mKof S9 T) (mJof S th) [(ao, .inr (4, [.long n9, s0]))] := hw9
  subst hw9
  dsimp only [mPush]
  refine r_istore hX dlaw_1171 (by decide) rfl ?_
  refine r_aload_n hX dlaw_1173 rfl rfl ?_
  refine r_argZ (c := 1) hX hScr rfl rfl (by decide) (by omega) (by omega) dlaw_1174 dlaw_1175 dlaw_1177 dlaw_1178 dlaw_1179 ?_
  refine r_argZ (c := 2) hX hScr rfl rfl (by decide) (by omega) (by omega) dlaw_1180 dlaw_1181 dlaw_1183 dlaw_1184 dlaw_1185 ?_
  refine r_callV hX (z_X4_copy ad ae cs (mKof S9 T) S th [(ao, .inr (4, [.long n9, s0]))] hS _ (iZ_rng _) _ (iZ_rng _)) kv_L_200 14 rfl rfl rfl rfl (Nat.le_of_ble_eq_true rfl) ⟨(Nat.le_of_ble_eq_true rfl), (Nat.le_of_ble_eq_true rfl)⟩ ⟨by show k + 2 + 0 ≤ 652172; omega, by show n + 12 + 0 ≤ 7139589; omega⟩ dlaw_1186 (fun _ _ z => False.elim z) (fun v8 ws8 h8 => ?_)
  obtain ⟨r8, th8, S8, g8, rfl, hw8⟩ := zU8 (W := fun S8 th8 => mRw ad ae cs (mKof S9 T) (mJof S8 th8) [(ao, .inr (4, [.long n9, s0]))]) h8
  replace hw8 : ws8 = mRw ad ae cs (mKof S9 T) (mJof S8 th8) [(ao, .inr (4, [.long n9, s0]))] := hw8
  subst hw8
  dsimp only [mPush]
  obtain ⟨e1, e2, hn9, hwf⟩ := zM g9 g8 hS (fun g => hS.oLoc (by omega) (hS.2.2.1 (((xs (7 * t + 2)).toInt).toNat) (by omega)).1 (hS.2.2.1 (((xs (7 * t + 2)).toInt).toNat) (by omega)).2)
  subst S8
  subst th8
  refine r_istore hX dlaw_1189 (by decide) rfl ?_
  refine r_goto (tgt := 1857) hX dlaw_1191 (by decide) ?_
  exact r_loc (lv' := [(0, some (.ref b)), (1, some (.ref (ad 0))), (2, some (.ref (ae 0))), (3, some (.ref ao)), (4, some (.int (nI (7 * t))))]) (by exact ⟨rfl, rfl, rfl, rfl, rfl, trivial⟩) (Nat.le_refl _) (Nat.le_refl _) (back S9 T r9 n9 s0 _ _ hwf (by omega) (by omega))
set_option maxHeartbeats 1000000 in
theorem law_z19 {X : mC} {b L : Nat} {xs : Nat → Int32} {ad ae : Nat → Nat} {cs : ClassId × ClassId × ClassId} {S : mS} {T : mT2} {th : Int32} {ao t k n : Nat} {n0 : Int64} {s0 : Value} (hX : mOK X RL code 7 room_1 [] (mTy cs)) (hg : mHas X mNc) (hScr : mScr X b L xs) (hE : mLE X b) (hS : sWF S) (hL : L ≤ 3584) (hi : 7 * t + 6 < L) (hk : k + 100 ≤ 652172) (hn : n + 2500 ≤ 7139589) (back : mBkZ X b ad ae cs ao t k n) : mV X 1194 [(0, some (.ref b)), (1, some (.ref (ad 0))), (2, some (.ref (ae 0))), (3, some (.ref ao)), (4, some (.int (nI (7 * t))))] [] (mRw ad ae cs (mKof S T) (mJof S th) [(ao, .inr (4, [.long n0, s0]))]) k n := by
  refine r_aload_n hX dlaw_1194 rfl rfl ?_
  refine r_argZ (c := 1) hX hScr rfl rfl (by decide) (by omega) (by omega) dlaw_1195 dlaw_1196 dlaw_1198 dlaw_1199 dlaw_1200 ?_
  refine r_argZ (c := 2) hX hScr rfl rfl (by decide) (by omega) (by omega) dlaw_1201 dlaw_1202 dlaw_1204 dlaw_1205 dlaw_1206 ?_
  refine r_aload_n hX dlaw_1207 rfl rfl ?_
  refine r_callW hX hg (z_L_ofDate ad ae cs S T (mJof S th) [] hS ao n0 s0 _ (iZ_rng _) _ (iZ_rng _)) kh_L_201 rfl rfl (Nat.le_of_ble_eq_true rfl) ⟨(Nat.le_of_ble_eq_true rfl), (Nat.le_of_ble_eq_true rfl)⟩ ⟨by show k + 2 ≤ 652172; omega, by show n + 12 ≤ 7139589; omega⟩ dlaw_1208 (fun v9 ws9 h9 => ?_)
  obtain ⟨r9, n9, S9, g9, rfl, hw9⟩ := zU9 (W := fun S9 n9 => mRw ad ae cs (mKof S9 T) (mJof S th) [(ao, .inr (4, [.long n9, s0]))]) h9
  replace hw9 : ws9 = mRw ad ae cs (mKof S9 T) (mJof S th) [(ao, .inr (4, [.long n9, s0]))] := hw9
  subst hw9
  dsimp only [mPush]
  refine r_istore hX dlaw_1211 (by decide) rfl ?_
  refine r_aload_n hX dlaw_1213 rfl rfl ?_
  refine r_argZ (c := 1) hX hScr rfl rfl (by decide) (by omega) (by omega) dlaw_1214 dlaw_1215 dlaw_1217 dlaw_1218 dlaw_1219 ?_
  refine r_argZ (c := 2) hX hScr rfl rfl (by decide) (by omega) (by omega) dlaw_1220 dlaw_1221 dlaw_1223 dlaw_1224 dlaw_1225 ?_
  refine r_callV hX (z_X4_ofDate ad ae cs (mKof S9 T) S th [(ao, .inr (4, [.long n9, s0]))] hS _ (iZ_rng _) _ (iZ_rng _)) kv_L_203 14 rfl rfl rfl rfl (Nat.le_of_ble_eq_true rfl) ⟨(Nat.le_of_ble_eq_true rfl), (Nat.le_of_ble_eq_true rfl)⟩ ⟨by show k + 2 + 1 ≤ 652172; omega, by show n + 12 + 4 ≤ 7139589; omega⟩ dlaw_1226 (fun _ _ z => False.elim z) (fun v8 ws8 h8 => ?_)
  obtain ⟨r8, th8, S8, g8, rfl, hw8⟩ := zU8 (W := fun S8 th8 => mRw ad ae cs (mKof S9 T) (mJof S8 th8) [(ao, .inr (4, [.long n9, s0]))]) h8
  replace hw8 : ws8 = mRw ad ae cs (mKof S9 T) (mJof S8 th8) [(ao, .inr (4, [.long n9, s0]))] := hw8
  subst hw8
  dsimp only [mPush]
  obtain ⟨e1, e2, hn9, hwf⟩ := zM g9 g8 hS (fun g => hS)
  subst S8
  subst th8
  refine r_istore hX dlaw_1229 (by decide) rfl ?_
  refine r_goto (tgt := 1857) hX dlaw_1231 (by decide) ?_
  exact r_loc (lv' := [(0, some (.ref b)), (1, some (.ref (ad 0))), (2, some (.ref (ae 0))), (3, some (.ref ao)), (4, some (.int (nI (7 * t))))]) (by exact ⟨rfl, rfl, rfl, rfl, rfl, trivial⟩) (Nat.le_refl _) (Nat.le_refl _) (back S9 T r9 n9 s0 _ _ hwf (by omega) (by omega))
set_option maxHeartbeats 1000000 in
theorem law_z20 {X : mC} {b L : Nat} {xs : Nat → Int32} {ad ae : Nat → Nat} {cs : ClassId × ClassId × ClassId} {S : mS} {T : mT2} {th : Int32} {ao t k n : Nat} {n0 : Int64} {s0 : Value} (hX : mOK X RL code 7 room_1 [] (mTy cs)) (hg : mHas X mNc) (hScr : mScr X b L xs) (hE : mLE X b) (hS : sWF S) (hL : L ≤ 3584) (hi : 7 * t + 6 < L) (hk : k + 100 ≤ 652172) (hn : n + 2500 ≤ 7139589) (back : mBkZ X b ad ae cs ao t k n) : mV X 1234 [(0, some (.ref b)), (1, some (.ref (ad 0))), (2, some (.ref (ae 0))), (3, some (.ref ao)), (4, some (.int (nI (7 * t))))] [] (mRw ad ae cs (mKof S T) (mJof S th) [(ao, .inr (4, [.long n0, s0]))]) k n := by
  refine r_aload_n hX dlaw_1234 rfl rfl ?_
  refine r_argZ (c := 1) hX hScr rfl rfl (by decide) (by omega) (by omega) dlaw_1235 dlaw_1236 dlaw_1238 dlaw_1239 dlaw_1240 ?_
  refine r_argZ (c := 2) hX hScr rfl rfl (by decide) (by omega) (by omega) dlaw_1241 dlaw_1242 dlaw_1244 dlaw_1245 dlaw_1246 ?_
  refine r_aload_n hX dlaw_1247 rfl rfl ?_
  refine r_callW hX hg (z_L_orderDate ad ae cs S T (mJof S th) [] hS ao n0 s0 _ (iZ_rng _) _ (iZ_rng _)) kh_L_204 rfl rfl (Nat.le_of_ble_eq_true rfl) ⟨(Nat.le_of_ble_eq_true rfl), (Nat.le_of_ble_eq_true rfl)⟩ ⟨by show k + 2 ≤ 652172; omega, by show n + 12 ≤ 7139589; omega⟩ dlaw_1248 (fun v9 ws9 h9 => ?_)
  obtain ⟨r9, n9, S9, g9, rfl, hw9⟩ := zU9 (W := fun S9 n9 => mRw ad ae cs (mKof S9 T) (mJof S th) [(ao, .inr (4, [.long n9, s0]))]) h9
  replace hw9 : ws9 = mRw ad ae cs (mKof S9 T) (mJof S th) [(ao, .inr (4, [.long n9, s0]))] := hw9
  subst hw9
  dsimp only [mPush]
  refine r_istore hX dlaw_1251 (by decide) rfl ?_
  refine r_aload_n hX dlaw_1253 rfl rfl ?_
  refine r_argZ (c := 1) hX hScr rfl rfl (by decide) (by omega) (by omega) dlaw_1254 dlaw_1255 dlaw_1257 dlaw_1258 dlaw_1259 ?_
  refine r_argZ (c := 2) hX hScr rfl rfl (by decide) (by omega) (by omega) dlaw_1260 dlaw_1261 dlaw_1263 dlaw_1264 dlaw_1265 ?_
  refine r_callV hX (z_X4_orderDate ad ae cs (mKof S9 T) S th [(ao, .inr (4, [.long n9, s0]))] hS _ (iZ_rng _) _ (iZ_rng _)) kv_L_206 14 rfl rfl rfl rfl (Nat.le_of_ble_eq_true rfl) ⟨(Nat.le_of_ble_eq_true rfl), (Nat.le_of_ble_eq_true rfl)⟩ ⟨by show k + 2 + 0 ≤ 652172; omega, by show n + 12 + 0 ≤ 7139589; omega⟩ dlaw_1266 (fun _ _ z => False.elim z) (fun v8 ws8 h8 => ?_)
  obtain ⟨r8, th8, S8, g8, rfl, hw8⟩ := zU8 (W := fun S8 th8 => mRw ad ae cs (mKof S9 T) (mJof S8 th8) [(ao, .inr (4, [.long n9, s0]))]) h8
  replace hw8 : ws8 = mRw ad ae cs (mKof S9 T) (mJof S8 th8) [(ao, .inr (4, [.long n9, s0]))] := hw8
  subst hw8
  dsimp only [mPush]
  obtain ⟨e1, e2, hn9, hwf⟩ := zM g9 g8 hS (fun g => hS)
  subst S8
  subst th8
  refine r_istore hX dlaw_1269 (by decide) rfl ?_
  refine r_goto (tgt := 1857) hX dlaw_1271 (by decide) ?_
  exact r_loc (lv' := [(0, some (.ref b)), (1, some (.ref (ad 0))), (2, some (.ref (ae 0))), (3, some (.ref ao)), (4, some (.int (nI (7 * t))))]) (by exact ⟨rfl, rfl, rfl, rfl, rfl, trivial⟩) (Nat.le_refl _) (Nat.le_refl _) (back S9 T r9 n9 s0 _ _ hwf (by omega) (by omega))
set_option maxHeartbeats 1000000 in
theorem law_z21 {X : mC} {b L : Nat} {xs : Nat → Int32} {ad ae : Nat → Nat} {cs : ClassId × ClassId × ClassId} {S : mS} {T : mT2} {th : Int32} {ao t k n : Nat} {n0 : Int64} {s0 : Value} (hX : mOK X RL code 7 room_1 [] (mTy cs)) (hg : mHas X mNc) (hScr : mScr X b L xs) (hE : mLE X b) (hS : sWF S) (hL : L ≤ 3584) (hi : 7 * t + 6 < L) (hk : k + 100 ≤ 652172) (hn : n + 2500 ≤ 7139589) (back : mBkZ X b ad ae cs ao t k n) : mV X 1274 [(0, some (.ref b)), (1, some (.ref (ad 0))), (2, some (.ref (ae 0))), (3, some (.ref ao)), (4, some (.int (nI (7 * t))))] [] (mRw ad ae cs (mKof S T) (mJof S th) [(ao, .inr (4, [.long n0, s0]))]) k n := by
  refine r_aload_n hX dlaw_1274 rfl rfl ?_
  refine r_argZ (c := 1) hX hScr rfl rfl (by decide) (by omega) (by omega) dlaw_1275 dlaw_1276 dlaw_1278 dlaw_1279 dlaw_1280 ?_
  refine r_argZ (c := 2) hX hScr rfl rfl (by decide) (by omega) (by omega) dlaw_1281 dlaw_1282 dlaw_1284 dlaw_1285 dlaw_1286 ?_
  refine r_argZ (c := 3) hX hScr rfl rfl (by decide) (by omega) (by omega) dlaw_1287 dlaw_1288 dlaw_1290 dlaw_1291 dlaw_1292 ?_
  refine r_aload_n hX dlaw_1293 rfl rfl ?_
  refine r_callW hX hg (z_L_isDate ad ae cs S T (mJof S th) [] hS ao n0 s0 _ (iZ_rng _) _ (iZ_rng _) _ (iZ_rng _)) kh_L_207 rfl rfl (Nat.le_of_ble_eq_true rfl) ⟨(Nat.le_of_ble_eq_true rfl), (Nat.le_of_ble_eq_true rfl)⟩ ⟨by show k + 3 ≤ 652172; omega, by show n + 18 ≤ 7139589; omega⟩ dlaw_1294 (fun v9 ws9 h9 => ?_)
  obtain ⟨r9, n9, S9, g9, rfl, hw9⟩ := zU9 (W := fun S9 n9 => mRw ad ae cs (mKof S9 T) (mJof S th) [(ao, .inr (4, [.long n9, s0]))]) h9
  replace hw9 : ws9 = mRw ad ae cs (mKof S9 T) (mJof S th) [(ao, .inr (4, [.long n9, s0]))] := hw9
  subst hw9
  dsimp only [mPush]
  refine r_istore hX dlaw_1297 (by decide) rfl ?_
  refine r_aload_n hX dlaw_1299 rfl rfl ?_
  refine r_argZ (c := 1) hX hScr rfl rfl (by decide) (by omega) (by omega) dlaw_1300 dlaw_1301 dlaw_1303 dlaw_1304 dlaw_1305 ?_
  refine r_argZ (c := 2) hX hScr rfl rfl (by decide) (by omega) (by omega) dlaw_1306 dlaw_1307 dlaw_1309 dlaw_1310 dlaw_1311 ?_
  refine r_argZ (c := 3) hX hScr rfl rfl (by decide) (by omega) (by omega) dlaw_1312 dlaw_1313 dlaw_1315 dlaw_1316 dlaw_1317 ?_
  refine r_callV hX (z_X4_isDate ad ae cs (mKof S9 T) S th [(ao, .inr (4, [.long n9, s0]))] hS _ (iZ_rng _) _ (iZ_rng _) _ (iZ_rng _)) kv_L_209 14 rfl rfl rfl rfl (Nat.le_of_ble_eq_true rfl) ⟨(Nat.le_of_ble_eq_true rfl), (Nat.le_of_ble_eq_true rfl)⟩ ⟨by show k + 3 + 0 ≤ 652172; omega, by show n + 18 + 0 ≤ 7139589; omega⟩ dlaw_1318 (fun _ _ z => False.elim z) (fun v8 ws8 h8 => ?_)
  obtain ⟨r8, th8, S8, g8, rfl, hw8⟩ := zU8 (W := fun S8 th8 => mRw ad ae cs (mKof S9 T) (mJof S8 th8) [(ao, .inr (4, [.long n9, s0]))]) h8
  replace hw8 : ws8 = mRw ad ae cs (mKof S9 T) (mJof S8 th8) [(ao, .inr (4, [.long n9, s0]))] := hw8
  subst hw8
  dsimp only [mPush]
  obtain ⟨e1, e2, hn9, hwf⟩ := zM g9 g8 hS (fun g => hS)
  subst S8
  subst th8
  refine r_istore hX dlaw_1321 (by decide) rfl ?_
  refine r_goto (tgt := 1857) hX dlaw_1323 (by decide) ?_
  exact r_loc (lv' := [(0, some (.ref b)), (1, some (.ref (ad 0))), (2, some (.ref (ae 0))), (3, some (.ref ao)), (4, some (.int (nI (7 * t))))]) (by exact ⟨rfl, rfl, rfl, rfl, rfl, trivial⟩) (Nat.le_refl _) (Nat.le_refl _) (back S9 T r9 n9 s0 _ _ hwf (by omega) (by omega))
set_option maxHeartbeats 1000000 in
theorem law_z22 {X : mC} {b L : Nat} {xs : Nat → Int32} {ad ae : Nat → Nat} {cs : ClassId × ClassId × ClassId} {S : mS} {T : mT2} {th : Int32} {ao t k n : Nat} {n0 : Int64} {s0 : Value} (hX : mOK X RL code 7 room_1 [] (mTy cs)) (hg : mHas X mNc) (hScr : mScr X b L xs) (hE : mLE X b) (hS : sWF S) (hL : L ≤ 3584) (hi : 7 * t + 6 < L) (hk : k + 100 ≤ 652172) (hn : n + 2500 ≤ 7139589) (back : mBkZ X b ad ae cs ao t k n) : mV X 1326 [(0, some (.ref b)), (1, some (.ref (ad 0))), (2, some (.ref (ae 0))), (3, some (.ref ao)), (4, some (.int (nI (7 * t))))] [] (mRw ad ae cs (mKof S T) (mJof S th) [(ao, .inr (4, [.long n0, s0]))]) k n := by
  refine r_aload_n hX dlaw_1326 rfl rfl ?_
  refine r_argZ (c := 1) hX hScr rfl rfl (by decide) (by omega) (by omega) dlaw_1327 dlaw_1328 dlaw_1330 dlaw_1331 dlaw_1332 ?_
  refine r_argZ (c := 2) hX hScr rfl rfl (by decide) (by omega) (by omega) dlaw_1333 dlaw_1334 dlaw_1336 dlaw_1337 dlaw_1338 ?_
  refine r_argZ (c := 3) hX hScr rfl rfl (by decide) (by omega) (by omega) dlaw_1339 dlaw_1340 dlaw_1342 dlaw_1343 dlaw_1344 ?_
  refine r_argZ (c := 4) hX hScr rfl rfl (by decide) (by omega) (by omega) dlaw_1345 dlaw_1346 dlaw_1348 dlaw_1349 dlaw_1350 ?_
  refine r_aload_n hX dlaw_1351 rfl rfl ?_
  refine r_callW hX hg (z_L_clock ad ae cs S T (mJof S th) [] hS ao n0 s0 _ (iZ_rng _) _ (iZ_rng _) _ (iZ_rng _) _ (iZ_rng _)) kh_L_210 rfl rfl (Nat.le_of_ble_eq_true rfl) ⟨(Nat.le_of_ble_eq_true rfl), (Nat.le_of_ble_eq_true rfl)⟩ ⟨by show k + 4 ≤ 652172; omega, by show n + 24 ≤ 7139589; omega⟩ dlaw_1352 (fun v9 ws9 h9 => ?_)
  obtain ⟨r9, n9, S9, g9, rfl, hw9⟩ := zU9 (W := fun S9 n9 => mRw ad ae cs (mKof S9 T) (mJof S th) [(ao, .inr (4, [.long n9, s0]))]) h9
  replace hw9 : ws9 = mRw ad ae cs (mKof S9 T) (mJof S th) [(ao, .inr (4, [.long n9, s0]))] := hw9
  subst hw9
  dsimp only [mPush]
  refine r_istore hX dlaw_1355 (by decide) rfl ?_
  refine r_aload_n hX dlaw_1357 rfl rfl ?_
  refine r_argZ (c := 1) hX hScr rfl rfl (by decide) (by omega) (by omega) dlaw_1358 dlaw_1359 dlaw_1361 dlaw_1362 dlaw_1363 ?_
  refine r_argZ (c := 2) hX hScr rfl rfl (by decide) (by omega) (by omega) dlaw_1364 dlaw_1365 dlaw_1367 dlaw_1368 dlaw_1369 ?_
  refine r_argZ (c := 3) hX hScr rfl rfl (by decide) (by omega) (by omega) dlaw_1370 dlaw_1371 dlaw_1373 dlaw_1374 dlaw_1375 ?_
  refine r_argZ (c := 4) hX hScr rfl rfl (by decide) (by omega) (by omega) dlaw_1376 dlaw_1377 dlaw_1379 dlaw_1380 dlaw_1381 ?_
  refine r_callV hX (z_X4_clock ad ae cs (mKof S9 T) S th [(ao, .inr (4, [.long n9, s0]))] hS _ (iZ_rng _) _ (iZ_rng _) _ (iZ_rng _) _ (iZ_rng _)) kv_L_212 14 rfl rfl rfl rfl (Nat.le_of_ble_eq_true rfl) ⟨(Nat.le_of_ble_eq_true rfl), (Nat.le_of_ble_eq_true rfl)⟩ ⟨by show k + 4 + 0 ≤ 652172; omega, by show n + 24 + 0 ≤ 7139589; omega⟩ dlaw_1382 (fun _ _ z => False.elim z) (fun v8 ws8 h8 => ?_)
  obtain ⟨r8, th8, S8, g8, rfl, hw8⟩ := zU8 (W := fun S8 th8 => mRw ad ae cs (mKof S9 T) (mJof S8 th8) [(ao, .inr (4, [.long n9, s0]))]) h8
  replace hw8 : ws8 = mRw ad ae cs (mKof S9 T) (mJof S8 th8) [(ao, .inr (4, [.long n9, s0]))] := hw8
  subst hw8
  dsimp only [mPush]
  obtain ⟨e1, e2, hn9, hwf⟩ := zM g9 g8 hS (fun g => hS.oClk g.2.2 (hS.1 (((xs (7 * t + 4)).toInt).toNat) (by omega)))
  subst S8
  subst th8
  refine r_istore hX dlaw_1385 (by decide) rfl ?_
  refine r_goto (tgt := 1857) hX dlaw_1387 (by decide) ?_
  exact r_loc (lv' := [(0, some (.ref b)), (1, some (.ref (ad 0))), (2, some (.ref (ae 0))), (3, some (.ref ao)), (4, some (.int (nI (7 * t))))]) (by exact ⟨rfl, rfl, rfl, rfl, rfl, trivial⟩) (Nat.le_refl _) (Nat.le_refl _) (back S9 T r9 n9 s0 _ _ hwf (by omega) (by omega))
set_option maxHeartbeats 1000000 in
theorem law_z23 {X : mC} {b L : Nat} {xs : Nat → Int32} {ad ae : Nat → Nat} {cs : ClassId × ClassId × ClassId} {S : mS} {T : mT2} {th : Int32} {ao t k n : Nat} {n0 : Int64} {s0 : Value} (hX : mOK X RL code 7 room_1 [] (mTy cs)) (hg : mHas X mNc) (hScr : mScr X b L xs) (hE : mLE X b) (hS : sWF S) (hL : L ≤ 3584) (hi : 7 * t + 6 < L) (hk : k + 100 ≤ 652172) (hn : n + 2500 ≤ 7139589) (back : mBkZ X b ad ae cs ao t k n) : mV X 1390 [(0, some (.ref b)), (1, some (.ref (ad 0))), (2, some (.ref (ae 0))), (3, some (.ref ao)), (4, some (.int (nI (7 * t))))] [] (mRw ad ae cs (mKof S T) (mJof S th) [(ao, .inr (4, [.long n0, s0]))]) k n := by
  refine r_aload_n hX dlaw_1390 rfl rfl ?_
  refine r_argZ (c := 1) hX hScr rfl rfl (by decide) (by omega) (by omega) dlaw_1391 dlaw_1392 dlaw_1394 dlaw_1395 dlaw_1396 ?_
  refine r_argZ (c := 2) hX hScr rfl rfl (by decide) (by omega) (by omega) dlaw_1397 dlaw_1398 dlaw_1400 dlaw_1401 dlaw_1402 ?_
  refine r_aload_n hX dlaw_1403 rfl rfl ?_
  refine r_callW hX hg (z_L_clockOf ad ae cs S T (mJof S th) [] hS ao n0 s0 _ (iZ_rng _) _ (iZ_rng _)) kh_L_213 rfl rfl (Nat.le_of_ble_eq_true rfl) ⟨(Nat.le_of_ble_eq_true rfl), (Nat.le_of_ble_eq_true rfl)⟩ ⟨by show k + 2 ≤ 652172; omega, by show n + 12 ≤ 7139589; omega⟩ dlaw_1404 (fun v9 ws9 h9 => ?_)
  obtain ⟨r9, n9, S9, g9, rfl, hw9⟩ := zU9 (W := fun S9 n9 => mRw ad ae cs (mKof S9 T) (mJof S th) [(ao, .inr (4, [.long n9, s0]))]) h9
  replace hw9 : ws9 = mRw ad ae cs (mKof S9 T) (mJof S th) [(ao, .inr (4, [.long n9, s0]))] := hw9
  subst hw9
  dsimp only [mPush]
  refine r_istore hX dlaw_1407 (by decide) rfl ?_
  refine r_aload_n hX dlaw_1409 rfl rfl ?_
  refine r_argZ (c := 1) hX hScr rfl rfl (by decide) (by omega) (by omega) dlaw_1410 dlaw_1411 dlaw_1413 dlaw_1414 dlaw_1415 ?_
  refine r_argZ (c := 2) hX hScr rfl rfl (by decide) (by omega) (by omega) dlaw_1416 dlaw_1417 dlaw_1419 dlaw_1420 dlaw_1421 ?_
  refine r_callV hX (z_X4_clockOf ad ae cs (mKof S9 T) S th [(ao, .inr (4, [.long n9, s0]))] hS _ (iZ_rng _) _ (iZ_rng _)) kv_L_215 14 rfl rfl rfl rfl (Nat.le_of_ble_eq_true rfl) ⟨(Nat.le_of_ble_eq_true rfl), (Nat.le_of_ble_eq_true rfl)⟩ ⟨by show k + 2 + 0 ≤ 652172; omega, by show n + 12 + 0 ≤ 7139589; omega⟩ dlaw_1422 (fun _ _ z => False.elim z) (fun v8 ws8 h8 => ?_)
  obtain ⟨r8, th8, S8, g8, rfl, hw8⟩ := zU8 (W := fun S8 th8 => mRw ad ae cs (mKof S9 T) (mJof S8 th8) [(ao, .inr (4, [.long n9, s0]))]) h8
  replace hw8 : ws8 = mRw ad ae cs (mKof S9 T) (mJof S8 th8) [(ao, .inr (4, [.long n9, s0]))] := hw8
  subst hw8
  dsimp only [mPush]
  obtain ⟨e1, e2, hn9, hwf⟩ := zM g9 g8 hS (fun g => hS.oClk (hS.2.2.1 (((xs (7 * t + 2)).toInt).toNat) (by omega)).1 (hS.2.2.1 (((xs (7 * t + 2)).toInt).toNat) (by omega)).2)
  subst S8
  subst th8
  refine r_istore hX dlaw_1425 (by decide) rfl ?_
  refine r_goto (tgt := 1857) hX dlaw_1427 (by decide) ?_
  exact r_loc (lv' := [(0, some (.ref b)), (1, some (.ref (ad 0))), (2, some (.ref (ae 0))), (3, some (.ref ao)), (4, some (.int (nI (7 * t))))]) (by exact ⟨rfl, rfl, rfl, rfl, rfl, trivial⟩) (Nat.le_refl _) (Nat.le_refl _) (back S9 T r9 n9 s0 _ _ hwf (by omega) (by omega))
set_option maxHeartbeats 1000000 in
theorem law_z24 {X : mC} {b L : Nat} {xs : Nat → Int32} {ad ae : Nat → Nat} {cs : ClassId × ClassId × ClassId} {S : mS} {T : mT2} {th : Int32} {ao t k n : Nat} {n0 : Int64} {s0 : Value} (hX : mOK X RL code 7 room_1 [] (mTy cs)) (hg : mHas X mNc) (hScr : mScr X b L xs) (hE : mLE X b) (hS : sWF S) (hL : L ≤ 3584) (hi : 7 * t + 6 < L) (hk : k + 100 ≤ 652172) (hn : n + 2500 ≤ 7139589) (back : mBkZ X b ad ae cs ao t k n) : mV X 1430 [(0, some (.ref b)), (1, some (.ref (ad 0))), (2, some (.ref (ae 0))), (3, some (.ref ao)), (4, some (.int (nI (7 * t))))] [] (mRw ad ae cs (mKof S T) (mJof S th) [(ao, .inr (4, [.long n0, s0]))]) k n := by
  refine r_aload_n hX dlaw_1430 rfl rfl ?_
  refine r_argZ (c := 1) hX hScr rfl rfl (by decide) (by omega) (by omega) dlaw_1431 dlaw_1432 dlaw_1434 dlaw_1435 dlaw_1436 ?_
  refine r_argZ (c := 2) hX hScr rfl rfl (by decide) (by omega) (by omega) dlaw_1437 dlaw_1438 dlaw_1440 dlaw_1441 dlaw_1442 ?_
  refine r_aload_n hX dlaw_1443 rfl rfl ?_
  refine r_callW hX hg (z_L_strike ad ae cs S T (mJof S th) [] hS ao n0 s0 _ (iZ_rng _) _ (iZ_rng _)) kh_L_216 rfl rfl (Nat.le_of_ble_eq_true rfl) ⟨(Nat.le_of_ble_eq_true rfl), (Nat.le_of_ble_eq_true rfl)⟩ ⟨by show k + 2 ≤ 652172; omega, by show n + 12 ≤ 7139589; omega⟩ dlaw_1444 (fun v9 ws9 h9 => ?_)
  obtain ⟨r9, n9, S9, g9, rfl, hw9⟩ := zU9 (W := fun S9 n9 => mRw ad ae cs (mKof S9 T) (mJof S th) [(ao, .inr (4, [.long n9, s0]))]) h9
  replace hw9 : ws9 = mRw ad ae cs (mKof S9 T) (mJof S th) [(ao, .inr (4, [.long n9, s0]))] := hw9
  subst hw9
  dsimp only [mPush]
  refine r_istore hX dlaw_1447 (by decide) rfl ?_
  refine r_aload_n hX dlaw_1449 rfl rfl ?_
  refine r_argZ (c := 1) hX hScr rfl rfl (by decide) (by omega) (by omega) dlaw_1450 dlaw_1451 dlaw_1453 dlaw_1454 dlaw_1455 ?_
  refine r_argZ (c := 2) hX hScr rfl rfl (by decide) (by omega) (by omega) dlaw_1456 dlaw_1457 dlaw_1459 dlaw_1460 dlaw_1461 ?_
  refine r_callV hX (z_X4_strike ad ae cs (mKof S9 T) S th [(ao, .inr (4, [.long n9, s0]))] hS _ (iZ_rng _) _ (iZ_rng _)) kv_L_218 14 rfl rfl rfl rfl (Nat.le_of_ble_eq_true rfl) ⟨(Nat.le_of_ble_eq_true rfl), (Nat.le_of_ble_eq_true rfl)⟩ ⟨by show k + 2 + 0 ≤ 652172; omega, by show n + 12 + 0 ≤ 7139589; omega⟩ dlaw_1462 (fun _ _ z => False.elim z) (fun v8 ws8 h8 => ?_)
  obtain ⟨r8, th8, S8, g8, rfl, hw8⟩ := zU8 (W := fun S8 th8 => mRw ad ae cs (mKof S9 T) (mJof S8 th8) [(ao, .inr (4, [.long n9, s0]))]) h8
  replace hw8 : ws8 = mRw ad ae cs (mKof S9 T) (mJof S8 th8) [(ao, .inr (4, [.long n9, s0]))] := hw8
  subst hw8
  dsimp only [mPush]
  obtain ⟨e1, e2, hn9, hwf⟩ := zM g9 g8 hS (fun g => hS.oLoc (by omega) (hS.2.2.1 (((xs (7 * t + 2)).toInt).toNat + 4) (by omega)).1 (hS.2.2.1 (((xs (7 * t + 2)).toInt).toNat + 4) (by omega)).2)
  subst S8
  subst th8
  refine r_istore hX dlaw_1465 (by decide) rfl ?_
  refine r_goto (tgt := 1857) hX dlaw_1467 (by decide) ?_
  exact r_loc (lv' := [(0, some (.ref b)), (1, some (.ref (ad 0))), (2, some (.ref (ae 0))), (3, some (.ref ao)), (4, some (.int (nI (7 * t))))]) (by exact ⟨rfl, rfl, rfl, rfl, rfl, trivial⟩) (Nat.le_refl _) (Nat.le_refl _) (back S9 T r9 n9 s0 _ _ hwf (by omega) (by omega))
set_option maxHeartbeats 1000000 in
theorem law_z25 {X : mC} {b L : Nat} {xs : Nat → Int32} {ad ae : Nat → Nat} {cs : ClassId × ClassId × ClassId} {S : mS} {T : mT2} {th : Int32} {ao t k n : Nat} {n0 : Int64} {s0 : Value} (hX : mOK X RL code 7 room_1 [] (mTy cs)) (hg : mHas X mNc) (hScr : mScr X b L xs) (hE : mLE X b) (hS : sWF S) (hL : L ≤ 3584) (hi : 7 * t + 6 < L) (hk : k + 100 ≤ 652172) (hn : n + 2500 ≤ 7139589) (back : mBkZ X b ad ae cs ao t k n) : mV X 1470 [(0, some (.ref b)), (1, some (.ref (ad 0))), (2, some (.ref (ae 0))), (3, some (.ref ao)), (4, some (.int (nI (7 * t))))] [] (mRw ad ae cs (mKof S T) (mJof S th) [(ao, .inr (4, [.long n0, s0]))]) k n := by
  refine r_aload_n hX dlaw_1470 rfl rfl ?_
  refine r_argZ (c := 1) hX hScr rfl rfl (by decide) (by omega) (by omega) dlaw_1471 dlaw_1472 dlaw_1474 dlaw_1475 dlaw_1476 ?_
  refine r_argZ (c := 2) hX hScr rfl rfl (by decide) (by omega) (by omega) dlaw_1477 dlaw_1478 dlaw_1480 dlaw_1481 dlaw_1482 ?_
  refine r_argZ (c := 3) hX hScr rfl rfl (by decide) (by omega) (by omega) dlaw_1483 dlaw_1484 dlaw_1486 dlaw_1487 dlaw_1488 ?_
  refine r_argZ (c := 4) hX hScr rfl rfl (by decide) (by omega) (by omega) dlaw_1489 dlaw_1490 dlaw_1492 dlaw_1493 dlaw_1494 ?_
  refine r_ne0Z hX (iZ_rng _) dlaw_1495 dlaw_1498 dlaw_1499 dlaw_1502 ?_
  refine r_aload_n hX dlaw_1503 rfl rfl ?_
  refine r_callW hX hg (z_L_moveClock ad ae cs S T (mJof S th) [] hS ao n0 s0 _ (iZ_rng _) _ (iZ_rng _) _ (iZ_rng _) _) kh_L_219 rfl rfl (Nat.le_of_ble_eq_true rfl) ⟨(Nat.le_of_ble_eq_true rfl), (Nat.le_of_ble_eq_true rfl)⟩ ⟨by show k + 2 ≤ 652172; omega, by show n + 12 ≤ 7139589; omega⟩ dlaw_1504 (fun v9 ws9 h9 => ?_)
  obtain ⟨r9, n9, S9, g9, rfl, hw9⟩ := zU9 (W := fun S9 n9 => mRw ad ae cs (mKof S9 T) (mJof S th) [(ao, .inr (4, [.long n9, s0]))]) h9
  replace hw9 : ws9 = mRw ad ae cs (mKof S9 T) (mJof S th) [(ao, .inr (4, [.long n9, s0]))] := hw9
  subst hw9
  dsimp only [mPush]
  refine r_istore hX dlaw_1507 (by decide) rfl ?_
  refine r_aload_n hX dlaw_1509 rfl rfl ?_
  refine r_argZ (c := 1) hX hScr rfl rfl (by decide) (by omega) (by omega) dlaw_1510 dlaw_1511 dlaw_1513 dlaw_1514 dlaw_1515 ?_
  refine r_argZ (c := 2) hX hScr rfl rfl (by decide) (by omega) (by omega) dlaw_1516 dlaw_1517 dlaw_1519 dlaw_1520 dlaw_1521 ?_
  refine r_argZ (c := 3) hX hScr rfl rfl (by decide) (by omega) (by omega) dlaw_1522 dlaw_1523 dlaw_1525 dlaw_1526 dlaw_1527 ?_
  refine r_argZ (c := 4) hX hScr rfl rfl (by decide) (by omega) (by omega) dlaw_1528 dlaw_1529 dlaw_1531 dlaw_1532 dlaw_1533 ?_
  refine r_ne0Z hX (iZ_rng _) dlaw_1534 dlaw_1537 dlaw_1538 dlaw_1541 ?_
  refine r_callV hX (z_X4_moveClock ad ae cs (mKof S9 T) S th [(ao, .inr (4, [.long n9, s0]))] hS _ (iZ_rng _) _ (iZ_rng _) _ (iZ_rng _) _) kv_L_221 14 rfl rfl rfl rfl (Nat.le_of_ble_eq_true rfl) ⟨(Nat.le_of_ble_eq_true rfl), (Nat.le_of_ble_eq_true rfl)⟩ ⟨by show k + 2 + 0 ≤ 652172; omega, by show n + 12 + 0 ≤ 7139589; omega⟩ dlaw_1542 (fun _ _ z => False.elim z) (fun v8 ws8 h8 => ?_)
  obtain ⟨r8, th8, S8, g8, rfl, hw8⟩ := zU8 (W := fun S8 th8 => mRw ad ae cs (mKof S9 T) (mJof S8 th8) [(ao, .inr (4, [.long n9, s0]))]) h8
  replace hw8 : ws8 = mRw ad ae cs (mKof S9 T) (mJof S8 th8) [(ao, .inr (4, [.long n9, s0]))] := hw8
  subst hw8
  dsimp only [mPush]
  obtain ⟨e1, e2, hn9, hwf⟩ := zM g9 g8 hS (fun g => hS.oClk (zNn_r (hS.2.2.1 (((xs (7 * t + 1)).toInt).toNat + 4) (by omega)).1) (hS.2.2.1 (((xs (7 * t + 1)).toInt).toNat + 4) (by omega)).2)
  subst S8
  subst th8
  refine r_istore hX dlaw_1545 (by decide) rfl ?_
  refine r_goto (tgt := 1857) hX dlaw_1547 (by decide) ?_
  exact r_loc (lv' := [(0, some (.ref b)), (1, some (.ref (ad 0))), (2, some (.ref (ae 0))), (3, some (.ref ao)), (4, some (.int (nI (7 * t))))]) (by exact ⟨rfl, rfl, rfl, rfl, rfl, trivial⟩) (Nat.le_refl _) (Nat.le_refl _) (back S9 T r9 n9 s0 _ _ hwf (by omega) (by omega))
set_option maxHeartbeats 1000000 in
theorem law_z26 {X : mC} {b L : Nat} {xs : Nat → Int32} {ad ae : Nat → Nat} {cs : ClassId × ClassId × ClassId} {S : mS} {T : mT2} {th : Int32} {ao t k n : Nat} {n0 : Int64} {s0 : Value} (hX : mOK X RL code 7 room_1 [] (mTy cs)) (hg : mHas X mNc) (hScr : mScr X b L xs) (hE : mLE X b) (hS : sWF S) (hL : L ≤ 3584) (hi : 7 * t + 6 < L) (hk : k + 100 ≤ 652172) (hn : n + 2500 ≤ 7139589) (back : mBkZ X b ad ae cs ao t k n) : mV X 1550 [(0, some (.ref b)), (1, some (.ref (ad 0))), (2, some (.ref (ae 0))), (3, some (.ref ao)), (4, some (.int (nI (7 * t))))] [] (mRw ad ae cs (mKof S T) (mJof S th) [(ao, .inr (4, [.long n0, s0]))]) k n := by
  refine r_aload_n hX dlaw_1550 rfl rfl ?_
  refine r_argZ (c := 1) hX hScr rfl rfl (by decide) (by omega) (by omega) dlaw_1551 dlaw_1552 dlaw_1554 dlaw_1555 dlaw_1556 ?_
  refine r_argZ (c := 2) hX hScr rfl rfl (by decide) (by omega) (by omega) dlaw_1557 dlaw_1558 dlaw_1560 dlaw_1561 dlaw_1562 ?_
  refine r_argZ (c := 3) hX hScr rfl rfl (by decide) (by omega) (by omega) dlaw_1563 dlaw_1564 dlaw_1566 dlaw_1567 dlaw_1568 ?_
  refine r_ne0Z hX (iZ_rng _) dlaw_1569 dlaw_1572 dlaw_1573 dlaw_1576 ?_
  refine r_aload_n hX dlaw_1577 rfl rfl ?_
  refine r_callW hX hg (z_L_anewClock ad ae cs S T (mJof S th) [] hS ao n0 s0 _ (iZ_rng _) _ (iZ_rng _) _) kh_L_222 rfl rfl (Nat.le_of_ble_eq_true rfl) ⟨(Nat.le_of_ble_eq_true rfl), (Nat.le_of_ble_eq_true rfl)⟩ ⟨by show k + 2 ≤ 652172; omega, by show n + 12 ≤ 7139589; omega⟩ dlaw_1578 (fun v9 ws9 h9 => ?_)
  obtain ⟨r9, n9, S9, g9, rfl, hw9⟩ := zU9 (W := fun S9 n9 => mRw ad ae cs (mKof S9 T) (mJof S th) [(ao, .inr (4, [.long n9, s0]))]) h9
  replace hw9 : ws9 = mRw ad ae cs (mKof S9 T) (mJof S th) [(ao, .inr (4, [.long n9, s0]))] := hw9
  subst hw9
  dsimp only [mPush]
  refine r_istore hX dlaw_1581 (by decide) rfl ?_
  refine r_aload_n hX dlaw_1583 rfl rfl ?_
  refine r_argZ (c := 1) hX hScr rfl rfl (by decide) (by omega) (by omega) dlaw_1584 dlaw_1585 dlaw_1587 dlaw_1588 dlaw_1589 ?_
  refine r_argZ (c := 2) hX hScr rfl rfl (by decide) (by omega) (by omega) dlaw_1590 dlaw_1591 dlaw_1593 dlaw_1594 dlaw_1595 ?_
  refine r_argZ (c := 3) hX hScr rfl rfl (by decide) (by omega) (by omega) dlaw_1596 dlaw_1597 dlaw_1599 dlaw_1600 dlaw_1601 ?_
  refine r_ne0Z hX (iZ_rng _) dlaw_1602 dlaw_1605 dlaw_1606 dlaw_1609 ?_
  refine r_callV hX (z_X4_anewClock ad ae cs (mKof S9 T) S th [(ao, .inr (4, [.long n9, s0]))] hS _ (iZ_rng _) _ (iZ_rng _) _) kv_L_224 14 rfl rfl rfl rfl (Nat.le_of_ble_eq_true rfl) ⟨(Nat.le_of_ble_eq_true rfl), (Nat.le_of_ble_eq_true rfl)⟩ ⟨by show k + 2 + 0 ≤ 652172; omega, by show n + 12 + 0 ≤ 7139589; omega⟩ dlaw_1610 (fun _ _ z => False.elim z) (fun v8 ws8 h8 => ?_)
  obtain ⟨r8, th8, S8, g8, rfl, hw8⟩ := zU8 (W := fun S8 th8 => mRw ad ae cs (mKof S9 T) (mJof S8 th8) [(ao, .inr (4, [.long n9, s0]))]) h8
  replace hw8 : ws8 = mRw ad ae cs (mKof S9 T) (mJof S8 th8) [(ao, .inr (4, [.long n9, s0]))] := hw8
  subst hw8
  dsimp only [mPush]
  obtain ⟨e1, e2, hn9, hwf⟩ := zM g9 g8 hS (fun g => hS.oClk (hS.2.2.1 (((xs (7 * t + 1)).toInt).toNat + 4) (by omega)).1 (hS.1 (((xs (7 * t + 2)).toInt).toNat) (by omega)))
  subst S8
  subst th8
  refine r_istore hX dlaw_1613 (by decide) rfl ?_
  refine r_goto (tgt := 1857) hX dlaw_1615 (by decide) ?_
  exact r_loc (lv' := [(0, some (.ref b)), (1, some (.ref (ad 0))), (2, some (.ref (ae 0))), (3, some (.ref ao)), (4, some (.int (nI (7 * t))))]) (by exact ⟨rfl, rfl, rfl, rfl, rfl, trivial⟩) (Nat.le_refl _) (Nat.le_refl _) (back S9 T r9 n9 s0 _ _ hwf (by omega) (by omega))
set_option maxHeartbeats 1000000 in
theorem law_z27 {X : mC} {b L : Nat} {xs : Nat → Int32} {ad ae : Nat → Nat} {cs : ClassId × ClassId × ClassId} {S : mS} {T : mT2} {th : Int32} {ao t k n : Nat} {n0 : Int64} {s0 : Value} (hX : mOK X RL code 7 room_1 [] (mTy cs)) (hg : mHas X mNc) (hScr : mScr X b L xs) (hE : mLE X b) (hS : sWF S) (hL : L ≤ 3584) (hi : 7 * t + 6 < L) (hk : k + 100 ≤ 652172) (hn : n + 2500 ≤ 7139589) (back : mBkZ X b ad ae cs ao t k n) : mV X 1618 [(0, some (.ref b)), (1, some (.ref (ad 0))), (2, some (.ref (ae 0))), (3, some (.ref ao)), (4, some (.int (nI (7 * t))))] [] (mRw ad ae cs (mKof S T) (mJof S th) [(ao, .inr (4, [.long n0, s0]))]) k n := by
  refine r_aload_n hX dlaw_1618 rfl rfl ?_
  refine r_argZ (c := 1) hX hScr rfl rfl (by decide) (by omega) (by omega) dlaw_1619 dlaw_1620 dlaw_1622 dlaw_1623 dlaw_1624 ?_
  refine r_argZ (c := 2) hX hScr rfl rfl (by decide) (by omega) (by omega) dlaw_1625 dlaw_1626 dlaw_1628 dlaw_1629 dlaw_1630 ?_
  refine r_aload_n hX dlaw_1631 rfl rfl ?_
  refine r_callW hX hg (z_L_copyClock ad ae cs S T (mJof S th) [] hS ao n0 s0 _ (iZ_rng _) _ (iZ_rng _)) kh_L_225 rfl rfl (Nat.le_of_ble_eq_true rfl) ⟨(Nat.le_of_ble_eq_true rfl), (Nat.le_of_ble_eq_true rfl)⟩ ⟨by show k + 2 ≤ 652172; omega, by show n + 12 ≤ 7139589; omega⟩ dlaw_1632 (fun v9 ws9 h9 => ?_)
  obtain ⟨r9, n9, S9, g9, rfl, hw9⟩ := zU9 (W := fun S9 n9 => mRw ad ae cs (mKof S9 T) (mJof S th) [(ao, .inr (4, [.long n9, s0]))]) h9
  replace hw9 : ws9 = mRw ad ae cs (mKof S9 T) (mJof S th) [(ao, .inr (4, [.long n9, s0]))] := hw9
  subst hw9
  dsimp only [mPush]
  refine r_istore hX dlaw_1635 (by decide) rfl ?_
  refine r_aload_n hX dlaw_1637 rfl rfl ?_
  refine r_argZ (c := 1) hX hScr rfl rfl (by decide) (by omega) (by omega) dlaw_1638 dlaw_1639 dlaw_1641 dlaw_1642 dlaw_1643 ?_
  refine r_argZ (c := 2) hX hScr rfl rfl (by decide) (by omega) (by omega) dlaw_1644 dlaw_1645 dlaw_1647 dlaw_1648 dlaw_1649 ?_
  refine r_callV hX (z_X4_copyClock ad ae cs (mKof S9 T) S th [(ao, .inr (4, [.long n9, s0]))] hS _ (iZ_rng _) _ (iZ_rng _)) kv_L_227 14 rfl rfl rfl rfl (Nat.le_of_ble_eq_true rfl) ⟨(Nat.le_of_ble_eq_true rfl), (Nat.le_of_ble_eq_true rfl)⟩ ⟨by show k + 2 + 0 ≤ 652172; omega, by show n + 12 + 0 ≤ 7139589; omega⟩ dlaw_1650 (fun _ _ z => False.elim z) (fun v8 ws8 h8 => ?_)
  obtain ⟨r8, th8, S8, g8, rfl, hw8⟩ := zU8 (W := fun S8 th8 => mRw ad ae cs (mKof S9 T) (mJof S8 th8) [(ao, .inr (4, [.long n9, s0]))]) h8
  replace hw8 : ws8 = mRw ad ae cs (mKof S9 T) (mJof S8 th8) [(ao, .inr (4, [.long n9, s0]))] := hw8
  subst hw8
  dsimp only [mPush]
  obtain ⟨e1, e2, hn9, hwf⟩ := zM g9 g8 hS (fun g => hS.oClk (hS.2.2.1 (((xs (7 * t + 2)).toInt).toNat + 4) (by omega)).1 (hS.2.2.1 (((xs (7 * t + 2)).toInt).toNat + 4) (by omega)).2)
  subst S8
  subst th8
  refine r_istore hX dlaw_1653 (by decide) rfl ?_
  refine r_goto (tgt := 1857) hX dlaw_1655 (by decide) ?_
  exact r_loc (lv' := [(0, some (.ref b)), (1, some (.ref (ad 0))), (2, some (.ref (ae 0))), (3, some (.ref ao)), (4, some (.int (nI (7 * t))))]) (by exact ⟨rfl, rfl, rfl, rfl, rfl, trivial⟩) (Nat.le_refl _) (Nat.le_refl _) (back S9 T r9 n9 s0 _ _ hwf (by omega) (by omega))
set_option maxHeartbeats 1000000 in
theorem law_z28 {X : mC} {b L : Nat} {xs : Nat → Int32} {ad ae : Nat → Nat} {cs : ClassId × ClassId × ClassId} {S : mS} {T : mT2} {th : Int32} {ao t k n : Nat} {n0 : Int64} {s0 : Value} (hX : mOK X RL code 7 room_1 [] (mTy cs)) (hg : mHas X mNc) (hScr : mScr X b L xs) (hE : mLE X b) (hS : sWF S) (hL : L ≤ 3584) (hi : 7 * t + 6 < L) (hk : k + 100 ≤ 652172) (hn : n + 2500 ≤ 7139589) (back : mBkZ X b ad ae cs ao t k n) : mV X 1658 [(0, some (.ref b)), (1, some (.ref (ad 0))), (2, some (.ref (ae 0))), (3, some (.ref ao)), (4, some (.int (nI (7 * t))))] [] (mRw ad ae cs (mKof S T) (mJof S th) [(ao, .inr (4, [.long n0, s0]))]) k n := by
  refine r_aload_n hX dlaw_1658 rfl rfl ?_
  refine r_argZ (c := 1) hX hScr rfl rfl (by decide) (by omega) (by omega) dlaw_1659 dlaw_1660 dlaw_1662 dlaw_1663 dlaw_1664 ?_
  refine r_argZ (c := 2) hX hScr rfl rfl (by decide) (by omega) (by omega) dlaw_1665 dlaw_1666 dlaw_1668 dlaw_1669 dlaw_1670 ?_
  refine r_aload_n hX dlaw_1671 rfl rfl ?_
  refine r_callW hX hg (z_L_ofClock ad ae cs S T (mJof S th) [] hS ao n0 s0 _ (iZ_rng _) _ (iZ_rng _)) kh_L_228 rfl rfl (Nat.le_of_ble_eq_true rfl) ⟨(Nat.le_of_ble_eq_true rfl), (Nat.le_of_ble_eq_true rfl)⟩ ⟨by show k + 2 ≤ 652172; omega, by show n + 12 ≤ 7139589; omega⟩ dlaw_1672 (fun v9 ws9 h9 => ?_)
  obtain ⟨r9, n9, S9, g9, rfl, hw9⟩ := zU9 (W := fun S9 n9 => mRw ad ae cs (mKof S9 T) (mJof S th) [(ao, .inr (4, [.long n9, s0]))]) h9
  replace hw9 : ws9 = mRw ad ae cs (mKof S9 T) (mJof S th) [(ao, .inr (4, [.long n9, s0]))] := hw9
  subst hw9
  dsimp only [mPush]
  refine r_istore hX dlaw_1675 (by decide) rfl ?_
  refine r_aload_n hX dlaw_1677 rfl rfl ?_
  refine r_argZ (c := 1) hX hScr rfl rfl (by decide) (by omega) (by omega) dlaw_1678 dlaw_1679 dlaw_1681 dlaw_1682 dlaw_1683 ?_
  refine r_argZ (c := 2) hX hScr rfl rfl (by decide) (by omega) (by omega) dlaw_1684 dlaw_1685 dlaw_1687 dlaw_1688 dlaw_1689 ?_
  refine r_callV hX (z_X4_ofClock ad ae cs (mKof S9 T) S th [(ao, .inr (4, [.long n9, s0]))] hS _ (iZ_rng _) _ (iZ_rng _)) kv_L_230 14 rfl rfl rfl rfl (Nat.le_of_ble_eq_true rfl) ⟨(Nat.le_of_ble_eq_true rfl), (Nat.le_of_ble_eq_true rfl)⟩ ⟨by show k + 2 + 1 ≤ 652172; omega, by show n + 12 + 4 ≤ 7139589; omega⟩ dlaw_1690 (fun _ _ z => False.elim z) (fun v8 ws8 h8 => ?_)
  obtain ⟨r8, th8, S8, g8, rfl, hw8⟩ := zU8 (W := fun S8 th8 => mRw ad ae cs (mKof S9 T) (mJof S8 th8) [(ao, .inr (4, [.long n9, s0]))]) h8
  replace hw8 : ws8 = mRw ad ae cs (mKof S9 T) (mJof S8 th8) [(ao, .inr (4, [.long n9, s0]))] := hw8
  subst hw8
  dsimp only [mPush]
  obtain ⟨e1, e2, hn9, hwf⟩ := zM g9 g8 hS (fun g => hS)
  subst S8
  subst th8
  refine r_istore hX dlaw_1693 (by decide) rfl ?_
  refine r_goto (tgt := 1857) hX dlaw_1695 (by decide) ?_
  exact r_loc (lv' := [(0, some (.ref b)), (1, some (.ref (ad 0))), (2, some (.ref (ae 0))), (3, some (.ref ao)), (4, some (.int (nI (7 * t))))]) (by exact ⟨rfl, rfl, rfl, rfl, rfl, trivial⟩) (Nat.le_refl _) (Nat.le_refl _) (back S9 T r9 n9 s0 _ _ hwf (by omega) (by omega))
set_option maxHeartbeats 1000000 in
theorem law_z29 {X : mC} {b L : Nat} {xs : Nat → Int32} {ad ae : Nat → Nat} {cs : ClassId × ClassId × ClassId} {S : mS} {T : mT2} {th : Int32} {ao t k n : Nat} {n0 : Int64} {s0 : Value} (hX : mOK X RL code 7 room_1 [] (mTy cs)) (hg : mHas X mNc) (hScr : mScr X b L xs) (hE : mLE X b) (hS : sWF S) (hL : L ≤ 3584) (hi : 7 * t + 6 < L) (hk : k + 100 ≤ 652172) (hn : n + 2500 ≤ 7139589) (back : mBkZ X b ad ae cs ao t k n) : mV X 1698 [(0, some (.ref b)), (1, some (.ref (ad 0))), (2, some (.ref (ae 0))), (3, some (.ref ao)), (4, some (.int (nI (7 * t))))] [] (mRw ad ae cs (mKof S T) (mJof S th) [(ao, .inr (4, [.long n0, s0]))]) k n := by
  refine r_aload_n hX dlaw_1698 rfl rfl ?_
  refine r_argZ (c := 1) hX hScr rfl rfl (by decide) (by omega) (by omega) dlaw_1699 dlaw_1700 dlaw_1702 dlaw_1703 dlaw_1704 ?_
  refine r_argZ (c := 2) hX hScr rfl rfl (by decide) (by omega) (by omega) dlaw_1705 dlaw_1706 dlaw_1708 dlaw_1709 dlaw_1710 ?_
  refine r_aload_n hX dlaw_1711 rfl rfl ?_
  refine r_callW hX hg (z_L_orderClock ad ae cs S T (mJof S th) [] hS ao n0 s0 _ (iZ_rng _) _ (iZ_rng _)) kh_L_231 rfl rfl (Nat.le_of_ble_eq_true rfl) ⟨(Nat.le_of_ble_eq_true rfl), (Nat.le_of_ble_eq_true rfl)⟩ ⟨by show k + 2 ≤ 652172; omega, by show n + 12 ≤ 7139589; omega⟩ dlaw_1712 (fun v9 ws9 h9 => ?_)
  obtain ⟨r9, n9, S9, g9, rfl, hw9⟩ := zU9 (W := fun S9 n9 => mRw ad ae cs (mKof S9 T) (mJof S th) [(ao, .inr (4, [.long n9, s0]))]) h9
  replace hw9 : ws9 = mRw ad ae cs (mKof S9 T) (mJof S th) [(ao, .inr (4, [.long n9, s0]))] := hw9
  subst hw9
  dsimp only [mPush]
  refine r_istore hX dlaw_1715 (by decide) rfl ?_
  refine r_aload_n hX dlaw_1717 rfl rfl ?_
  refine r_argZ (c := 1) hX hScr rfl rfl (by decide) (by omega) (by omega) dlaw_1718 dlaw_1719 dlaw_1721 dlaw_1722 dlaw_1723 ?_
  refine r_argZ (c := 2) hX hScr rfl rfl (by decide) (by omega) (by omega) dlaw_1724 dlaw_1725 dlaw_1727 dlaw_1728 dlaw_1729 ?_
  refine r_callV hX (z_X4_orderClock ad ae cs (mKof S9 T) S th [(ao, .inr (4, [.long n9, s0]))] hS _ (iZ_rng _) _ (iZ_rng _)) kv_L_233 14 rfl rfl rfl rfl (Nat.le_of_ble_eq_true rfl) ⟨(Nat.le_of_ble_eq_true rfl), (Nat.le_of_ble_eq_true rfl)⟩ ⟨by show k + 2 + 0 ≤ 652172; omega, by show n + 12 + 0 ≤ 7139589; omega⟩ dlaw_1730 (fun _ _ z => False.elim z) (fun v8 ws8 h8 => ?_)
  obtain ⟨r8, th8, S8, g8, rfl, hw8⟩ := zU8 (W := fun S8 th8 => mRw ad ae cs (mKof S9 T) (mJof S8 th8) [(ao, .inr (4, [.long n9, s0]))]) h8
  replace hw8 : ws8 = mRw ad ae cs (mKof S9 T) (mJof S8 th8) [(ao, .inr (4, [.long n9, s0]))] := hw8
  subst hw8
  dsimp only [mPush]
  obtain ⟨e1, e2, hn9, hwf⟩ := zM g9 g8 hS (fun g => hS)
  subst S8
  subst th8
  refine r_istore hX dlaw_1733 (by decide) rfl ?_
  refine r_goto (tgt := 1857) hX dlaw_1735 (by decide) ?_
  exact r_loc (lv' := [(0, some (.ref b)), (1, some (.ref (ad 0))), (2, some (.ref (ae 0))), (3, some (.ref ao)), (4, some (.int (nI (7 * t))))]) (by exact ⟨rfl, rfl, rfl, rfl, rfl, trivial⟩) (Nat.le_refl _) (Nat.le_refl _) (back S9 T r9 n9 s0 _ _ hwf (by omega) (by omega))
set_option maxHeartbeats 1000000 in
theorem law_z30 {X : mC} {b L : Nat} {xs : Nat → Int32} {ad ae : Nat → Nat} {cs : ClassId × ClassId × ClassId} {S : mS} {T : mT2} {th : Int32} {ao t k n : Nat} {n0 : Int64} {s0 : Value} (hX : mOK X RL code 7 room_1 [] (mTy cs)) (hg : mHas X mNc) (hScr : mScr X b L xs) (hE : mLE X b) (hS : sWF S) (hL : L ≤ 3584) (hi : 7 * t + 6 < L) (hk : k + 100 ≤ 652172) (hn : n + 2500 ≤ 7139589) (back : mBkZ X b ad ae cs ao t k n) : mV X 1738 [(0, some (.ref b)), (1, some (.ref (ad 0))), (2, some (.ref (ae 0))), (3, some (.ref ao)), (4, some (.int (nI (7 * t))))] [] (mRw ad ae cs (mKof S T) (mJof S th) [(ao, .inr (4, [.long n0, s0]))]) k n := by
  refine r_aload_n hX dlaw_1738 rfl rfl ?_
  refine r_argZ (c := 1) hX hScr rfl rfl (by decide) (by omega) (by omega) dlaw_1739 dlaw_1740 dlaw_1742 dlaw_1743 dlaw_1744 ?_
  refine r_argZ (c := 2) hX hScr rfl rfl (by decide) (by omega) (by omega) dlaw_1745 dlaw_1746 dlaw_1748 dlaw_1749 dlaw_1750 ?_
  refine r_argZ (c := 3) hX hScr rfl rfl (by decide) (by omega) (by omega) dlaw_1751 dlaw_1752 dlaw_1754 dlaw_1755 dlaw_1756 ?_
  refine r_aload_n hX dlaw_1757 rfl rfl ?_
  refine r_callW hX hg (z_L_isClock ad ae cs S T (mJof S th) [] hS ao n0 s0 _ (iZ_rng _) _ (iZ_rng _) _ (iZ_rng _)) kh_L_234 rfl rfl (Nat.le_of_ble_eq_true rfl) ⟨(Nat.le_of_ble_eq_true rfl), (Nat.le_of_ble_eq_true rfl)⟩ ⟨by show k + 3 ≤ 652172; omega, by show n + 18 ≤ 7139589; omega⟩ dlaw_1758 (fun v9 ws9 h9 => ?_)
  obtain ⟨r9, n9, S9, g9, rfl, hw9⟩ := zU9 (W := fun S9 n9 => mRw ad ae cs (mKof S9 T) (mJof S th) [(ao, .inr (4, [.long n9, s0]))]) h9
  replace hw9 : ws9 = mRw ad ae cs (mKof S9 T) (mJof S th) [(ao, .inr (4, [.long n9, s0]))] := hw9
  subst hw9
  dsimp only [mPush]
  refine r_istore hX dlaw_1761 (by decide) rfl ?_
  refine r_aload_n hX dlaw_1763 rfl rfl ?_
  refine r_argZ (c := 1) hX hScr rfl rfl (by decide) (by omega) (by omega) dlaw_1764 dlaw_1765 dlaw_1767 dlaw_1768 dlaw_1769 ?_
  refine r_argZ (c := 2) hX hScr rfl rfl (by decide) (by omega) (by omega) dlaw_1770 dlaw_1771 dlaw_1773 dlaw_1774 dlaw_1775 ?_
  refine r_argZ (c := 3) hX hScr rfl rfl (by decide) (by omega) (by omega) dlaw_1776 dlaw_1777 dlaw_1779 dlaw_1780 dlaw_1781 ?_
  refine r_callV hX (z_X4_isClock ad ae cs (mKof S9 T) S th [(ao, .inr (4, [.long n9, s0]))] hS _ (iZ_rng _) _ (iZ_rng _) _ (iZ_rng _)) kv_L_236 14 rfl rfl rfl rfl (Nat.le_of_ble_eq_true rfl) ⟨(Nat.le_of_ble_eq_true rfl), (Nat.le_of_ble_eq_true rfl)⟩ ⟨by show k + 3 + 0 ≤ 652172; omega, by show n + 18 + 0 ≤ 7139589; omega⟩ dlaw_1782 (fun _ _ z => False.elim z) (fun v8 ws8 h8 => ?_)
  obtain ⟨r8, th8, S8, g8, rfl, hw8⟩ := zU8 (W := fun S8 th8 => mRw ad ae cs (mKof S9 T) (mJof S8 th8) [(ao, .inr (4, [.long n9, s0]))]) h8
  replace hw8 : ws8 = mRw ad ae cs (mKof S9 T) (mJof S8 th8) [(ao, .inr (4, [.long n9, s0]))] := hw8
  subst hw8
  dsimp only [mPush]
  obtain ⟨e1, e2, hn9, hwf⟩ := zM g9 g8 hS (fun g => hS)
  subst S8
  subst th8
  refine r_istore hX dlaw_1785 (by decide) rfl ?_
  refine r_goto (tgt := 1857) hX dlaw_1787 (by decide) ?_
  exact r_loc (lv' := [(0, some (.ref b)), (1, some (.ref (ad 0))), (2, some (.ref (ae 0))), (3, some (.ref ao)), (4, some (.int (nI (7 * t))))]) (by exact ⟨rfl, rfl, rfl, rfl, rfl, trivial⟩) (Nat.le_refl _) (Nat.le_refl _) (back S9 T r9 n9 s0 _ _ hwf (by omega) (by omega))
set_option maxHeartbeats 1000000 in
theorem law_z31 {X : mC} {b L : Nat} {xs : Nat → Int32} {ad ae : Nat → Nat} {cs : ClassId × ClassId × ClassId} {S : mS} {T : mT2} {th : Int32} {ao t k n : Nat} {n0 : Int64} {s0 : Value} (hX : mOK X RL code 7 room_1 [] (mTy cs)) (hg : mHas X mNc) (hScr : mScr X b L xs) (hE : mLE X b) (hS : sWF S) (hL : L ≤ 3584) (hi : 7 * t + 6 < L) (hk : k + 100 ≤ 652172) (hn : n + 2500 ≤ 7139589) (back : mBkZ X b ad ae cs ao t k n) : mV X 1790 [(0, some (.ref b)), (1, some (.ref (ad 0))), (2, some (.ref (ae 0))), (3, some (.ref ao)), (4, some (.int (nI (7 * t))))] [] (mRw ad ae cs (mKof S T) (mJof S th) [(ao, .inr (4, [.long n0, s0]))]) k n := by
  refine r_aload_n hX dlaw_1790 rfl rfl ?_
  refine r_callV hX (z_X2_knock ad cs S T _) kv_L_237 0 rfl rfl rfl rfl (Nat.le_of_ble_eq_true rfl) ⟨(Nat.le_of_ble_eq_true rfl), (Nat.le_of_ble_eq_true rfl)⟩ ⟨by show k + 0 ≤ 652172; omega, by show n + 0 ≤ 7139589; omega⟩ dlaw_1791 (fun _ _ z => False.elim z) (fun v9 ws9 h9 => ?_)
  obtain ⟨rfl, hw9⟩ := h9
  replace hw9 : ws9 = mRw ad ae cs (mKof (sKn S) T) (mJof S th) [(ao, .inr (4, [.long n0, s0]))] := hw9
  subst hw9
  dsimp only [mPush]
  refine r_pop hX dlaw_1794 rfl ?_
  refine r_aload_n hX dlaw_1795 rfl rfl ?_
  refine r_callV hX (z_X4_knock ad ae cs (mKof (sKn S) T) S th [(ao, .inr (4, [.long n0, s0]))]) kv_L_241 14 rfl rfl rfl rfl (Nat.le_of_ble_eq_true rfl) ⟨(Nat.le_of_ble_eq_true rfl), (Nat.le_of_ble_eq_true rfl)⟩ ⟨by show k + 0 + 0 ≤ 652172; omega, by show n + 0 + 0 ≤ 7139589; omega⟩ dlaw_1796 (fun _ _ z => False.elim z) (fun v8 ws8 h8 => ?_)
  obtain ⟨rfl, hw8⟩ := h8
  replace hw8 : ws8 = mRw ad ae cs (mKof (sKn S) T) (mJof (sKn S) 0) [(ao, .inr (4, [.long n0, s0]))] := hw8
  subst hw8
  dsimp only [mPush]
  refine r_pop hX dlaw_1799 rfl ?_
  refine r_goto (tgt := 1857) hX dlaw_1800 (by decide) ?_
  exact r_loc (lv' := [(0, some (.ref b)), (1, some (.ref (ad 0))), (2, some (.ref (ae 0))), (3, some (.ref ao)), (4, some (.int (nI (7 * t))))]) (by exact ⟨rfl, rfl, rfl, rfl, rfl, trivial⟩) (Nat.le_refl _) (Nat.le_refl _) (back (sKn S) T 0 n0 s0 _ _ hS.kn (by omega) (by omega))
set_option maxHeartbeats 1000000 in
theorem law_z32 {X : mC} {b L : Nat} {xs : Nat → Int32} {ad ae : Nat → Nat} {cs : ClassId × ClassId × ClassId} {S : mS} {T : mT2} {th : Int32} {ao t k n : Nat} {n0 : Int64} {s0 : Value} (hX : mOK X RL code 7 room_1 [] (mTy cs)) (hg : mHas X mNc) (hScr : mScr X b L xs) (hE : mLE X b) (hS : sWF S) (hL : L ≤ 3584) (hi : 7 * t + 6 < L) (hk : k + 100 ≤ 652172) (hn : n + 2500 ≤ 7139589) (back : mBkZ X b ad ae cs ao t k n) : mV X 1803 [(0, some (.ref b)), (1, some (.ref (ad 0))), (2, some (.ref (ae 0))), (3, some (.ref ao)), (4, some (.int (nI (7 * t))))] [] (mRw ad ae cs (mKof S T) (mJof S th) [(ao, .inr (4, [.long n0, s0]))]) k n := by
  refine r_aload_n hX dlaw_1803 rfl rfl ?_
  refine r_argZ (c := 1) hX hScr rfl rfl (by decide) (by omega) (by omega) dlaw_1804 dlaw_1805 dlaw_1807 dlaw_1808 dlaw_1809 ?_
  refine r_aload_n hX dlaw_1810 rfl rfl ?_
  refine r_callW hX hg (z_L_house ad ae cs S T (mJof S th) [] hS ao n0 s0 _ (iZ_rng _)) kh_L_242 rfl rfl (Nat.le_of_ble_eq_true rfl) ⟨(Nat.le_of_ble_eq_true rfl), (Nat.le_of_ble_eq_true rfl)⟩ ⟨by show k + 1 ≤ 652172; omega, by show n + 6 ≤ 7139589; omega⟩ dlaw_1811 (fun v9 ws9 h9 => ?_)
  obtain ⟨r9, n9, S9, g9, rfl, hw9⟩ := zU9 (W := fun S9 n9 => mRw ad ae cs (mKof S9 T) (mJof S th) [(ao, .inr (4, [.long n9, s0]))]) h9
  replace hw9 : ws9 = mRw ad ae cs (mKof S9 T) (mJof S th) [(ao, .inr (4, [.long n9, s0]))] := hw9
  subst hw9
  dsimp only [mPush]
  refine r_istore hX dlaw_1814 (by decide) rfl ?_
  refine r_aload_n hX dlaw_1816 rfl rfl ?_
  refine r_argZ (c := 1) hX hScr rfl rfl (by decide) (by omega) (by omega) dlaw_1817 dlaw_1818 dlaw_1820 dlaw_1821 dlaw_1822 ?_
  refine r_callV hX (z_X4_house ad ae cs (mKof S9 T) S th [(ao, .inr (4, [.long n9, s0]))] hS _ (iZ_rng _)) kv_L_244 14 rfl rfl rfl rfl (Nat.le_of_ble_eq_true rfl) ⟨(Nat.le_of_ble_eq_true rfl), (Nat.le_of_ble_eq_true rfl)⟩ ⟨by show k + 1 + 0 ≤ 652172; omega, by show n + 6 + 0 ≤ 7139589; omega⟩ dlaw_1823 (fun _ _ z => False.elim z) (fun v8 ws8 h8 => ?_)
  obtain ⟨r8, th8, S8, g8, rfl, hw8⟩ := zU8h (W := fun S8 th8 => mRw ad ae cs (mKof S9 T) (mJof S8 th8) [(ao, .inr (4, [.long n9, s0]))]) h8
  replace hw8 : ws8 = mRw ad ae cs (mKof S9 T) (mJof S8 th8) [(ao, .inr (4, [.long n9, s0]))] := hw8
  subst hw8
  dsimp only [mPush]
  obtain ⟨e1, e2, hn9, hwf⟩ := zM g9 g8 hS (fun g => hS)
  subst S8
  subst th8
  refine r_istore hX dlaw_1826 (by decide) rfl ?_
  refine r_goto (tgt := 1857) hX dlaw_1828 (by decide) ?_
  exact r_loc (lv' := [(0, some (.ref b)), (1, some (.ref (ad 0))), (2, some (.ref (ae 0))), (3, some (.ref ao)), (4, some (.int (nI (7 * t))))]) (by exact ⟨rfl, rfl, rfl, rfl, rfl, trivial⟩) (Nat.le_refl _) (Nat.le_refl _) (back S9 T r9 n9 s0 _ _ hwf (by omega) (by omega))
set_option maxHeartbeats 1000000 in
theorem law_z33 {X : mC} {b L : Nat} {xs : Nat → Int32} {ad ae : Nat → Nat} {cs : ClassId × ClassId × ClassId} {S : mS} {T : mT2} {th : Int32} {ao t k n : Nat} {n0 : Int64} {s0 : Value} (hX : mOK X RL code 7 room_1 [] (mTy cs)) (hg : mHas X mNc) (hScr : mScr X b L xs) (hE : mLE X b) (hS : sWF S) (hL : L ≤ 3584) (hi : 7 * t + 6 < L) (hk : k + 100 ≤ 652172) (hn : n + 2500 ≤ 7139589) (back : mBkZ X b ad ae cs ao t k n) : mV X 1831 [(0, some (.ref b)), (1, some (.ref (ad 0))), (2, some (.ref (ae 0))), (3, some (.ref ao)), (4, some (.int (nI (7 * t))))] [] (mRw ad ae cs (mKof S T) (mJof S th) [(ao, .inr (4, [.long n0, s0]))]) k n := by
  refine r_aload_n hX dlaw_1831 rfl rfl ?_
  refine r_callV hX (z_X2_isSound ad cs S T _ hS) kv_L_245 0 rfl rfl rfl rfl (Nat.le_of_ble_eq_true rfl) ⟨(Nat.le_of_ble_eq_true rfl), (Nat.le_of_ble_eq_true rfl)⟩ ⟨by show k + 0 ≤ 652172; omega, by show n + 0 ≤ 7139589; omega⟩ dlaw_1832 (fun _ _ z => False.elim z) (fun v9 ws9 h9 => ?_)
  obtain ⟨rfl, T9, hw9⟩ := h9
  replace hw9 : ws9 = mRw ad ae cs (mKof S T9) (mJof S th) [(ao, .inr (4, [.long n0, s0]))] := hw9
  subst hw9
  dsimp only [mPush]
  refine r_aload_n hX dlaw_1835 rfl rfl ?_
  refine r_callV hX (z_X4_isSound ad ae cs (mKof S T9) S th [(ao, .inr (4, [.long n0, s0]))]) kv_L_249 14 rfl rfl rfl rfl (Nat.le_of_ble_eq_true rfl) ⟨(Nat.le_of_ble_eq_true rfl), (Nat.le_of_ble_eq_true rfl)⟩ ⟨by show k + 0 + 0 ≤ 652172; omega, by show n + 0 + 0 ≤ 7139589; omega⟩ dlaw_1836 (fun _ _ z => False.elim z) (fun v8 ws8 h8 => ?_)
  obtain ⟨rfl, hw8⟩ := h8
  replace hw8 : ws8 = mRw ad ae cs (mKof S T9) (mJof S 0) [(ao, .inr (4, [.long n0, s0]))] := hw8
  subst hw8
  dsimp only [mPush]
  refine r_icmp_eq (tgt := 1857) hX dlaw_1839 (by decide) (fun _ => ?_) (fun h7 => (h7 rfl).elim)
  exact r_loc (lv' := [(0, some (.ref b)), (1, some (.ref (ad 0))), (2, some (.ref (ae 0))), (3, some (.ref ao)), (4, some (.int (nI (7 * t))))]) (by exact ⟨rfl, rfl, rfl, rfl, rfl, trivial⟩) (Nat.le_refl _) (Nat.le_refl _) (back S T9 0 n0 s0 _ _ hS (by omega) (by omega))
set_option maxHeartbeats 1000000 in
theorem law_z34 {X : mC} {b L : Nat} {xs : Nat → Int32} {ad ae : Nat → Nat} {cs : ClassId × ClassId × ClassId} {S : mS} {T : mT2} {th : Int32} {ao t k n : Nat} {n0 : Int64} {s0 : Value} (hX : mOK X RL code 7 room_1 [] (mTy cs)) (hg : mHas X mNc) (hScr : mScr X b L xs) (hE : mLE X b) (hS : sWF S) (hL : L ≤ 3584) (hi : 7 * t + 6 < L) (hk : k + 100 ≤ 652172) (hn : n + 2500 ≤ 7139589) (back : mBkZ X b ad ae cs ao t k n) : mV X 1844 [(0, some (.ref b)), (1, some (.ref (ad 0))), (2, some (.ref (ae 0))), (3, some (.ref ao)), (4, some (.int (nI (7 * t))))] [] (mRw ad ae cs (mKof S T) (mJof S th) [(ao, .inr (4, [.long n0, s0]))]) k n := by
  refine r_aload_n hX dlaw_1844 rfl rfl ?_
  refine r_callV hX (z_X2_digest ad cs S T _ hS) kv_L_250 0 rfl rfl rfl rfl (Nat.le_of_ble_eq_true rfl) ⟨(Nat.le_of_ble_eq_true rfl), (Nat.le_of_ble_eq_true rfl)⟩ ⟨by show k + 12 ≤ 652172; omega, by show n + 72 ≤ 7139589; omega⟩ dlaw_1845 (fun _ _ z => False.elim z) (fun v9 ws9 h9 => ?_)
  obtain ⟨rfl, T9, hw9⟩ := h9
  replace hw9 : ws9 = mRw ad ae cs (mKof S T9) (mJof S th) [(ao, .inr (4, [.long n0, s0]))] := hw9
  subst hw9
  dsimp only [mPush]
  refine r_pop2 hX dlaw_1848 rfl ?_
  refine r_aload_n hX dlaw_1849 rfl rfl ?_
  refine r_callV hX (z_X4_digest ad ae cs (mKof S T9) S th [(ao, .inr (4, [.long n0, s0]))] hS) kv_L_254 14 rfl rfl rfl rfl (Nat.le_of_ble_eq_true rfl) ⟨(Nat.le_of_ble_eq_true rfl), (Nat.le_of_ble_eq_true rfl)⟩ ⟨by show k + 12 + 70 ≤ 652172; omega, by show n + 72 + 280 ≤ 7139589; omega⟩ dlaw_1850 (fun _ _ z => False.elim z) (fun v8 ws8 h8 => ?_)
  obtain ⟨rfl, hw8⟩ := h8
  replace hw8 : ws8 = mRw ad ae cs (mKof S T9) (mJof S 0) [(ao, .inr (4, [.long n0, s0]))] := hw8
  subst hw8
  dsimp only [mPush]
  refine r_pop2 hX dlaw_1853 rfl ?_
  refine r_goto (tgt := 1857) hX dlaw_1854 (by decide) ?_
  exact r_loc (lv' := [(0, some (.ref b)), (1, some (.ref (ad 0))), (2, some (.ref (ae 0))), (3, some (.ref ao)), (4, some (.int (nI (7 * t))))]) (by exact ⟨rfl, rfl, rfl, rfl, rfl, trivial⟩) (Nat.le_refl _) (Nat.le_refl _) (back S T9 0 n0 s0 _ _ hS (by omega) (by omega))
end
