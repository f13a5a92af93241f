-- 82 zcase
section
/-! The law's cases, exact. (Rows by a program of this repository.) -/
/-- the loop goes on behind a case -/
def mBkZ (X : mC) (b : Nat) (ad ae : Nat → Nat) (cs : ClassId × ClassId × ClassId) (ao t k n : Nat) : Prop := ∀ (S' : mS) (T' : mT2) (th' : Int32) (n1 : Int64) (s1 : Value) (k' n' : Nat), sWF S' → k' ≤ k + 100 → n' ≤ n + 2500 → mV X 1886 [(0, some (.ref b)), (1, some (.ref (ad 0))), (2, some (.ref (ae 0))), (3, some (.ref ao)), (4, some (.int (nI (7 * t))))] [] (mRw ad ae cs (mKof S' T') (mJof S' th') [(ao, .inr (4, [.long n1, s1]))]) k' n'
set_option maxHeartbeats 1000000 in
theorem law_z0 {X : mC} {b L : Nat} {xs : Nat → Int32} {ad ae : Nat → Nat} {cs : ClassId × ClassId × ClassId} {S : mS} {T : mT2} {th : Int32} {ao t k n : Nat} {n0 : Int64} {s0 : Value} (hX : mOK X RL code 7 room_1 [] (mTy cs)) (hg : mHas X mNc) (hScr : mScr X b L xs) (hE : mLE X b) (hS : sWF S) (hL : L ≤ 3584) (hi : 7 * t + 6 < L) (hk : k + 100 ≤ 652172) (hn : n + 2500 ≤ 7139589) (back : mBkZ X b ad ae cs ao t k n) : mV X 200 [(0, some (.ref b)), (1, some (.ref (ad 0))), (2, some (.ref (ae 0))), (3, some (.ref ao)), (4, some (.int (nI (7 * t))))] [] (mRw ad ae cs (mKof S T) (mJof S th) [(ao, .inr (4, [.long n0, s0]))]) k n := by
  refine r_aload_n hX dlaw_200 rfl rfl ?_
  refine r_argZ (c := 1) hX hScr rfl rfl (by decide) (by omega) (by omega) dlaw_201 dlaw_202 dlaw_204 dlaw_205 dlaw_206 ?_
  refine r_argZ (c := 2) hX hScr rfl rfl (by decide) (by omega) (by omega) dlaw_207 dlaw_208 dlaw_210 dlaw_211 dlaw_212 ?_
  refine r_aload_n hX dlaw_213 rfl rfl ?_
  refine r_callW hX hg (z_L_offset ad ae cs S T (mJof S th) [] hS ao n0 s0 _ (iZ_rng _) _ (iZ_rng _)) kh_L_134 rfl rfl (Nat.le_of_ble_eq_true rfl) ⟨(Nat.le_of_ble_eq_true rfl), (Nat.le_of_ble_eq_true rfl)⟩ ⟨by show k + 2 ≤ 652172; omega, by show n + 12 ≤ 7139589; omega⟩ dlaw_214 (fun v9 ws9 h9 => ?_)
  obtain ⟨r9, n9, S9, g9, rfl, hw9⟩ := zU9 (W := fun S9 n9 => mRw ad ae cs (mKof S9 T) (mJof S th) [(ao, .inr (4, [.long n9, s0]))]) h9
  replace hw9 : ws9 = mRw ad ae cs (mKof S9 T) (mJof S th) [(ao, .inr (4, [.long n9, s0]))] := hw9
  subst hw9
  dsimp only [mPush]
  refine r_istore hX dlaw_217 (by decide) rfl ?_
  refine r_aload_n hX dlaw_219 rfl rfl ?_
  refine r_argZ (c := 1) hX hScr rfl rfl (by decide) (by omega) (by omega) dlaw_220 dlaw_221 dlaw_223 dlaw_224 dlaw_225 ?_
  refine r_argZ (c := 2) hX hScr rfl rfl (by decide) (by omega) (by omega) dlaw_226 dlaw_227 dlaw_229 dlaw_230 dlaw_231 ?_
  refine r_callV hX (z_X4_offset ad ae cs (mKof S9 T) S th [(ao, .inr (4, [.long n9, s0]))] hS _ (iZ_rng _) _ (iZ_rng _)) kv_L_139 14 rfl rfl rfl rfl (Nat.le_of_ble_eq_true rfl) ⟨(Nat.le_of_ble_eq_true rfl), (Nat.le_of_ble_eq_true rfl)⟩ ⟨by show k + 2 + 0 ≤ 652172; omega, by show n + 12 + 0 ≤ 7139589; omega⟩ dlaw_232 (fun _ _ z => False.elim z) (fun v8 ws8 h8 => ?_)
  obtain ⟨r8, th8, S8, g8, rfl, hw8⟩ := zU8 (W := fun S8 th8 => mRw ad ae cs (mKof S9 T) (mJof S8 th8) [(ao, .inr (4, [.long n9, s0]))]) h8
  replace hw8 : ws8 = mRw ad ae cs (mKof S9 T) (mJof S8 th8) [(ao, .inr (4, [.long n9, s0]))] := hw8
  subst hw8
  dsimp only [mPush]
  obtain ⟨e1, e2, hn9, hwf⟩ := zM g9 g8 hS (fun g => hS.of g.2)
  subst S8
  subst th8
  refine r_istore hX dlaw_235 (by decide) rfl ?_
  refine r_goto (tgt := 1886) hX dlaw_237 (by decide) ?_
  exact r_loc (lv' := [(0, some (.ref b)), (1, some (.ref (ad 0))), (2, some (.ref (ae 0))), (3, some (.ref ao)), (4, some (.int (nI (7 * t))))]) (by exact ⟨rfl, rfl, rfl, rfl, rfl, trivial⟩) (Nat.le_refl _) (Nat.le_refl _) (back S9 T r9 n9 s0 _ _ hwf (by omega) (by omega))
set_option maxHeartbeats 1000000 in
theorem law_z1 {X : mC} {b L : Nat} {xs : Nat → Int32} {ad ae : Nat → Nat} {cs : ClassId × ClassId × ClassId} {S : mS} {T : mT2} {th : Int32} {ao t k n : Nat} {n0 : Int64} {s0 : Value} (hX : mOK X RL code 7 room_1 [] (mTy cs)) (hg : mHas X mNc) (hScr : mScr X b L xs) (hE : mLE X b) (hS : sWF S) (hL : L ≤ 3584) (hi : 7 * t + 6 < L) (hk : k + 100 ≤ 652172) (hn : n + 2500 ≤ 7139589) (back : mBkZ X b ad ae cs ao t k n) : mV X 240 [(0, some (.ref b)), (1, some (.ref (ad 0))), (2, some (.ref (ae 0))), (3, some (.ref ao)), (4, some (.int (nI (7 * t))))] [] (mRw ad ae cs (mKof S T) (mJof S th) [(ao, .inr (4, [.long n0, s0]))]) k n := by
  refine r_aload_n hX dlaw_240 rfl rfl ?_
  refine r_argZ (c := 1) hX hScr rfl rfl (by decide) (by omega) (by omega) dlaw_241 dlaw_242 dlaw_244 dlaw_245 dlaw_246 ?_
  refine r_argZ (c := 2) hX hScr rfl rfl (by decide) (by omega) (by omega) dlaw_247 dlaw_248 dlaw_250 dlaw_251 dlaw_252 ?_
  refine r_argZ (c := 3) hX hScr rfl rfl (by decide) (by omega) (by omega) dlaw_253 dlaw_254 dlaw_256 dlaw_257 dlaw_258 ?_
  refine r_argZ (c := 4) hX hScr rfl rfl (by decide) (by omega) (by omega) dlaw_259 dlaw_260 dlaw_262 dlaw_263 dlaw_264 ?_
  refine r_aload_n hX dlaw_265 rfl rfl ?_
  refine r_callW hX hg (z_L_offsetOf ad ae cs S T (mJof S th) [] hS ao n0 s0 _ (iZ_rng _) _ (iZ_rng _) _ (iZ_rng _) _ (iZ_rng _)) kh_L_140 rfl rfl (Nat.le_of_ble_eq_true rfl) ⟨(Nat.le_of_ble_eq_true rfl), (Nat.le_of_ble_eq_true rfl)⟩ ⟨by show k + 1 ≤ 652172; omega, by show n + 6 ≤ 7139589; omega⟩ dlaw_266 (fun v9 ws9 h9 => ?_)
  obtain ⟨r9, n9, S9, g9, rfl, hw9⟩ := zU9 (W := fun S9 n9 => mRw ad ae cs (mKof S9 T) (mJof S th) [(ao, .inr (4, [.long n9, s0]))]) h9
  replace hw9 : ws9 = mRw ad ae cs (mKof S9 T) (mJof S th) [(ao, .inr (4, [.long n9, s0]))] := hw9
  subst hw9
  dsimp only [mPush]
  refine r_istore hX dlaw_269 (by decide) rfl ?_
  refine r_aload_n hX dlaw_271 rfl rfl ?_
  refine r_argZ (c := 1) hX hScr rfl rfl (by decide) (by omega) (by omega) dlaw_272 dlaw_273 dlaw_275 dlaw_276 dlaw_277 ?_
  refine r_argZ (c := 2) hX hScr rfl rfl (by decide) (by omega) (by omega) dlaw_278 dlaw_279 dlaw_281 dlaw_282 dlaw_283 ?_
  refine r_argZ (c := 3) hX hScr rfl rfl (by decide) (by omega) (by omega) dlaw_284 dlaw_285 dlaw_287 dlaw_288 dlaw_289 ?_
  refine r_argZ (c := 4) hX hScr rfl rfl (by decide) (by omega) (by omega) dlaw_290 dlaw_291 dlaw_293 dlaw_294 dlaw_295 ?_
  refine r_callV hX (z_X4_offsetOf ad ae cs (mKof S9 T) S th [(ao, .inr (4, [.long n9, s0]))] hS _ (iZ_rng _) _ (iZ_rng _) _ (iZ_rng _) _ (iZ_rng _)) kv_L_143 14 rfl rfl rfl rfl (Nat.le_of_ble_eq_true rfl) ⟨(Nat.le_of_ble_eq_true rfl), (Nat.le_of_ble_eq_true rfl)⟩ ⟨by show k + 1 + 0 ≤ 652172; omega, by show n + 6 + 0 ≤ 7139589; omega⟩ dlaw_296 (fun _ _ z => False.elim z) (fun v8 ws8 h8 => ?_)
  obtain ⟨r8, th8, S8, g8, rfl, hw8⟩ := zU8 (W := fun S8 th8 => mRw ad ae cs (mKof S9 T) (mJof S8 th8) [(ao, .inr (4, [.long n9, s0]))]) h8
  replace hw8 : ws8 = mRw ad ae cs (mKof S9 T) (mJof S8 th8) [(ao, .inr (4, [.long n9, s0]))] := hw8
  subst hw8
  dsimp only [mPush]
  obtain ⟨e1, e2, hn9, hwf⟩ := zM g9 g8 hS (fun g => wf_oOff hS)
  subst S8
  subst th8
  refine r_istore hX dlaw_299 (by decide) rfl ?_
  refine r_goto (tgt := 1886) hX dlaw_301 (by decide) ?_
  exact r_loc (lv' := [(0, some (.ref b)), (1, some (.ref (ad 0))), (2, some (.ref (ae 0))), (3, some (.ref ao)), (4, some (.int (nI (7 * t))))]) (by exact ⟨rfl, rfl, rfl, rfl, rfl, trivial⟩) (Nat.le_refl _) (Nat.le_refl _) (back S9 T r9 n9 s0 _ _ hwf (by omega) (by omega))
set_option maxHeartbeats 1000000 in
theorem law_z2 {X : mC} {b L : Nat} {xs : Nat → Int32} {ad ae : Nat → Nat} {cs : ClassId × ClassId × ClassId} {S : mS} {T : mT2} {th : Int32} {ao t k n : Nat} {n0 : Int64} {s0 : Value} (hX : mOK X RL code 7 room_1 [] (mTy cs)) (hg : mHas X mNc) (hScr : mScr X b L xs) (hE : mLE X b) (hS : sWF S) (hL : L ≤ 3584) (hi : 7 * t + 6 < L) (hk : k + 100 ≤ 652172) (hn : n + 2500 ≤ 7139589) (back : mBkZ X b ad ae cs ao t k n) : mV X 304 [(0, some (.ref b)), (1, some (.ref (ad 0))), (2, some (.ref (ae 0))), (3, some (.ref ao)), (4, some (.int (nI (7 * t))))] [] (mRw ad ae cs (mKof S T) (mJof S th) [(ao, .inr (4, [.long n0, s0]))]) k n := by
  refine r_aload_n hX dlaw_304 rfl rfl ?_
  refine r_argZ (c := 1) hX hScr rfl rfl (by decide) (by omega) (by omega) dlaw_305 dlaw_306 dlaw_308 dlaw_309 dlaw_310 ?_
  refine r_aload_n hX dlaw_311 rfl rfl ?_
  refine r_callW hX hg (z_L_seconds ad ae cs S T (mJof S th) [] hS ao n0 s0 _ (iZ_rng _)) kh_L_144 rfl rfl (Nat.le_of_ble_eq_true rfl) ⟨(Nat.le_of_ble_eq_true rfl), (Nat.le_of_ble_eq_true rfl)⟩ ⟨by show k + 1 ≤ 652172; omega, by show n + 6 ≤ 7139589; omega⟩ dlaw_312 (fun v9 ws9 h9 => ?_)
  obtain ⟨r9, n9, S9, g9, rfl, hw9⟩ := zU9 (W := fun S9 n9 => mRw ad ae cs (mKof S9 T) (mJof S th) [(ao, .inr (4, [.long n9, s0]))]) h9
  replace hw9 : ws9 = mRw ad ae cs (mKof S9 T) (mJof S th) [(ao, .inr (4, [.long n9, s0]))] := hw9
  subst hw9
  dsimp only [mPush]
  refine r_istore hX dlaw_315 (by decide) rfl ?_
  refine r_aload_n hX dlaw_317 rfl rfl ?_
  refine r_argZ (c := 1) hX hScr rfl rfl (by decide) (by omega) (by omega) dlaw_318 dlaw_319 dlaw_321 dlaw_322 dlaw_323 ?_
  refine r_callV hX (z_X4_seconds ad ae cs (mKof S9 T) S th [(ao, .inr (4, [.long n9, s0]))] hS _ (iZ_rng _)) kv_L_147 14 rfl rfl rfl rfl (Nat.le_of_ble_eq_true rfl) ⟨(Nat.le_of_ble_eq_true rfl), (Nat.le_of_ble_eq_true rfl)⟩ ⟨by show k + 1 + 0 ≤ 652172; omega, by show n + 6 + 0 ≤ 7139589; omega⟩ dlaw_324 (fun _ _ z => False.elim z) (fun v8 ws8 h8 => ?_)
  obtain ⟨r8, th8, S8, g8, rfl, hw8⟩ := zU8 (W := fun S8 th8 => mRw ad ae cs (mKof S9 T) (mJof S8 th8) [(ao, .inr (4, [.long n9, s0]))]) h8
  replace hw8 : ws8 = mRw ad ae cs (mKof S9 T) (mJof S8 th8) [(ao, .inr (4, [.long n9, s0]))] := hw8
  subst hw8
  dsimp only [mPush]
  obtain ⟨e1, e2, hn9, hwf⟩ := zM g9 g8 hS (fun g => hS)
  subst S8
  subst th8
  refine r_istore hX dlaw_327 (by decide) rfl ?_
  refine r_goto (tgt := 1886) hX dlaw_329 (by decide) ?_
  exact r_loc (lv' := [(0, some (.ref b)), (1, some (.ref (ad 0))), (2, some (.ref (ae 0))), (3, some (.ref ao)), (4, some (.int (nI (7 * t))))]) (by exact ⟨rfl, rfl, rfl, rfl, rfl, trivial⟩) (Nat.le_refl _) (Nat.le_refl _) (back S9 T r9 n9 s0 _ _ hwf (by omega) (by omega))
set_option maxHeartbeats 1000000 in
theorem law_z3 {X : mC} {b L : Nat} {xs : Nat → Int32} {ad ae : Nat → Nat} {cs : ClassId × ClassId × ClassId} {S : mS} {T : mT2} {th : Int32} {ao t k n : Nat} {n0 : Int64} {s0 : Value} (hX : mOK X RL code 7 room_1 [] (mTy cs)) (hg : mHas X mNc) (hScr : mScr X b L xs) (hE : mLE X b) (hS : sWF S) (hL : L ≤ 3584) (hi : 7 * t + 6 < L) (hk : k + 100 ≤ 652172) (hn : n + 2500 ≤ 7139589) (back : mBkZ X b ad ae cs ao t k n) : mV X 332 [(0, some (.ref b)), (1, some (.ref (ad 0))), (2, some (.ref (ae 0))), (3, some (.ref ao)), (4, some (.int (nI (7 * t))))] [] (mRw ad ae cs (mKof S T) (mJof S th) [(ao, .inr (4, [.long n0, s0]))]) k n := by
  refine r_aload_n hX dlaw_332 rfl rfl ?_
  refine r_argZ (c := 1) hX hScr rfl rfl (by decide) (by omega) (by omega) dlaw_333 dlaw_334 dlaw_336 dlaw_337 dlaw_338 ?_
  refine r_argZ (c := 2) hX hScr rfl rfl (by decide) (by omega) (by omega) dlaw_339 dlaw_340 dlaw_342 dlaw_343 dlaw_344 ?_
  refine r_aload_n hX dlaw_345 rfl rfl ?_
  refine r_callW hX hg (z_L_orderOffset ad ae cs S T (mJof S th) [] hS ao n0 s0 _ (iZ_rng _) _ (iZ_rng _)) kh_L_148 rfl rfl (Nat.le_of_ble_eq_true rfl) ⟨(Nat.le_of_ble_eq_true rfl), (Nat.le_of_ble_eq_true rfl)⟩ ⟨by show k + 2 ≤ 652172; omega, by show n + 12 ≤ 7139589; omega⟩ dlaw_346 (fun v9 ws9 h9 => ?_)
  obtain ⟨r9, n9, S9, g9, rfl, hw9⟩ := zU9 (W := fun S9 n9 => mRw ad ae cs (mKof S9 T) (mJof S th) [(ao, .inr (4, [.long n9, s0]))]) h9
  replace hw9 : ws9 = mRw ad ae cs (mKof S9 T) (mJof S th) [(ao, .inr (4, [.long n9, s0]))] := hw9
  subst hw9
  dsimp only [mPush]
  refine r_istore hX dlaw_349 (by decide) rfl ?_
  refine r_aload_n hX dlaw_351 rfl rfl ?_
  refine r_argZ (c := 1) hX hScr rfl rfl (by decide) (by omega) (by omega) dlaw_352 dlaw_353 dlaw_355 dlaw_356 dlaw_357 ?_
  refine r_argZ (c := 2) hX hScr rfl rfl (by decide) (by omega) (by omega) dlaw_358 dlaw_359 dlaw_361 dlaw_362 dlaw_363 ?_
  refine r_callV hX (z_X4_orderOffset ad ae cs (mKof S9 T) S th [(ao, .inr (4, [.long n9, s0]))] hS _ (iZ_rng _) _ (iZ_rng _)) kv_L_150 14 rfl rfl rfl rfl (Nat.le_of_ble_eq_true rfl) ⟨(Nat.le_of_ble_eq_true rfl), (Nat.le_of_ble_eq_true rfl)⟩ ⟨by show k + 2 + 0 ≤ 652172; omega, by show n + 12 + 0 ≤ 7139589; omega⟩ dlaw_364 (fun _ _ z => False.elim z) (fun v8 ws8 h8 => ?_)
  obtain ⟨r8, th8, S8, g8, rfl, hw8⟩ := zU8 (W := fun S8 th8 => mRw ad ae cs (mKof S9 T) (mJof S8 th8) [(ao, .inr (4, [.long n9, s0]))]) h8
  replace hw8 : ws8 = mRw ad ae cs (mKof S9 T) (mJof S8 th8) [(ao, .inr (4, [.long n9, s0]))] := hw8
  subst hw8
  dsimp only [mPush]
  obtain ⟨e1, e2, hn9, hwf⟩ := zM g9 g8 hS (fun g => hS)
  subst S8
  subst th8
  refine r_istore hX dlaw_367 (by decide) rfl ?_
  refine r_goto (tgt := 1886) hX dlaw_369 (by decide) ?_
  exact r_loc (lv' := [(0, some (.ref b)), (1, some (.ref (ad 0))), (2, some (.ref (ae 0))), (3, some (.ref ao)), (4, some (.int (nI (7 * t))))]) (by exact ⟨rfl, rfl, rfl, rfl, rfl, trivial⟩) (Nat.le_refl _) (Nat.le_refl _) (back S9 T r9 n9 s0 _ _ hwf (by omega) (by omega))
set_option maxHeartbeats 1000000 in
theorem law_z4 {X : mC} {b L : Nat} {xs : Nat → Int32} {ad ae : Nat → Nat} {cs : ClassId × ClassId × ClassId} {S : mS} {T : mT2} {th : Int32} {ao t k n : Nat} {n0 : Int64} {s0 : Value} (hX : mOK X RL code 7 room_1 [] (mTy cs)) (hg : mHas X mNc) (hScr : mScr X b L xs) (hE : mLE X b) (hS : sWF S) (hL : L ≤ 3584) (hi : 7 * t + 6 < L) (hk : k + 100 ≤ 652172) (hn : n + 2500 ≤ 7139589) (back : mBkZ X b ad ae cs ao t k n) : mV X 372 [(0, some (.ref b)), (1, some (.ref (ad 0))), (2, some (.ref (ae 0))), (3, some (.ref ao)), (4, some (.int (nI (7 * t))))] [] (mRw ad ae cs (mKof S T) (mJof S th) [(ao, .inr (4, [.long n0, s0]))]) k n := by
  refine r_aload_n hX dlaw_372 rfl rfl ?_
  refine r_argZ (c := 1) hX hScr rfl rfl (by decide) (by omega) (by omega) dlaw_373 dlaw_374 dlaw_376 dlaw_377 dlaw_378 ?_
  refine r_argZ (c := 2) hX hScr rfl rfl (by decide) (by omega) (by omega) dlaw_379 dlaw_380 dlaw_382 dlaw_383 dlaw_384 ?_
  refine r_argZ (c := 3) hX hScr rfl rfl (by decide) (by omega) (by omega) dlaw_385 dlaw_386 dlaw_388 dlaw_389 dlaw_390 ?_
  refine r_aload_n hX dlaw_391 rfl rfl ?_
  refine r_callW hX hg (z_L_moment ad ae cs S T (mJof S th) [] hS ao n0 s0 _ (iZ_rng _) _ (iZ_rng _) _ (iZ_rng _)) kh_L_151 rfl rfl (Nat.le_of_ble_eq_true rfl) ⟨(Nat.le_of_ble_eq_true rfl), (Nat.le_of_ble_eq_true rfl)⟩ ⟨by show k + 1 ≤ 652172; omega, by show n + 6 ≤ 7139589; omega⟩ dlaw_392 (fun v9 ws9 h9 => ?_)
  obtain ⟨r9, n9, S9, g9, rfl, hw9⟩ := zU9 (W := fun S9 n9 => mRw ad ae cs (mKof S9 T) (mJof S th) [(ao, .inr (4, [.long n9, s0]))]) h9
  replace hw9 : ws9 = mRw ad ae cs (mKof S9 T) (mJof S th) [(ao, .inr (4, [.long n9, s0]))] := hw9
  subst hw9
  dsimp only [mPush]
  refine r_istore hX dlaw_395 (by decide) rfl ?_
  refine r_aload_n hX dlaw_397 rfl rfl ?_
  refine r_argZ (c := 1) hX hScr rfl rfl (by decide) (by omega) (by omega) dlaw_398 dlaw_399 dlaw_401 dlaw_402 dlaw_403 ?_
  refine r_argZ (c := 2) hX hScr rfl rfl (by decide) (by omega) (by omega) dlaw_404 dlaw_405 dlaw_407 dlaw_408 dlaw_409 ?_
  refine r_argZ (c := 3) hX hScr rfl rfl (by decide) (by omega) (by omega) dlaw_410 dlaw_411 dlaw_413 dlaw_414 dlaw_415 ?_
  refine r_callV hX (z_X4_moment ad ae cs (mKof S9 T) S th [(ao, .inr (4, [.long n9, s0]))] hS _ (iZ_rng _) _ (iZ_rng _) _ (iZ_rng _)) kv_L_154 14 rfl rfl rfl rfl (Nat.le_of_ble_eq_true rfl) ⟨(Nat.le_of_ble_eq_true rfl), (Nat.le_of_ble_eq_true rfl)⟩ ⟨by show k + 1 + 0 ≤ 652172; omega, by show n + 6 + 0 ≤ 7139589; omega⟩ dlaw_416 (fun _ _ z => False.elim z) (fun v8 ws8 h8 => ?_)
  obtain ⟨r8, th8, S8, g8, rfl, hw8⟩ := zU8 (W := fun S8 th8 => mRw ad ae cs (mKof S9 T) (mJof S8 th8) [(ao, .inr (4, [.long n9, s0]))]) h8
  replace hw8 : ws8 = mRw ad ae cs (mKof S9 T) (mJof S8 th8) [(ao, .inr (4, [.long n9, s0]))] := hw8
  subst hw8
  dsimp only [mPush]
  obtain ⟨e1, e2, hn9, hwf⟩ := zM g9 g8 hS (fun g => hS.oNum)
  subst S8
  subst th8
  refine r_istore hX dlaw_419 (by decide) rfl ?_
  refine r_goto (tgt := 1886) hX dlaw_421 (by decide) ?_
  exact r_loc (lv' := [(0, some (.ref b)), (1, some (.ref (ad 0))), (2, some (.ref (ae 0))), (3, some (.ref ao)), (4, some (.int (nI (7 * t))))]) (by exact ⟨rfl, rfl, rfl, rfl, rfl, trivial⟩) (Nat.le_refl _) (Nat.le_refl _) (back S9 T r9 n9 s0 _ _ hwf (by omega) (by omega))
set_option maxHeartbeats 1000000 in
theorem law_z5 {X : mC} {b L : Nat} {xs : Nat → Int32} {ad ae : Nat → Nat} {cs : ClassId × ClassId × ClassId} {S : mS} {T : mT2} {th : Int32} {ao t k n : Nat} {n0 : Int64} {s0 : Value} (hX : mOK X RL code 7 room_1 [] (mTy cs)) (hg : mHas X mNc) (hScr : mScr X b L xs) (hE : mLE X b) (hS : sWF S) (hL : L ≤ 3584) (hi : 7 * t + 6 < L) (hk : k + 100 ≤ 652172) (hn : n + 2500 ≤ 7139589) (back : mBkZ X b ad ae cs ao t k n) : mV X 424 [(0, some (.ref b)), (1, some (.ref (ad 0))), (2, some (.ref (ae 0))), (3, some (.ref ao)), (4, some (.int (nI (7 * t))))] [] (mRw ad ae cs (mKof S T) (mJof S th) [(ao, .inr (4, [.long n0, s0]))]) k n := by
  refine r_aload_n hX dlaw_424 rfl rfl ?_
  refine r_argZ (c := 1) hX hScr rfl rfl (by decide) (by omega) (by omega) dlaw_425 dlaw_426 dlaw_428 dlaw_429 dlaw_430 ?_
  refine r_argZ (c := 2) hX hScr rfl rfl (by decide) (by omega) (by omega) dlaw_431 dlaw_432 dlaw_434 dlaw_435 dlaw_436 ?_
  refine r_argZ (c := 3) hX hScr rfl rfl (by decide) (by omega) (by omega) dlaw_437 dlaw_438 dlaw_440 dlaw_441 dlaw_442 ?_
  refine r_aload_n hX dlaw_443 rfl rfl ?_
  refine r_callW hX hg (z_L_milli ad ae cs S T (mJof S th) [] hS ao n0 s0 _ (iZ_rng _) _ (iZ_rng _) _ (iZ_rng _)) kh_L_155 rfl rfl (Nat.le_of_ble_eq_true rfl) ⟨(Nat.le_of_ble_eq_true rfl), (Nat.le_of_ble_eq_true rfl)⟩ ⟨by show k + 1 ≤ 652172; omega, by show n + 6 ≤ 7139589; omega⟩ dlaw_444 (fun v9 ws9 h9 => ?_)
  obtain ⟨r9, n9, S9, g9, rfl, hw9⟩ := zU9 (W := fun S9 n9 => mRw ad ae cs (mKof S9 T) (mJof S th) [(ao, .inr (4, [.long n9, s0]))]) h9
  replace hw9 : ws9 = mRw ad ae cs (mKof S9 T) (mJof S th) [(ao, .inr (4, [.long n9, s0]))] := hw9
  subst hw9
  dsimp only [mPush]
  refine r_istore hX dlaw_447 (by decide) rfl ?_
  refine r_aload_n hX dlaw_449 rfl rfl ?_
  refine r_argZ (c := 1) hX hScr rfl rfl (by decide) (by omega) (by omega) dlaw_450 dlaw_451 dlaw_453 dlaw_454 dlaw_455 ?_
  refine r_argZ (c := 2) hX hScr rfl rfl (by decide) (by omega) (by omega) dlaw_456 dlaw_457 dlaw_459 dlaw_460 dlaw_461 ?_
  refine r_argZ (c := 3) hX hScr rfl rfl (by decide) (by omega) (by omega) dlaw_462 dlaw_463 dlaw_465 dlaw_466 dlaw_467 ?_
  refine r_callV hX (z_X4_milli ad ae cs (mKof S9 T) S th [(ao, .inr (4, [.long n9, s0]))] hS _ (iZ_rng _) _ (iZ_rng _) _ (iZ_rng _)) kv_L_157 14 rfl rfl rfl rfl (Nat.le_of_ble_eq_true rfl) ⟨(Nat.le_of_ble_eq_true rfl), (Nat.le_of_ble_eq_true rfl)⟩ ⟨by show k + 1 + 0 ≤ 652172; omega, by show n + 6 + 0 ≤ 7139589; omega⟩ dlaw_468 (fun _ _ z => False.elim z) (fun v8 ws8 h8 => ?_)
  obtain ⟨r8, th8, S8, g8, rfl, hw8⟩ := zU8 (W := fun S8 th8 => mRw ad ae cs (mKof S9 T) (mJof S8 th8) [(ao, .inr (4, [.long n9, s0]))]) h8
  replace hw8 : ws8 = mRw ad ae cs (mKof S9 T) (mJof S8 th8) [(ao, .inr (4, [.long n9, s0]))] := hw8
  subst hw8
  dsimp only [mPush]
  obtain ⟨e1, e2, hn9, hwf⟩ := zM g9 g8 hS (fun g => hS.oNum)
  subst S8
  subst th8
  refine r_istore hX dlaw_471 (by decide) rfl ?_
  refine r_goto (tgt := 1886) hX dlaw_473 (by decide) ?_
  exact r_loc (lv' := [(0, some (.ref b)), (1, some (.ref (ad 0))), (2, some (.ref (ae 0))), (3, some (.ref ao)), (4, some (.int (nI (7 * t))))]) (by exact ⟨rfl, rfl, rfl, rfl, rfl, trivial⟩) (Nat.le_refl _) (Nat.le_refl _) (back S9 T r9 n9 s0 _ _ hwf (by omega) (by omega))
set_option maxHeartbeats 1000000 in
theorem law_z6 {X : mC} {b L : Nat} {xs : Nat → Int32} {ad ae : Nat → Nat} {cs : ClassId × ClassId × ClassId} {S : mS} {T : mT2} {th : Int32} {ao t k n : Nat} {n0 : Int64} {s0 : Value} (hX : mOK X RL code 7 room_1 [] (mTy cs)) (hg : mHas X mNc) (hScr : mScr X b L xs) (hE : mLE X b) (hS : sWF S) (hL : L ≤ 3584) (hi : 7 * t + 6 < L) (hk : k + 100 ≤ 652172) (hn : n + 2500 ≤ 7139589) (back : mBkZ X b ad ae cs ao t k n) : mV X 476 [(0, some (.ref b)), (1, some (.ref (ad 0))), (2, some (.ref (ae 0))), (3, some (.ref ao)), (4, some (.int (nI (7 * t))))] [] (mRw ad ae cs (mKof S T) (mJof S th) [(ao, .inr (4, [.long n0, s0]))]) k n := by
  refine r_aload_n hX dlaw_476 rfl rfl ?_
  refine r_argZ (c := 1) hX hScr rfl rfl (by decide) (by omega) (by omega) dlaw_477 dlaw_478 dlaw_480 dlaw_481 dlaw_482 ?_
  refine r_argZ (c := 2) hX hScr rfl rfl (by decide) (by omega) (by omega) dlaw_483 dlaw_484 dlaw_486 dlaw_487 dlaw_488 ?_
  refine r_argZ (c := 3) hX hScr rfl rfl (by decide) (by omega) (by omega) dlaw_489 dlaw_490 dlaw_492 dlaw_493 dlaw_494 ?_
  refine r_argZ (c := 4) hX hScr rfl rfl (by decide) (by omega) (by omega) dlaw_495 dlaw_496 dlaw_498 dlaw_499 dlaw_500 ?_
  refine r_ne0Z hX (iZ_rng _) dlaw_501 dlaw_504 dlaw_505 dlaw_508 ?_
  refine r_aload_n hX dlaw_509 rfl rfl ?_
  refine r_callW hX hg (z_L_move ad ae cs S T (mJof S th) [] hS ao n0 s0 _ (iZ_rng _) _ (iZ_rng _) _ (iZ_rng _) _) kh_L_158 rfl rfl (Nat.le_of_ble_eq_true rfl) ⟨(Nat.le_of_ble_eq_true rfl), (Nat.le_of_ble_eq_true rfl)⟩ ⟨by show k + 2 ≤ 652172; omega, by show n + 12 ≤ 7139589; omega⟩ dlaw_510 (fun v9 ws9 h9 => ?_)
  obtain ⟨r9, n9, S9, g9, rfl, hw9⟩ := zU9 (W := fun S9 n9 => mRw ad ae cs (mKof S9 T) (mJof S th) [(ao, .inr (4, [.long n9, s0]))]) h9
  replace hw9 : ws9 = mRw ad ae cs (mKof S9 T) (mJof S th) [(ao, .inr (4, [.long n9, s0]))] := hw9
  subst hw9
  dsimp only [mPush]
  refine r_istore hX dlaw_513 (by decide) rfl ?_
  refine r_aload_n hX dlaw_515 rfl rfl ?_
  refine r_argZ (c := 1) hX hScr rfl rfl (by decide) (by omega) (by omega) dlaw_516 dlaw_517 dlaw_519 dlaw_520 dlaw_521 ?_
  refine r_argZ (c := 2) hX hScr rfl rfl (by decide) (by omega) (by omega) dlaw_522 dlaw_523 dlaw_525 dlaw_526 dlaw_527 ?_
  refine r_argZ (c := 3) hX hScr rfl rfl (by decide) (by omega) (by omega) dlaw_528 dlaw_529 dlaw_531 dlaw_532 dlaw_533 ?_
  refine r_argZ (c := 4) hX hScr rfl rfl (by decide) (by omega) (by omega) dlaw_534 dlaw_535 dlaw_537 dlaw_538 dlaw_539 ?_
  refine r_ne0Z hX (iZ_rng _) dlaw_540 dlaw_543 dlaw_544 dlaw_547 ?_
  refine r_callV hX (z_X4_move ad ae cs (mKof S9 T) S th [(ao, .inr (4, [.long n9, s0]))] hS _ (iZ_rng _) _ (iZ_rng _) _ (iZ_rng _) _) kv_L_161 14 rfl rfl rfl rfl (Nat.le_of_ble_eq_true rfl) ⟨(Nat.le_of_ble_eq_true rfl), (Nat.le_of_ble_eq_true rfl)⟩ ⟨by show k + 2 + 0 ≤ 652172; omega, by show n + 12 + 0 ≤ 7139589; omega⟩ dlaw_548 (fun _ _ z => False.elim z) (fun v8 ws8 h8 => ?_)
  obtain ⟨r8, th8, S8, g8, rfl, hw8⟩ := zU8 (W := fun S8 th8 => mRw ad ae cs (mKof S9 T) (mJof S8 th8) [(ao, .inr (4, [.long n9, s0]))]) h8
  replace hw8 : ws8 = mRw ad ae cs (mKof S9 T) (mJof S8 th8) [(ao, .inr (4, [.long n9, s0]))] := hw8
  subst hw8
  dsimp only [mPush]
  obtain ⟨e1, e2, hn9, hwf⟩ := zM g9 g8 hS (fun g => hS.oNum)
  subst S8
  subst th8
  refine r_istore hX dlaw_551 (by decide) rfl ?_
  refine r_goto (tgt := 1886) hX dlaw_553 (by decide) ?_
  exact r_loc (lv' := [(0, some (.ref b)), (1, some (.ref (ad 0))), (2, some (.ref (ae 0))), (3, some (.ref ao)), (4, some (.int (nI (7 * t))))]) (by exact ⟨rfl, rfl, rfl, rfl, rfl, trivial⟩) (Nat.le_refl _) (Nat.le_refl _) (back S9 T r9 n9 s0 _ _ hwf (by omega) (by omega))
set_option maxHeartbeats 1000000 in
theorem law_z7 {X : mC} {b L : Nat} {xs : Nat → Int32} {ad ae : Nat → Nat} {cs : ClassId × ClassId × ClassId} {S : mS} {T : mT2} {th : Int32} {ao t k n : Nat} {n0 : Int64} {s0 : Value} (hX : mOK X RL code 7 room_1 [] (mTy cs)) (hg : mHas X mNc) (hScr : mScr X b L xs) (hE : mLE X b) (hS : sWF S) (hL : L ≤ 3584) (hi : 7 * t + 6 < L) (hk : k + 100 ≤ 652172) (hn : n + 2500 ≤ 7139589) (back : mBkZ X b ad ae cs ao t k n) : mV X 556 [(0, some (.ref b)), (1, some (.ref (ad 0))), (2, some (.ref (ae 0))), (3, some (.ref ao)), (4, some (.int (nI (7 * t))))] [] (mRw ad ae cs (mKof S T) (mJof S th) [(ao, .inr (4, [.long n0, s0]))]) k n := by
  refine r_aload_n hX dlaw_556 rfl rfl ?_
  refine r_argZ (c := 1) hX hScr rfl rfl (by decide) (by omega) (by omega) dlaw_557 dlaw_558 dlaw_560 dlaw_561 dlaw_562 ?_
  refine r_argZ (c := 2) hX hScr rfl rfl (by decide) (by omega) (by omega) dlaw_563 dlaw_564 dlaw_566 dlaw_567 dlaw_568 ?_
  refine r_aload_n hX dlaw_569 rfl rfl ?_
  refine r_callW hX hg (z_L_momentOf ad ae cs S T (mJof S th) [] hS ao n0 s0 _ (iZ_rng _) _ (iZ_rng _)) kh_L_162 rfl rfl (Nat.le_of_ble_eq_true rfl) ⟨(Nat.le_of_ble_eq_true rfl), (Nat.le_of_ble_eq_true rfl)⟩ ⟨by show k + 2 ≤ 652172; omega, by show n + 12 ≤ 7139589; omega⟩ dlaw_570 (fun v9 ws9 h9 => ?_)
  obtain ⟨r9, n9, S9, g9, rfl, hw9⟩ := zU9 (W := fun S9 n9 => mRw ad ae cs (mKof S9 T) (mJof S th) [(ao, .inr (4, [.long n9, s0]))]) h9
  replace hw9 : ws9 = mRw ad ae cs (mKof S9 T) (mJof S th) [(ao, .inr (4, [.long n9, s0]))] := hw9
  subst hw9
  dsimp only [mPush]
  refine r_istore hX dlaw_573 (by decide) rfl ?_
  refine r_aload_n hX dlaw_575 rfl rfl ?_
  refine r_argZ (c := 1) hX hScr rfl rfl (by decide) (by omega) (by omega) dlaw_576 dlaw_577 dlaw_579 dlaw_580 dlaw_581 ?_
  refine r_argZ (c := 2) hX hScr rfl rfl (by decide) (by omega) (by omega) dlaw_582 dlaw_583 dlaw_585 dlaw_586 dlaw_587 ?_
  refine r_callV hX (z_X4_momentOf ad ae cs (mKof S9 T) S th [(ao, .inr (4, [.long n9, s0]))] hS _ (iZ_rng _) _ (iZ_rng _)) kv_L_164 14 rfl rfl rfl rfl (Nat.le_of_ble_eq_true rfl) ⟨(Nat.le_of_ble_eq_true rfl), (Nat.le_of_ble_eq_true rfl)⟩ ⟨by show k + 2 + 0 ≤ 652172; omega, by show n + 12 + 0 ≤ 7139589; omega⟩ dlaw_588 (fun _ _ z => False.elim z) (fun v8 ws8 h8 => ?_)
  obtain ⟨r8, th8, S8, g8, rfl, hw8⟩ := zU8 (W := fun S8 th8 => mRw ad ae cs (mKof S9 T) (mJof S8 th8) [(ao, .inr (4, [.long n9, s0]))]) h8
  replace hw8 : ws8 = mRw ad ae cs (mKof S9 T) (mJof S8 th8) [(ao, .inr (4, [.long n9, s0]))] := hw8
  subst hw8
  dsimp only [mPush]
  obtain ⟨e1, e2, hn9, hwf⟩ := zM g9 g8 hS (fun g => hS.oNum)
  subst S8
  subst th8
  refine r_istore hX dlaw_591 (by decide) rfl ?_
  refine r_goto (tgt := 1886) hX dlaw_593 (by decide) ?_
  exact r_loc (lv' := [(0, some (.ref b)), (1, some (.ref (ad 0))), (2, some (.ref (ae 0))), (3, some (.ref ao)), (4, some (.int (nI (7 * t))))]) (by exact ⟨rfl, rfl, rfl, rfl, rfl, trivial⟩) (Nat.le_refl _) (Nat.le_refl _) (back S9 T r9 n9 s0 _ _ hwf (by omega) (by omega))
set_option maxHeartbeats 1000000 in
theorem law_z8 {X : mC} {b L : Nat} {xs : Nat → Int32} {ad ae : Nat → Nat} {cs : ClassId × ClassId × ClassId} {S : mS} {T : mT2} {th : Int32} {ao t k n : Nat} {n0 : Int64} {s0 : Value} (hX : mOK X RL code 7 room_1 [] (mTy cs)) (hg : mHas X mNc) (hScr : mScr X b L xs) (hE : mLE X b) (hS : sWF S) (hL : L ≤ 3584) (hi : 7 * t + 6 < L) (hk : k + 100 ≤ 652172) (hn : n + 2500 ≤ 7139589) (back : mBkZ X b ad ae cs ao t k n) : mV X 596 [(0, some (.ref b)), (1, some (.ref (ad 0))), (2, some (.ref (ae 0))), (3, some (.ref ao)), (4, some (.int (nI (7 * t))))] [] (mRw ad ae cs (mKof S T) (mJof S th) [(ao, .inr (4, [.long n0, s0]))]) k n := by
  refine r_aload_n hX dlaw_596 rfl rfl ?_
  refine r_argZ (c := 1) hX hScr rfl rfl (by decide) (by omega) (by omega) dlaw_597 dlaw_598 dlaw_600 dlaw_601 dlaw_602 ?_
  refine r_argZ (c := 2) hX hScr rfl rfl (by decide) (by omega) (by omega) dlaw_603 dlaw_604 dlaw_606 dlaw_607 dlaw_608 ?_
  refine r_ne0Z hX (iZ_rng _) dlaw_609 dlaw_612 dlaw_613 dlaw_616 ?_
  refine r_aload_n hX dlaw_617 rfl rfl ?_
  refine r_callW hX hg (z_L_ofMoment ad ae cs S T (mJof S th) [] hS ao n0 s0 _ (iZ_rng _) _) kh_L_165 rfl rfl (Nat.le_of_ble_eq_true rfl) ⟨(Nat.le_of_ble_eq_true rfl), (Nat.le_of_ble_eq_true rfl)⟩ ⟨by show k + 1 ≤ 652172; omega, by show n + 6 ≤ 7139589; omega⟩ dlaw_618 (fun v9 ws9 h9 => ?_)
  obtain ⟨r9, n9, S9, g9, rfl, hw9⟩ := zU9 (W := fun S9 n9 => mRw ad ae cs (mKof S9 T) (mJof S th) [(ao, .inr (4, [.long n9, s0]))]) h9
  replace hw9 : ws9 = mRw ad ae cs (mKof S9 T) (mJof S th) [(ao, .inr (4, [.long n9, s0]))] := hw9
  subst hw9
  dsimp only [mPush]
  refine r_istore hX dlaw_621 (by decide) rfl ?_
  refine r_aload_n hX dlaw_623 rfl rfl ?_
  refine r_argZ (c := 1) hX hScr rfl rfl (by decide) (by omega) (by omega) dlaw_624 dlaw_625 dlaw_627 dlaw_628 dlaw_629 ?_
  refine r_argZ (c := 2) hX hScr rfl rfl (by decide) (by omega) (by omega) dlaw_630 dlaw_631 dlaw_633 dlaw_634 dlaw_635 ?_
  refine r_ne0Z hX (iZ_rng _) dlaw_636 dlaw_639 dlaw_640 dlaw_643 ?_
  refine r_callV hX (z_X4_ofMoment ad ae cs (mKof S9 T) S th [(ao, .inr (4, [.long n9, s0]))] hS _ (iZ_rng _) _) kv_L_168 14 rfl rfl rfl rfl (Nat.le_of_ble_eq_true rfl) ⟨(Nat.le_of_ble_eq_true rfl), (Nat.le_of_ble_eq_true rfl)⟩ ⟨by show k + 1 + 0 ≤ 652172; omega, by show n + 6 + 0 ≤ 7139589; omega⟩ dlaw_644 (fun _ _ z => False.elim z) (fun v8 ws8 h8 => ?_)
  obtain ⟨r8, th8, S8, g8, rfl, hw8⟩ := zU8 (W := fun S8 th8 => mRw ad ae cs (mKof S9 T) (mJof S8 th8) [(ao, .inr (4, [.long n9, s0]))]) h8
  replace hw8 : ws8 = mRw ad ae cs (mKof S9 T) (mJof S8 th8) [(ao, .inr (4, [.long n9, s0]))] := hw8
  subst hw8
  dsimp only [mPush]
  obtain ⟨e1, e2, hn9, hwf⟩ := zM g9 g8 hS (fun g => hS)
  subst S8
  subst th8
  refine r_istore hX dlaw_647 (by decide) rfl ?_
  refine r_goto (tgt := 1886) hX dlaw_649 (by decide) ?_
  exact r_loc (lv' := [(0, some (.ref b)), (1, some (.ref (ad 0))), (2, some (.ref (ae 0))), (3, some (.ref ao)), (4, some (.int (nI (7 * t))))]) (by exact ⟨rfl, rfl, rfl, rfl, rfl, trivial⟩) (Nat.le_refl _) (Nat.le_refl _) (back S9 T r9 n9 s0 _ _ hwf (by omega) (by omega))
set_option maxHeartbeats 1000000 in
theorem law_z9 {X : mC} {b L : Nat} {xs : Nat → Int32} {ad ae : Nat → Nat} {cs : ClassId × ClassId × ClassId} {S : mS} {T : mT2} {th : Int32} {ao t k n : Nat} {n0 : Int64} {s0 : Value} (hX : mOK X RL code 7 room_1 [] (mTy cs)) (hg : mHas X mNc) (hScr : mScr X b L xs) (hE : mLE X b) (hS : sWF S) (hL : L ≤ 3584) (hi : 7 * t + 6 < L) (hk : k + 100 ≤ 652172) (hn : n + 2500 ≤ 7139589) (back : mBkZ X b ad ae cs ao t k n) : mV X 652 [(0, some (.ref b)), (1, some (.ref (ad 0))), (2, some (.ref (ae 0))), (3, some (.ref ao)), (4, some (.int (nI (7 * t))))] [] (mRw ad ae cs (mKof S T) (mJof S th) [(ao, .inr (4, [.long n0, s0]))]) k n := by
  refine r_aload_n hX dlaw_652 rfl rfl ?_
  refine r_argZ (c := 1) hX hScr rfl rfl (by decide) (by omega) (by omega) dlaw_653 dlaw_654 dlaw_656 dlaw_657 dlaw_658 ?_
  refine r_aload_n hX dlaw_659 rfl rfl ?_
  refine r_callW hX hg (c_L_millis_x ad ae cs (mKof S T) (mJof S th) [] ao n0 s0 _) kh_L_169 rfl rfl (Nat.le_of_ble_eq_true rfl) ⟨(Nat.le_of_ble_eq_true rfl), (Nat.le_of_ble_eq_true rfl)⟩ ⟨by show k + 31 ≤ 652172; omega, by show n + 1506 ≤ 7139589; omega⟩ dlaw_660 (fun v9 ws9 h9 => ?_)
  obtain ⟨r9, n9, s9, rfl, hw9⟩ := h9
  subst hw9
  dsimp only [mPush]
  refine r_istore hX dlaw_663 (by decide) rfl ?_
  refine r_aload_n hX dlaw_665 rfl rfl ?_
  refine r_argZ (c := 1) hX hScr rfl rfl (by decide) (by omega) (by omega) dlaw_666 dlaw_667 dlaw_669 dlaw_670 dlaw_671 ?_
  refine r_callV hX (z_X4_millis ad ae cs (mKof S T) S th [(ao, .inr (4, [.long n9, s9]))] (iZ _)) kv_L_171 14 rfl rfl rfl rfl (Nat.le_of_ble_eq_true rfl) ⟨(Nat.le_of_ble_eq_true rfl), (Nat.le_of_ble_eq_true rfl)⟩ ⟨by show k + 31 + 8 ≤ 652172; omega, by show n + 1506 + 240 ≤ 7139589; omega⟩ dlaw_672 (fun _ _ z => False.elim z) (fun v8 ws8 h8 => ?_)
  obtain ⟨q8, th8, rfl, hw8⟩ := h8
  subst hw8
  dsimp only [mPush]
  refine r_astore hX dlaw_675 (by decide) rfl ?_
  refine r_goto (tgt := 1886) hX dlaw_677 (by decide) ?_
  exact r_loc (lv' := [(0, some (.ref b)), (1, some (.ref (ad 0))), (2, some (.ref (ae 0))), (3, some (.ref ao)), (4, some (.int (nI (7 * t))))]) (by exact ⟨rfl, rfl, rfl, rfl, rfl, trivial⟩) (Nat.le_refl _) (Nat.le_refl _) (back S T th8 n9 s9 _ _ hS (by omega) (by omega))
set_option maxHeartbeats 1000000 in
theorem law_z10 {X : mC} {b L : Nat} {xs : Nat → Int32} {ad ae : Nat → Nat} {cs : ClassId × ClassId × ClassId} {S : mS} {T : mT2} {th : Int32} {ao t k n : Nat} {n0 : Int64} {s0 : Value} (hX : mOK X RL code 7 room_1 [] (mTy cs)) (hg : mHas X mNc) (hScr : mScr X b L xs) (hE : mLE X b) (hS : sWF S) (hL : L ≤ 3584) (hi : 7 * t + 6 < L) (hk : k + 100 ≤ 652172) (hn : n + 2500 ≤ 7139589) (back : mBkZ X b ad ae cs ao t k n) : mV X 680 [(0, some (.ref b)), (1, some (.ref (ad 0))), (2, some (.ref (ae 0))), (3, some (.ref ao)), (4, some (.int (nI (7 * t))))] [] (mRw ad ae cs (mKof S T) (mJof S th) [(ao, .inr (4, [.long n0, s0]))]) k n := by
  refine r_aload_n hX dlaw_680 rfl rfl ?_
  refine r_argZ (c := 1) hX hScr rfl rfl (by decide) (by omega) (by omega) dlaw_681 dlaw_682 dlaw_684 dlaw_685 dlaw_686 ?_
  refine r_argZ (c := 2) hX hScr rfl rfl (by decide) (by omega) (by omega) dlaw_687 dlaw_688 dlaw_690 dlaw_691 dlaw_692 ?_
  refine r_aload_n hX dlaw_693 rfl rfl ?_
  refine r_callW hX hg (z_L_orderMoment ad ae cs S T (mJof S th) [] hS ao n0 s0 _ (iZ_rng _) _ (iZ_rng _)) kh_L_172 rfl rfl (Nat.le_of_ble_eq_true rfl) ⟨(Nat.le_of_ble_eq_true rfl), (Nat.le_of_ble_eq_true rfl)⟩ ⟨by show k + 2 ≤ 652172; omega, by show n + 12 ≤ 7139589; omega⟩ dlaw_694 (fun v9 ws9 h9 => ?_)
  obtain ⟨r9, n9, S9, g9, rfl, hw9⟩ := zU9 (W := fun S9 n9 => mRw ad ae cs (mKof S9 T) (mJof S th) [(ao, .inr (4, [.long n9, s0]))]) h9
  replace hw9 : ws9 = mRw ad ae cs (mKof S9 T) (mJof S th) [(ao, .inr (4, [.long n9, s0]))] := hw9
  subst hw9
  dsimp only [mPush]
  refine r_istore hX dlaw_697 (by decide) rfl ?_
  refine r_aload_n hX dlaw_699 rfl rfl ?_
  refine r_argZ (c := 1) hX hScr rfl rfl (by decide) (by omega) (by omega) dlaw_700 dlaw_701 dlaw_703 dlaw_704 dlaw_705 ?_
  refine r_argZ (c := 2) hX hScr rfl rfl (by decide) (by omega) (by omega) dlaw_706 dlaw_707 dlaw_709 dlaw_710 dlaw_711 ?_
  refine r_callV hX (z_X4_orderMoment ad ae cs (mKof S9 T) S th [(ao, .inr (4, [.long n9, s0]))] hS _ (iZ_rng _) _ (iZ_rng _)) kv_L_174 14 rfl rfl rfl rfl (Nat.le_of_ble_eq_true rfl) ⟨(Nat.le_of_ble_eq_true rfl), (Nat.le_of_ble_eq_true rfl)⟩ ⟨by show k + 2 + 0 ≤ 652172; omega, by show n + 12 + 0 ≤ 7139589; omega⟩ dlaw_712 (fun _ _ z => False.elim z) (fun v8 ws8 h8 => ?_)
  obtain ⟨r8, th8, S8, g8, rfl, hw8⟩ := zU8 (W := fun S8 th8 => mRw ad ae cs (mKof S9 T) (mJof S8 th8) [(ao, .inr (4, [.long n9, s0]))]) h8
  replace hw8 : ws8 = mRw ad ae cs (mKof S9 T) (mJof S8 th8) [(ao, .inr (4, [.long n9, s0]))] := hw8
  subst hw8
  dsimp only [mPush]
  obtain ⟨e1, e2, hn9, hwf⟩ := zM g9 g8 hS (fun g => hS)
  subst S8
  subst th8
  refine r_istore hX dlaw_715 (by decide) rfl ?_
  refine r_goto (tgt := 1886) hX dlaw_717 (by decide) ?_
  exact r_loc (lv' := [(0, some (.ref b)), (1, some (.ref (ad 0))), (2, some (.ref (ae 0))), (3, some (.ref ao)), (4, some (.int (nI (7 * t))))]) (by exact ⟨rfl, rfl, rfl, rfl, rfl, trivial⟩) (Nat.le_refl _) (Nat.le_refl _) (back S9 T r9 n9 s0 _ _ hwf (by omega) (by omega))
set_option maxHeartbeats 1000000 in
theorem law_z11 {X : mC} {b L : Nat} {xs : Nat → Int32} {ad ae : Nat → Nat} {cs : ClassId × ClassId × ClassId} {S : mS} {T : mT2} {th : Int32} {ao t k n : Nat} {n0 : Int64} {s0 : Value} (hX : mOK X RL code 7 room_1 [] (mTy cs)) (hg : mHas X mNc) (hScr : mScr X b L xs) (hE : mLE X b) (hS : sWF S) (hL : L ≤ 3584) (hi : 7 * t + 6 < L) (hk : k + 100 ≤ 652172) (hn : n + 2500 ≤ 7139589) (back : mBkZ X b ad ae cs ao t k n) : mV X 720 [(0, some (.ref b)), (1, some (.ref (ad 0))), (2, some (.ref (ae 0))), (3, some (.ref ao)), (4, some (.int (nI (7 * t))))] [] (mRw ad ae cs (mKof S T) (mJof S th) [(ao, .inr (4, [.long n0, s0]))]) k n := by
  refine r_aload_n hX dlaw_720 rfl rfl ?_
  refine r_argZ (c := 1) hX hScr rfl rfl (by decide) (by omega) (by omega) dlaw_721 dlaw_722 dlaw_724 dlaw_725 dlaw_726 ?_
  refine r_argZ (c := 2) hX hScr rfl rfl (by decide) (by omega) (by omega) dlaw_727 dlaw_728 dlaw_730 dlaw_731 dlaw_732 ?_
  refine r_argZ (c := 3) hX hScr rfl rfl (by decide) (by omega) (by omega) dlaw_733 dlaw_734 dlaw_736 dlaw_737 dlaw_738 ?_
  refine r_aload_n hX dlaw_739 rfl rfl ?_
  refine r_callW hX hg (z_L_isMoment ad ae cs S T (mJof S th) [] hS ao n0 s0 _ (iZ_rng _) _ (iZ_rng _) _ (iZ_rng _)) kh_L_175 rfl rfl (Nat.le_of_ble_eq_true rfl) ⟨(Nat.le_of_ble_eq_true rfl), (Nat.le_of_ble_eq_true rfl)⟩ ⟨by show k + 3 ≤ 652172; omega, by show n + 18 ≤ 7139589; omega⟩ dlaw_740 (fun v9 ws9 h9 => ?_)
  obtain ⟨r9, n9, S9, g9, rfl, hw9⟩ := zU9 (W := fun S9 n9 => mRw ad ae cs (mKof S9 T) (mJof S th) [(ao, .inr (4, [.long n9, s0]))]) h9
  replace hw9 : ws9 = mRw ad ae cs (mKof S9 T) (mJof S th) [(ao, .inr (4, [.long n9, s0]))] := hw9
  subst hw9
  dsimp only [mPush]
  refine r_istore hX dlaw_743 (by decide) rfl ?_
  refine r_aload_n hX dlaw_745 rfl rfl ?_
  refine r_argZ (c := 1) hX hScr rfl rfl (by decide) (by omega) (by omega) dlaw_746 dlaw_747 dlaw_749 dlaw_750 dlaw_751 ?_
  refine r_argZ (c := 2) hX hScr rfl rfl (by decide) (by omega) (by omega) dlaw_752 dlaw_753 dlaw_755 dlaw_756 dlaw_757 ?_
  refine r_argZ (c := 3) hX hScr rfl rfl (by decide) (by omega) (by omega) dlaw_758 dlaw_759 dlaw_761 dlaw_762 dlaw_763 ?_
  refine r_callV hX (z_X4_isMoment ad ae cs (mKof S9 T) S th [(ao, .inr (4, [.long n9, s0]))] hS _ (iZ_rng _) _ (iZ_rng _) _ (iZ_rng _)) kv_L_177 14 rfl rfl rfl rfl (Nat.le_of_ble_eq_true rfl) ⟨(Nat.le_of_ble_eq_true rfl), (Nat.le_of_ble_eq_true rfl)⟩ ⟨by show k + 3 + 0 ≤ 652172; omega, by show n + 18 + 0 ≤ 7139589; omega⟩ dlaw_764 (fun _ _ z => False.elim z) (fun v8 ws8 h8 => ?_)
  obtain ⟨r8, th8, S8, g8, rfl, hw8⟩ := zU8 (W := fun S8 th8 => mRw ad ae cs (mKof S9 T) (mJof S8 th8) [(ao, .inr (4, [.long n9, s0]))]) h8
  replace hw8 : ws8 = mRw ad ae cs (mKof S9 T) (mJof S8 th8) [(ao, .inr (4, [.long n9, s0]))] := hw8
  subst hw8
  dsimp only [mPush]
  obtain ⟨e1, e2, hn9, hwf⟩ := zM g9 g8 hS (fun g => hS)
  subst S8
  subst th8
  refine r_istore hX dlaw_767 (by decide) rfl ?_
  refine r_goto (tgt := 1886) hX dlaw_769 (by decide) ?_
  exact r_loc (lv' := [(0, some (.ref b)), (1, some (.ref (ad 0))), (2, some (.ref (ae 0))), (3, some (.ref ao)), (4, some (.int (nI (7 * t))))]) (by exact ⟨rfl, rfl, rfl, rfl, rfl, trivial⟩) (Nat.le_refl _) (Nat.le_refl _) (back S9 T r9 n9 s0 _ _ hwf (by omega) (by omega))
set_option maxHeartbeats 1000000 in
theorem law_z12 {X : mC} {b L : Nat} {xs : Nat → Int32} {ad ae : Nat → Nat} {cs : ClassId × ClassId × ClassId} {S : mS} {T : mT2} {th : Int32} {ao t k n : Nat} {n0 : Int64} {s0 : Value} (hX : mOK X RL code 7 room_1 [] (mTy cs)) (hg : mHas X mNc) (hScr : mScr X b L xs) (hE : mLE X b) (hS : sWF S) (hL : L ≤ 3584) (hi : 7 * t + 6 < L) (hk : k + 100 ≤ 652172) (hn : n + 2500 ≤ 7139589) (back : mBkZ X b ad ae cs ao t k n) : mV X 772 [(0, some (.ref b)), (1, some (.ref (ad 0))), (2, some (.ref (ae 0))), (3, some (.ref ao)), (4, some (.int (nI (7 * t))))] [] (mRw ad ae cs (mKof S T) (mJof S th) [(ao, .inr (4, [.long n0, s0]))]) k n := by
  refine r_aload_n hX dlaw_772 rfl rfl ?_
  refine r_argZ (c := 1) hX hScr rfl rfl (by decide) (by omega) (by omega) dlaw_773 dlaw_774 dlaw_776 dlaw_777 dlaw_778 ?_
  refine r_argZ (c := 2) hX hScr rfl rfl (by decide) (by omega) (by omega) dlaw_779 dlaw_780 dlaw_782 dlaw_783 dlaw_784 ?_
  refine r_aload_n hX dlaw_785 rfl rfl ?_
  refine r_callW hX hg (z_L_copyMoment ad ae cs S T (mJof S th) [] hS ao n0 s0 _ (iZ_rng _) _ (iZ_rng _)) kh_L_178 rfl rfl (Nat.le_of_ble_eq_true rfl) ⟨(Nat.le_of_ble_eq_true rfl), (Nat.le_of_ble_eq_true rfl)⟩ ⟨by show k + 2 ≤ 652172; omega, by show n + 12 ≤ 7139589; omega⟩ dlaw_786 (fun v9 ws9 h9 => ?_)
  obtain ⟨r9, n9, S9, g9, rfl, hw9⟩ := zU9 (W := fun S9 n9 => mRw ad ae cs (mKof S9 T) (mJof S th) [(ao, .inr (4, [.long n9, s0]))]) h9
  replace hw9 : ws9 = mRw ad ae cs (mKof S9 T) (mJof S th) [(ao, .inr (4, [.long n9, s0]))] := hw9
  subst hw9
  dsimp only [mPush]
  refine r_istore hX dlaw_789 (by decide) rfl ?_
  refine r_aload_n hX dlaw_791 rfl rfl ?_
  refine r_argZ (c := 1) hX hScr rfl rfl (by decide) (by omega) (by omega) dlaw_792 dlaw_793 dlaw_795 dlaw_796 dlaw_797 ?_
  refine r_argZ (c := 2) hX hScr rfl rfl (by decide) (by omega) (by omega) dlaw_798 dlaw_799 dlaw_801 dlaw_802 dlaw_803 ?_
  refine r_callV hX (z_X4_copyMoment ad ae cs (mKof S9 T) S th [(ao, .inr (4, [.long n9, s0]))] hS _ (iZ_rng _) _ (iZ_rng _)) kv_L_180 14 rfl rfl rfl rfl (Nat.le_of_ble_eq_true rfl) ⟨(Nat.le_of_ble_eq_true rfl), (Nat.le_of_ble_eq_true rfl)⟩ ⟨by show k + 2 + 0 ≤ 652172; omega, by show n + 12 + 0 ≤ 7139589; omega⟩ dlaw_804 (fun _ _ z => False.elim z) (fun v8 ws8 h8 => ?_)
  obtain ⟨r8, th8, S8, g8, rfl, hw8⟩ := zU8 (W := fun S8 th8 => mRw ad ae cs (mKof S9 T) (mJof S8 th8) [(ao, .inr (4, [.long n9, s0]))]) h8
  replace hw8 : ws8 = mRw ad ae cs (mKof S9 T) (mJof S8 th8) [(ao, .inr (4, [.long n9, s0]))] := hw8
  subst hw8
  dsimp only [mPush]
  obtain ⟨e1, e2, hn9, hwf⟩ := zM g9 g8 hS (fun g => hS.oNum)
  subst S8
  subst th8
  refine r_istore hX dlaw_807 (by decide) rfl ?_
  refine r_goto (tgt := 1886) hX dlaw_809 (by decide) ?_
  exact r_loc (lv' := [(0, some (.ref b)), (1, some (.ref (ad 0))), (2, some (.ref (ae 0))), (3, some (.ref ao)), (4, some (.int (nI (7 * t))))]) (by exact ⟨rfl, rfl, rfl, rfl, rfl, trivial⟩) (Nat.le_refl _) (Nat.le_refl _) (back S9 T r9 n9 s0 _ _ hwf (by omega) (by omega))
set_option maxHeartbeats 1000000 in
theorem law_z13 {X : mC} {b L : Nat} {xs : Nat → Int32} {ad ae : Nat → Nat} {cs : ClassId × ClassId × ClassId} {S : mS} {T : mT2} {th : Int32} {ao t k n : Nat} {n0 : Int64} {s0 : Value} (hX : mOK X RL code 7 room_1 [] (mTy cs)) (hg : mHas X mNc) (hScr : mScr X b L xs) (hE : mLE X b) (hS : sWF S) (hL : L ≤ 3584) (hi : 7 * t + 6 < L) (hk : k + 100 ≤ 652172) (hn : n + 2500 ≤ 7139589) (back : mBkZ X b ad ae cs ao t k n) : mV X 812 [(0, some (.ref b)), (1, some (.ref (ad 0))), (2, some (.ref (ae 0))), (3, some (.ref ao)), (4, some (.int (nI (7 * t))))] [] (mRw ad ae cs (mKof S T) (mJof S th) [(ao, .inr (4, [.long n0, s0]))]) k n := by
  refine r_aload_n hX dlaw_812 rfl rfl ?_
  refine r_argZ (c := 1) hX hScr rfl rfl (by decide) (by omega) (by omega) dlaw_813 dlaw_814 dlaw_816 dlaw_817 dlaw_818 ?_
  refine r_argZ (c := 2) hX hScr rfl rfl (by decide) (by omega) (by omega) dlaw_819 dlaw_820 dlaw_822 dlaw_823 dlaw_824 ?_
  refine r_argZ (c := 3) hX hScr rfl rfl (by decide) (by omega) (by omega) dlaw_825 dlaw_826 dlaw_828 dlaw_829 dlaw_830 ?_
  refine r_argZ (c := 4) hX hScr rfl rfl (by decide) (by omega) (by omega) dlaw_831 dlaw_832 dlaw_834 dlaw_835 dlaw_836 ?_
  refine r_argZ (c := 5) hX hScr rfl rfl (by decide) (by omega) (by omega) dlaw_837 dlaw_838 dlaw_840 dlaw_841 dlaw_842 ?_
  refine r_argBZ (c := 6) hX hScr rfl rfl (by decide) (by omega) (by omega) dlaw_843 dlaw_844 dlaw_846 dlaw_848 dlaw_849 ?_
  refine r_aload_n hX dlaw_850 rfl rfl ?_
  refine r_callW hX hg (z_L_date ad ae cs S T (mJof S th) [] hS ao n0 s0 _ (iZ_rng _) _ (iZ_rng _) _ (iZ_rng _) _ (iZ_rng _) _ (iZ_rng _) _ (iZ_rng _)) kh_L_181 rfl rfl (Nat.le_of_ble_eq_true rfl) ⟨(Nat.le_of_ble_eq_true rfl), (Nat.le_of_ble_eq_true rfl)⟩ ⟨by show k + 5 ≤ 652172; omega, by show n + 30 ≤ 7139589; omega⟩ dlaw_851 (fun v9 ws9 h9 => ?_)
  obtain ⟨r9, n9, S9, g9, rfl, hw9⟩ := zU9 (W := fun S9 n9 => mRw ad ae cs (mKof S9 T) (mJof S th) [(ao, .inr (4, [.long n9, s0]))]) h9
  replace hw9 : ws9 = mRw ad ae cs (mKof S9 T) (mJof S th) [(ao, .inr (4, [.long n9, s0]))] := hw9
  subst hw9
  dsimp only [mPush]
  refine r_istore hX dlaw_854 (by decide) rfl ?_
  refine r_aload_n hX dlaw_856 rfl rfl ?_
  refine r_argZ (c := 1) hX hScr rfl rfl (by decide) (by omega) (by omega) dlaw_857 dlaw_858 dlaw_860 dlaw_861 dlaw_862 ?_
  refine r_argZ (c := 2) hX hScr rfl rfl (by decide) (by omega) (by omega) dlaw_863 dlaw_864 dlaw_866 dlaw_867 dlaw_868 ?_
  refine r_argZ (c := 3) hX hScr rfl rfl (by decide) (by omega) (by omega) dlaw_869 dlaw_870 dlaw_872 dlaw_873 dlaw_874 ?_
  refine r_argZ (c := 4) hX hScr rfl rfl (by decide) (by omega) (by omega) dlaw_875 dlaw_876 dlaw_878 dlaw_879 dlaw_880 ?_
  refine r_argZ (c := 5) hX hScr rfl rfl (by decide) (by omega) (by omega) dlaw_881 dlaw_882 dlaw_884 dlaw_885 dlaw_886 ?_
  refine r_argBZ (c := 6) hX hScr rfl rfl (by decide) (by omega) (by omega) dlaw_887 dlaw_888 dlaw_890 dlaw_892 dlaw_893 ?_
  refine r_callV hX (z_X4_date ad ae cs (mKof S9 T) S th [(ao, .inr (4, [.long n9, s0]))] hS _ (iZ_rng _) _ (iZ_rng _) _ (iZ_rng _) _ (iZ_rng _) _ (iZ_rng _) _ (iZ_rng _)) kv_L_184 14 rfl rfl rfl rfl (Nat.le_of_ble_eq_true rfl) ⟨(Nat.le_of_ble_eq_true rfl), (Nat.le_of_ble_eq_true rfl)⟩ ⟨by show k + 5 + 0 ≤ 652172; omega, by show n + 30 + 0 ≤ 7139589; omega⟩ dlaw_894 (fun _ _ z => False.elim z) (fun v8 ws8 h8 => ?_)
  obtain ⟨r8, th8, S8, g8, rfl, hw8⟩ := zU8 (W := fun S8 th8 => mRw ad ae cs (mKof S9 T) (mJof S8 th8) [(ao, .inr (4, [.long n9, s0]))]) h8
  replace hw8 : ws8 = mRw ad ae cs (mKof S9 T) (mJof S8 th8) [(ao, .inr (4, [.long n9, s0]))] := hw8
  subst hw8
  dsimp only [mPush]
  obtain ⟨e1, e2, hn9, hwf⟩ := zM g9 g8 hS (fun g => wf_oDate hS (by omega) g.2.2.2 (hS.1 (((xs (7 * t + 6)).toInt).toNat) (by omega)))
  subst S8
  subst th8
  refine r_istore hX dlaw_897 (by decide) rfl ?_
  refine r_goto (tgt := 1886) hX dlaw_899 (by decide) ?_
  exact r_loc (lv' := [(0, some (.ref b)), (1, some (.ref (ad 0))), (2, some (.ref (ae 0))), (3, some (.ref ao)), (4, some (.int (nI (7 * t))))]) (by exact ⟨rfl, rfl, rfl, rfl, rfl, trivial⟩) (Nat.le_refl _) (Nat.le_refl _) (back S9 T r9 n9 s0 _ _ hwf (by omega) (by omega))
set_option maxHeartbeats 1000000 in
theorem law_z14 {X : mC} {b L : Nat} {xs : Nat → Int32} {ad ae : Nat → Nat} {cs : ClassId × ClassId × ClassId} {S : mS} {T : mT2} {th : Int32} {ao t k n : Nat} {n0 : Int64} {s0 : Value} (hX : mOK X RL code 7 room_1 [] (mTy cs)) (hg : mHas X mNc) (hScr : mScr X b L xs) (hE : mLE X b) (hS : sWF S) (hL : L ≤ 3584) (hi : 7 * t + 6 < L) (hk : k + 100 ≤ 652172) (hn : n + 2500 ≤ 7139589) (back : mBkZ X b ad ae cs ao t k n) : mV X 902 [(0, some (.ref b)), (1, some (.ref (ad 0))), (2, some (.ref (ae 0))), (3, some (.ref ao)), (4, some (.int (nI (7 * t))))] [] (mRw ad ae cs (mKof S T) (mJof S th) [(ao, .inr (4, [.long n0, s0]))]) k n := by
  refine r_aload_n hX dlaw_902 rfl rfl ?_
  refine r_argZ (c := 1) hX hScr rfl rfl (by decide) (by omega) (by omega) dlaw_903 dlaw_904 dlaw_906 dlaw_907 dlaw_908 ?_
  refine r_argZ (c := 2) hX hScr rfl rfl (by decide) (by omega) (by omega) dlaw_909 dlaw_910 dlaw_912 dlaw_913 dlaw_914 ?_
  refine r_argZ (c := 3) hX hScr rfl rfl (by decide) (by omega) (by omega) dlaw_915 dlaw_916 dlaw_918 dlaw_919 dlaw_920 ?_
  refine r_aload_n hX dlaw_921 rfl rfl ?_
  refine r_callW hX hg (z_L_dateOf ad ae cs S T (mJof S th) [] hS ao n0 s0 _ (iZ_rng _) _ (iZ_rng _) _ (iZ_rng _)) kh_L_185 rfl rfl (Nat.le_of_ble_eq_true rfl) ⟨(Nat.le_of_ble_eq_true rfl), (Nat.le_of_ble_eq_true rfl)⟩ ⟨by show k + 3 ≤ 652172; omega, by show n + 18 ≤ 7139589; omega⟩ dlaw_922 (fun v9 ws9 h9 => ?_)
  obtain ⟨r9, n9, S9, g9, rfl, hw9⟩ := zU9 (W := fun S9 n9 => mRw ad ae cs (mKof S9 T) (mJof S th) [(ao, .inr (4, [.long n9, s0]))]) h9
  replace hw9 : ws9 = mRw ad ae cs (mKof S9 T) (mJof S th) [(ao, .inr (4, [.long n9, s0]))] := hw9
  subst hw9
  dsimp only [mPush]
  refine r_istore hX dlaw_925 (by decide) rfl ?_
  refine r_aload_n hX dlaw_927 rfl rfl ?_
  refine r_argZ (c := 1) hX hScr rfl rfl (by decide) (by omega) (by omega) dlaw_928 dlaw_929 dlaw_931 dlaw_932 dlaw_933 ?_
  refine r_argZ (c := 2) hX hScr rfl rfl (by decide) (by omega) (by omega) dlaw_934 dlaw_935 dlaw_937 dlaw_938 dlaw_939 ?_
  refine r_argZ (c := 3) hX hScr rfl rfl (by decide) (by omega) (by omega) dlaw_940 dlaw_941 dlaw_943 dlaw_944 dlaw_945 ?_
  refine r_callV hX (z_X4_dateOf ad ae cs (mKof S9 T) S th [(ao, .inr (4, [.long n9, s0]))] hS _ (iZ_rng _) _ (iZ_rng _) _ (iZ_rng _)) kv_L_187 14 rfl rfl rfl rfl (Nat.le_of_ble_eq_true rfl) ⟨(Nat.le_of_ble_eq_true rfl), (Nat.le_of_ble_eq_true rfl)⟩ ⟨by show k + 3 + 0 ≤ 652172; omega, by show n + 18 + 0 ≤ 7139589; omega⟩ dlaw_946 (fun _ _ z => False.elim z) (fun v8 ws8 h8 => ?_)
  obtain ⟨r8, th8, S8, g8, rfl, hw8⟩ := zU8 (W := fun S8 th8 => mRw ad ae cs (mKof S9 T) (mJof S8 th8) [(ao, .inr (4, [.long n9, s0]))]) h8
  replace hw8 : ws8 = mRw ad ae cs (mKof S9 T) (mJof S8 th8) [(ao, .inr (4, [.long n9, s0]))] := hw8
  subst hw8
  dsimp only [mPush]
  obtain ⟨e1, e2, hn9, hwf⟩ := zM g9 g8 hS (fun g => hS.oLoc (by omega) (by show 0 ≤ _ ∧ _ ≤ 999999999; omega) (hS.1 (((xs (7 * t + 3)).toInt).toNat) (by omega)))
  subst S8
  subst th8
  refine r_istore hX dlaw_949 (by decide) rfl ?_
  refine r_goto (tgt := 1886) hX dlaw_951 (by decide) ?_
  exact r_loc (lv' := [(0, some (.ref b)), (1, some (.ref (ad 0))), (2, some (.ref (ae 0))), (3, some (.ref ao)), (4, some (.int (nI (7 * t))))]) (by exact ⟨rfl, rfl, rfl, rfl, rfl, trivial⟩) (Nat.le_refl _) (Nat.le_refl _) (back S9 T r9 n9 s0 _ _ hwf (by omega) (by omega))
set_option maxHeartbeats 1000000 in
theorem law_z15 {X : mC} {b L : Nat} {xs : Nat → Int32} {ad ae : Nat → Nat} {cs : ClassId × ClassId × ClassId} {S : mS} {T : mT2} {th : Int32} {ao t k n : Nat} {n0 : Int64} {s0 : Value} (hX : mOK X RL code 7 room_1 [] (mTy cs)) (hg : mHas X mNc) (hScr : mScr X b L xs) (hE : mLE X b) (hS : sWF S) (hL : L ≤ 3584) (hi : 7 * t + 6 < L) (hk : k + 100 ≤ 652172) (hn : n + 2500 ≤ 7139589) (back : mBkZ X b ad ae cs ao t k n) : mV X 954 [(0, some (.ref b)), (1, some (.ref (ad 0))), (2, some (.ref (ae 0))), (3, some (.ref ao)), (4, some (.int (nI (7 * t))))] [] (mRw ad ae cs (mKof S T) (mJof S th) [(ao, .inr (4, [.long n0, s0]))]) k n := by
  refine r_aload_n hX dlaw_954 rfl rfl ?_
  refine r_argZ (c := 1) hX hScr rfl rfl (by decide) (by omega) (by omega) dlaw_955 dlaw_956 dlaw_958 dlaw_959 dlaw_960 ?_
  refine r_argZ (c := 2) hX hScr rfl rfl (by decide) (by omega) (by omega) dlaw_961 dlaw_962 dlaw_964 dlaw_965 dlaw_966 ?_
  refine r_argZ (c := 3) hX hScr rfl rfl (by decide) (by omega) (by omega) dlaw_967 dlaw_968 dlaw_970 dlaw_971 dlaw_972 ?_
  refine r_argZ (c := 4) hX hScr rfl rfl (by decide) (by omega) (by omega) dlaw_973 dlaw_974 dlaw_976 dlaw_977 dlaw_978 ?_
  refine r_ne0Z hX (iZ_rng _) dlaw_979 dlaw_982 dlaw_983 dlaw_986 ?_
  refine r_aload_n hX dlaw_987 rfl rfl ?_
  refine r_callW hX hg (z_L_moveDate ad ae cs S T (mJof S th) [] hS ao n0 s0 _ (iZ_rng _) _ (iZ_rng _) _ (iZ_rng _) _) kh_L_188 rfl rfl (Nat.le_of_ble_eq_true rfl) ⟨(Nat.le_of_ble_eq_true rfl), (Nat.le_of_ble_eq_true rfl)⟩ ⟨by show k + 2 ≤ 652172; omega, by show n + 12 ≤ 7139589; omega⟩ dlaw_988 (fun v9 ws9 h9 => ?_)
  obtain ⟨r9, n9, S9, g9, rfl, hw9⟩ := zU9 (W := fun S9 n9 => mRw ad ae cs (mKof S9 T) (mJof S th) [(ao, .inr (4, [.long n9, s0]))]) h9
  replace hw9 : ws9 = mRw ad ae cs (mKof S9 T) (mJof S th) [(ao, .inr (4, [.long n9, s0]))] := hw9
  subst hw9
  dsimp only [mPush]
  refine r_istore hX dlaw_991 (by decide) rfl ?_
  refine r_aload_n hX dlaw_993 rfl rfl ?_
  refine r_argZ (c := 1) hX hScr rfl rfl (by decide) (by omega) (by omega) dlaw_994 dlaw_995 dlaw_997 dlaw_998 dlaw_999 ?_
  refine r_argZ (c := 2) hX hScr rfl rfl (by decide) (by omega) (by omega) dlaw_1000 dlaw_1001 dlaw_1003 dlaw_1004 dlaw_1005 ?_
  refine r_argZ (c := 3) hX hScr rfl rfl (by decide) (by omega) (by omega) dlaw_1006 dlaw_1007 dlaw_1009 dlaw_1010 dlaw_1011 ?_
  refine r_argZ (c := 4) hX hScr rfl rfl (by decide) (by omega) (by omega) dlaw_1012 dlaw_1013 dlaw_1015 dlaw_1016 dlaw_1017 ?_
  refine r_ne0Z hX (iZ_rng _) dlaw_1018 dlaw_1021 dlaw_1022 dlaw_1025 ?_
  refine r_callV hX (z_X4_moveDate ad ae cs (mKof S9 T) S th [(ao, .inr (4, [.long n9, s0]))] hS _ (iZ_rng _) _ (iZ_rng _) _ (iZ_rng _) _) kv_L_190 14 rfl rfl rfl rfl (Nat.le_of_ble_eq_true rfl) ⟨(Nat.le_of_ble_eq_true rfl), (Nat.le_of_ble_eq_true rfl)⟩ ⟨by show k + 2 + 1 ≤ 652172; omega, by show n + 12 + 4 ≤ 7139589; omega⟩ dlaw_1026 (fun _ _ z => False.elim z) (fun v8 ws8 h8 => ?_)
  obtain ⟨r8, th8, S8, g8, rfl, hw8⟩ := zU8 (W := fun S8 th8 => mRw ad ae cs (mKof S9 T) (mJof S8 th8) [(ao, .inr (4, [.long n9, s0]))]) h8
  replace hw8 : ws8 = mRw ad ae cs (mKof S9 T) (mJof S8 th8) [(ao, .inr (4, [.long n9, s0]))] := hw8
  subst hw8
  dsimp only [mPush]
  obtain ⟨e1, e2, hn9, hwf⟩ := zM g9 g8 hS (fun g => wf_oMv hS (by omega))
  subst S8
  subst th8
  refine r_istore hX dlaw_1029 (by decide) rfl ?_
  refine r_aload_n hX dlaw_1031 rfl rfl ?_
  refine r_callV hX (c_X4_thrown ad ae cs (mKof S9 T) (mJof S9 r9) _) kv_L_191 14 rfl rfl rfl rfl (Nat.le_of_ble_eq_true rfl) ⟨(Nat.le_of_ble_eq_true rfl), (Nat.le_of_ble_eq_true rfl)⟩ ⟨by show k + 2 + 1 + 0 ≤ 652172; omega, by show n + 12 + 4 + 0 ≤ 7139589; omega⟩ dlaw_1032 (fun _ _ z => False.elim z) (fun v7 ws7 h7 => ?_)
  obtain ⟨hv7, hw7⟩ := h7
  replace hv7 : v7 = some (.int r9) := hv7
  subst hv7 hw7
  dsimp only [mPush]
  refine r_iload hX dlaw_1035 rfl ?_
  refine r_icmp_eq (tgt := 1042) hX dlaw_1037 (by decide) (fun _ => ?_) (fun h7 => (h7 rfl).elim)
  refine r_iload hX dlaw_1042 rfl ?_
  refine r_if_ne (tgt := 1060) hX dlaw_1044 (by decide) (fun h0 => ?_) (fun h0 => ?_)
  ·
    refine r_goto (tgt := 1886) hX dlaw_1060 (by decide) ?_
    exact r_loc (lv' := [(0, some (.ref b)), (1, some (.ref (ad 0))), (2, some (.ref (ae 0))), (3, some (.ref ao)), (4, some (.int (nI (7 * t))))]) (by exact ⟨rfl, rfl, rfl, rfl, rfl, trivial⟩) (Nat.le_refl _) (Nat.le_refl _) (back S9 T r9 n9 s0 _ _ hwf (by omega) (by omega))
  · obtain ⟨f1, f2⟩ := hn9 (Classical.not_not.mp h0)
    subst n9
    subst r8
    refine r_aload_n hX dlaw_1047 rfl rfl ?_
    refine r_getN hX kg_L_13 21 rfl rfl dlaw_1048 ?_
    refine r_iload hX dlaw_1051 rfl ?_
    refine r_i2l hX dlaw_1053 ?_
    refine r_lcmp hX dlaw_1054 ?_
    refine r_if_eq (tgt := 1060) hX dlaw_1055 (by decide) (fun _ => ?_) (fun h7 => absurd ((lg_cmp_eq _ _).mpr (by rfl)) h7)
    refine r_goto (tgt := 1886) hX dlaw_1060 (by decide) ?_
    exact r_loc (lv' := [(0, some (.ref b)), (1, some (.ref (ad 0))), (2, some (.ref (ae 0))), (3, some (.ref ao)), (4, some (.int (nI (7 * t))))]) (by exact ⟨rfl, rfl, rfl, rfl, rfl, trivial⟩) (Nat.le_refl _) (Nat.le_refl _) (back S9 T r9 _ s0 _ _ hwf (by omega) (by omega))
set_option maxHeartbeats 1000000 in
theorem law_z16 {X : mC} {b L : Nat} {xs : Nat → Int32} {ad ae : Nat → Nat} {cs : ClassId × ClassId × ClassId} {S : mS} {T : mT2} {th : Int32} {ao t k n : Nat} {n0 : Int64} {s0 : Value} (hX : mOK X RL code 7 room_1 [] (mTy cs)) (hg : mHas X mNc) (hScr : mScr X b L xs) (hE : mLE X b) (hS : sWF S) (hL : L ≤ 3584) (hi : 7 * t + 6 < L) (hk : k + 100 ≤ 652172) (hn : n + 2500 ≤ 7139589) (back : mBkZ X b ad ae cs ao t k n) : mV X 1063 [(0, some (.ref b)), (1, some (.ref (ad 0))), (2, some (.ref (ae 0))), (3, some (.ref ao)), (4, some (.int (nI (7 * t))))] [] (mRw ad ae cs (mKof S T) (mJof S th) [(ao, .inr (4, [.long n0, s0]))]) k n := by
  refine r_aload_n hX dlaw_1063 rfl rfl ?_
  refine r_argZ (c := 1) hX hScr rfl rfl (by decide) (by omega) (by omega) dlaw_1064 dlaw_1065 dlaw_1067 dlaw_1068 dlaw_1069 ?_
  refine r_argZ (c := 2) hX hScr rfl rfl (by decide) (by omega) (by omega) dlaw_1070 dlaw_1071 dlaw_1073 dlaw_1074 dlaw_1075 ?_
  refine r_argZ (c := 3) hX hScr rfl rfl (by decide) (by omega) (by omega) dlaw_1076 dlaw_1077 dlaw_1079 dlaw_1080 dlaw_1081 ?_
  refine r_aload_n hX dlaw_1082 rfl rfl ?_
  refine r_callW hX hg (z_L_set ad ae cs S T (mJof S th) [] hS ao n0 s0 _ (iZ_rng _) _ (iZ_rng _) _ (iZ_rng _)) kh_L_195 rfl rfl (Nat.le_of_ble_eq_true rfl) ⟨(Nat.le_of_ble_eq_true rfl), (Nat.le_of_ble_eq_true rfl)⟩ ⟨by show k + 2 ≤ 652172; omega, by show n + 12 ≤ 7139589; omega⟩ dlaw_1083 (fun v9 ws9 h9 => ?_)
  obtain ⟨r9, n9, S9, g9, rfl, hw9⟩ := zU9 (W := fun S9 n9 => mRw ad ae cs (mKof S9 T) (mJof S th) [(ao, .inr (4, [.long n9, s0]))]) h9
  replace hw9 : ws9 = mRw ad ae cs (mKof S9 T) (mJof S th) [(ao, .inr (4, [.long n9, s0]))] := hw9
  subst hw9
  dsimp only [mPush]
  refine r_istore hX dlaw_1086 (by decide) rfl ?_
  refine r_aload_n hX dlaw_1088 rfl rfl ?_
  refine r_argZ (c := 1) hX hScr rfl rfl (by decide) (by omega) (by omega) dlaw_1089 dlaw_1090 dlaw_1092 dlaw_1093 dlaw_1094 ?_
  refine r_argZ (c := 2) hX hScr rfl rfl (by decide) (by omega) (by omega) dlaw_1095 dlaw_1096 dlaw_1098 dlaw_1099 dlaw_1100 ?_
  refine r_argZ (c := 3) hX hScr rfl rfl (by decide) (by omega) (by omega) dlaw_1101 dlaw_1102 dlaw_1104 dlaw_1105 dlaw_1106 ?_
  refine r_callV hX (z_X4_set ad ae cs (mKof S9 T) S th [(ao, .inr (4, [.long n9, s0]))] hS _ (iZ_rng _) _ (iZ_rng _) _ (iZ_rng _)) kv_L_197 14 rfl rfl rfl rfl (Nat.le_of_ble_eq_true rfl) ⟨(Nat.le_of_ble_eq_true rfl), (Nat.le_of_ble_eq_true rfl)⟩ ⟨by show k + 2 + 1 ≤ 652172; omega, by show n + 12 + 4 ≤ 7139589; omega⟩ dlaw_1107 (fun _ _ z => False.elim z) (fun v8 ws8 h8 => ?_)
  obtain ⟨r8, th8, S8, g8, rfl, hw8⟩ := zU8 (W := fun S8 th8 => mRw ad ae cs (mKof S9 T) (mJof S8 th8) [(ao, .inr (4, [.long n9, s0]))]) h8
  replace hw8 : ws8 = mRw ad ae cs (mKof S9 T) (mJof S8 th8) [(ao, .inr (4, [.long n9, s0]))] := hw8
  subst hw8
  dsimp only [mPush]
  obtain ⟨e1, e2, hn9, hwf⟩ := zM g9 g8 hS (fun g => wf_oSet hS (by omega))
  subst S8
  subst th8
  refine r_istore hX dlaw_1110 (by decide) rfl ?_
  refine r_goto (tgt := 1886) hX dlaw_1112 (by decide) ?_
  exact r_loc (lv' := [(0, some (.ref b)), (1, some (.ref (ad 0))), (2, some (.ref (ae 0))), (3, some (.ref ao)), (4, some (.int (nI (7 * t))))]) (by exact ⟨rfl, rfl, rfl, rfl, rfl, trivial⟩) (Nat.le_refl _) (Nat.le_refl _) (back S9 T r9 n9 s0 _ _ hwf (by omega) (by omega))
end
-- 83 zcase
section
/-! The law's cases, exact. (Rows by a program of this repository.) -/
set_option maxHeartbeats 1000000 in
theorem law_z17 {X : mC} {b L : Nat} {xs : Nat → Int32} {ad ae : Nat → Nat} {cs : ClassId × ClassId × ClassId} {S : mS} {T : mT2} {th : Int32} {ao t k n : Nat} {n0 : Int64} {s0 : Value} (hX : mOK X RL code 7 room_1 [] (mTy cs)) (hg : mHas X mNc) (hScr : mScr X b L xs) (hE : mLE X b) (hS : sWF S) (hL : L ≤ 3584) (hi : 7 * t + 6 < L) (hk : k + 100 ≤ 652172) (hn : n + 2500 ≤ 7139589) (back : mBkZ X b ad ae cs ao t k n) : mV X 1115 [(0, some (.ref b)), (1, some (.ref (ad 0))), (2, some (.ref (ae 0))), (3, some (.ref ao)), (4, some (.int (nI (7 * t))))] [] (mRw ad ae cs (mKof S T) (mJof S th) [(ao, .inr (4, [.long n0, s0]))]) k n := by
  refine r_aload_n hX dlaw_1115 rfl rfl ?_
  refine r_argZ (c := 1) hX hScr rfl rfl (by decide) (by omega) (by omega) dlaw_1116 dlaw_1117 dlaw_1119 dlaw_1120 dlaw_1121 ?_
  refine r_argZ (c := 2) hX hScr rfl rfl (by decide) (by omega) (by omega) dlaw_1122 dlaw_1123 dlaw_1125 dlaw_1126 dlaw_1127 ?_
  refine r_argZ (c := 3) hX hScr rfl rfl (by decide) (by omega) (by omega) dlaw_1128 dlaw_1129 dlaw_1131 dlaw_1132 dlaw_1133 ?_
  refine r_ne0Z hX (iZ_rng _) dlaw_1134 dlaw_1137 dlaw_1138 dlaw_1141 ?_
  refine r_aload_n hX dlaw_1142 rfl rfl ?_
  refine r_callW hX hg (z_L_anew ad ae cs S T (mJof S th) [] hS ao n0 s0 _ (iZ_rng _) _ (iZ_rng _) _) kh_L_198 rfl rfl (Nat.le_of_ble_eq_true rfl) ⟨(Nat.le_of_ble_eq_true rfl), (Nat.le_of_ble_eq_true rfl)⟩ ⟨by show k + 2 ≤ 652172; omega, by show n + 12 ≤ 7139589; omega⟩ dlaw_1143 (fun v9 ws9 h9 => ?_)
  obtain ⟨r9, n9, S9, g9, rfl, hw9⟩ := zU9 (W := fun S9 n9 => mRw ad ae cs (mKof S9 T) (mJof S th) [(ao, .inr (4, [.long n9, s0]))]) h9
  replace hw9 : ws9 = mRw ad ae cs (mKof S9 T) (mJof S th) [(ao, .inr (4, [.long n9, s0]))] := hw9
  subst hw9
  dsimp only [mPush]
  refine r_istore hX dlaw_1146 (by decide) rfl ?_
  refine r_aload_n hX dlaw_1148 rfl rfl ?_
  refine r_argZ (c := 1) hX hScr rfl rfl (by decide) (by omega) (by omega) dlaw_1149 dlaw_1150 dlaw_1152 dlaw_1153 dlaw_1154 ?_
  refine r_argZ (c := 2) hX hScr rfl rfl (by decide) (by omega) (by omega) dlaw_1155 dlaw_1156 dlaw_1158 dlaw_1159 dlaw_1160 ?_
  refine r_argZ (c := 3) hX hScr rfl rfl (by decide) (by omega) (by omega) dlaw_1161 dlaw_1162 dlaw_1164 dlaw_1165 dlaw_1166 ?_
  refine r_ne0Z hX (iZ_rng _) dlaw_1167 dlaw_1170 dlaw_1171 dlaw_1174 ?_
  refine r_callV hX (z_X4_anew ad ae cs (mKof S9 T) S th [(ao, .inr (4, [.long n9, s0]))] hS _ (iZ_rng _) _ (iZ_rng _) _) kv_L_201 14 rfl rfl rfl rfl (Nat.le_of_ble_eq_true rfl) ⟨(Nat.le_of_ble_eq_true rfl), (Nat.le_of_ble_eq_true rfl)⟩ ⟨by show k + 2 + 0 ≤ 652172; omega, by show n + 12 + 0 ≤ 7139589; omega⟩ dlaw_1175 (fun _ _ z => False.elim z) (fun v8 ws8 h8 => ?_)
  obtain ⟨r8, th8, S8, g8, rfl, hw8⟩ := zU8 (W := fun S8 th8 => mRw ad ae cs (mKof S9 T) (mJof S8 th8) [(ao, .inr (4, [.long n9, s0]))]) h8
  replace hw8 : ws8 = mRw ad ae cs (mKof S9 T) (mJof S8 th8) [(ao, .inr (4, [.long n9, s0]))] := hw8
  subst hw8
  dsimp only [mPush]
  obtain ⟨e1, e2, hn9, hwf⟩ := zM g9 g8 hS (fun g => hS.oLoc (by omega) (hS.2.2.1 (((xs (7 * t + 1)).toInt).toNat) (by omega)).1 (hS.1 (((xs (7 * t + 2)).toInt).toNat) (by omega)))
  subst S8
  subst th8
  refine r_istore hX dlaw_1178 (by decide) rfl ?_
  refine r_goto (tgt := 1886) hX dlaw_1180 (by decide) ?_
  exact r_loc (lv' := [(0, some (.ref b)), (1, some (.ref (ad 0))), (2, some (.ref (ae 0))), (3, some (.ref ao)), (4, some (.int (nI (7 * t))))]) (by exact ⟨rfl, rfl, rfl, rfl, rfl, trivial⟩) (Nat.le_refl _) (Nat.le_refl _) (back S9 T r9 n9 s0 _ _ hwf (by omega) (by omega))
set_option maxHeartbeats 1000000 in
theorem law_z18 {X : mC} {b L : Nat} {xs : Nat → Int32} {ad ae : Nat → Nat} {cs : ClassId × ClassId × ClassId} {S : mS} {T : mT2} {th : Int32} {ao t k n : Nat} {n0 : Int64} {s0 : Value} (hX : mOK X RL code 7 room_1 [] (mTy cs)) (hg : mHas X mNc) (hScr : mScr X b L xs) (hE : mLE X b) (hS : sWF S) (hL : L ≤ 3584) (hi : 7 * t + 6 < L) (hk : k + 100 ≤ 652172) (hn : n + 2500 ≤ 7139589) (back : mBkZ X b ad ae cs ao t k n) : mV X 1183 [(0, some (.ref b)), (1, some (.ref (ad 0))), (2, some (.ref (ae 0))), (3, some (.ref ao)), (4, some (.int (nI (7 * t))))] [] (mRw ad ae cs (mKof S T) (mJof S th) [(ao, .inr (4, [.long n0, s0]))]) k n := by
  refine r_aload_n hX dlaw_1183 rfl rfl ?_
  refine r_argZ (c := 1) hX hScr rfl rfl (by decide) (by omega) (by omega) dlaw_1184 dlaw_1185 dlaw_1187 dlaw_1188 dlaw_1189 ?_
  refine r_argZ (c := 2) hX hScr rfl rfl (by decide) (by omega) (by omega) dlaw_1190 dlaw_1191 dlaw_1193 dlaw_1194 dlaw_1195 ?_
  refine r_aload_n hX dlaw_1196 rfl rfl ?_
  refine r_callW hX hg (z_L_copy ad ae cs S T (mJof S th) [] hS ao n0 s0 _ (iZ_rng _) _ (iZ_rng _)) kh_L_202 rfl rfl (Nat.le_of_ble_eq_true rfl) ⟨(Nat.le_of_ble_eq_true rfl), (Nat.le_of_ble_eq_true rfl)⟩ ⟨by show k + 2 ≤ 652172; omega, by show n + 12 ≤ 7139589; omega⟩ dlaw_1197 (fun v9 ws9 h9 => ?_)
  obtain ⟨r9, n9, S9, g9, rfl, hw9⟩ := zU9 (W := fun S9 n9 => mRw ad ae cs (mKof S9 T) (mJof S th) [(ao, .inr (4, [.long n9, s0]))]) h9
  replace hw9 : ws9 = mRw ad ae cs (mKof S9 T) (mJof S th) [(ao, .inr (4, [.long n9, s0]))] := hw9
  subst hw9
  dsimp only [mPush]
  refine r_istore hX dlaw_1200 (by decide) rfl ?_
  refine r_aload_n hX dlaw_1202 rfl rfl ?_
  refine r_argZ (c := 1) hX hScr rfl rfl (by decide) (by omega) (by omega) dlaw_1203 dlaw_1204 dlaw_1206 dlaw_1207 dlaw_1208 ?_
  refine r_argZ (c := 2) hX hScr rfl rfl (by decide) (by omega) (by omega) dlaw_1209 dlaw_1210 dlaw_1212 dlaw_1213 dlaw_1214 ?_
  refine r_callV hX (z_X4_copy ad ae cs (mKof S9 T) S th [(ao, .inr (4, [.long n9, s0]))] hS _ (iZ_rng _) _ (iZ_rng _)) kv_L_204 14 rfl rfl rfl rfl (Nat.le_of_ble_eq_true rfl) ⟨(Nat.le_of_ble_eq_true rfl), (Nat.le_of_ble_eq_true rfl)⟩ ⟨by show k + 2 + 0 ≤ 652172; omega, by show n + 12 + 0 ≤ 7139589; omega⟩ dlaw_1215 (fun _ _ z => False.elim z) (fun v8 ws8 h8 => ?_)
  obtain ⟨r8, th8, S8, g8, rfl, hw8⟩ := zU8 (W := fun S8 th8 => mRw ad ae cs (mKof S9 T) (mJof S8 th8) [(ao, .inr (4, [.long n9, s0]))]) h8
  replace hw8 : ws8 = mRw ad ae cs (mKof S9 T) (mJof S8 th8) [(ao, .inr (4, [.long n9, s0]))] := hw8
  subst hw8
  dsimp only [mPush]
  obtain ⟨e1, e2, hn9, hwf⟩ := zM g9 g8 hS (fun g => hS.oLoc (by omega) (hS.2.2.1 (((xs (7 * t + 2)).toInt).toNat) (by omega)).1 (hS.2.2.1 (((xs (7 * t + 2)).toInt).toNat) (by omega)).2)
  subst S8
  subst th8
  refine r_istore hX dlaw_1218 (by decide) rfl ?_
  refine r_goto (tgt := 1886) hX dlaw_1220 (by decide) ?_
  exact r_loc (lv' := [(0, some (.ref b)), (1, some (.ref (ad 0))), (2, some (.ref (ae 0))), (3, some (.ref ao)), (4, some (.int (nI (7 * t))))]) (by exact ⟨rfl, rfl, rfl, rfl, rfl, trivial⟩) (Nat.le_refl _) (Nat.le_refl _) (back S9 T r9 n9 s0 _ _ hwf (by omega) (by omega))
set_option maxHeartbeats 1000000 in
theorem law_z19 {X : mC} {b L : Nat} {xs : Nat → Int32} {ad ae : Nat → Nat} {cs : ClassId × ClassId × ClassId} {S : mS} {T : mT2} {th : Int32} {ao t k n : Nat} {n0 : Int64} {s0 : Value} (hX : mOK X RL code 7 room_1 [] (mTy cs)) (hg : mHas X mNc) (hScr : mScr X b L xs) (hE : mLE X b) (hS : sWF S) (hL : L ≤ 3584) (hi : 7 * t + 6 < L) (hk : k + 100 ≤ 652172) (hn : n + 2500 ≤ 7139589) (back : mBkZ X b ad ae cs ao t k n) : mV X 1223 [(0, some (.ref b)), (1, some (.ref (ad 0))), (2, some (.ref (ae 0))), (3, some (.ref ao)), (4, some (.int (nI (7 * t))))] [] (mRw ad ae cs (mKof S T) (mJof S th) [(ao, .inr (4, [.long n0, s0]))]) k n := by
  refine r_aload_n hX dlaw_1223 rfl rfl ?_
  refine r_argZ (c := 1) hX hScr rfl rfl (by decide) (by omega) (by omega) dlaw_1224 dlaw_1225 dlaw_1227 dlaw_1228 dlaw_1229 ?_
  refine r_argZ (c := 2) hX hScr rfl rfl (by decide) (by omega) (by omega) dlaw_1230 dlaw_1231 dlaw_1233 dlaw_1234 dlaw_1235 ?_
  refine r_aload_n hX dlaw_1236 rfl rfl ?_
  refine r_callW hX hg (z_L_ofDate ad ae cs S T (mJof S th) [] hS ao n0 s0 _ (iZ_rng _) _ (iZ_rng _)) kh_L_205 rfl rfl (Nat.le_of_ble_eq_true rfl) ⟨(Nat.le_of_ble_eq_true rfl), (Nat.le_of_ble_eq_true rfl)⟩ ⟨by show k + 2 ≤ 652172; omega, by show n + 12 ≤ 7139589; omega⟩ dlaw_1237 (fun v9 ws9 h9 => ?_)
  obtain ⟨r9, n9, S9, g9, rfl, hw9⟩ := zU9 (W := fun S9 n9 => mRw ad ae cs (mKof S9 T) (mJof S th) [(ao, .inr (4, [.long n9, s0]))]) h9
  replace hw9 : ws9 = mRw ad ae cs (mKof S9 T) (mJof S th) [(ao, .inr (4, [.long n9, s0]))] := hw9
  subst hw9
  dsimp only [mPush]
  refine r_istore hX dlaw_1240 (by decide) rfl ?_
  refine r_aload_n hX dlaw_1242 rfl rfl ?_
  refine r_argZ (c := 1) hX hScr rfl rfl (by decide) (by omega) (by omega) dlaw_1243 dlaw_1244 dlaw_1246 dlaw_1247 dlaw_1248 ?_
  refine r_argZ (c := 2) hX hScr rfl rfl (by decide) (by omega) (by omega) dlaw_1249 dlaw_1250 dlaw_1252 dlaw_1253 dlaw_1254 ?_
  refine r_callV hX (z_X4_ofDate ad ae cs (mKof S9 T) S th [(ao, .inr (4, [.long n9, s0]))] hS _ (iZ_rng _) _ (iZ_rng _)) kv_L_207 14 rfl rfl rfl rfl (Nat.le_of_ble_eq_true rfl) ⟨(Nat.le_of_ble_eq_true rfl), (Nat.le_of_ble_eq_true rfl)⟩ ⟨by show k + 2 + 1 ≤ 652172; omega, by show n + 12 + 4 ≤ 7139589; omega⟩ dlaw_1255 (fun _ _ z => False.elim z) (fun v8 ws8 h8 => ?_)
  obtain ⟨r8, th8, S8, g8, rfl, hw8⟩ := zU8 (W := fun S8 th8 => mRw ad ae cs (mKof S9 T) (mJof S8 th8) [(ao, .inr (4, [.long n9, s0]))]) h8
  replace hw8 : ws8 = mRw ad ae cs (mKof S9 T) (mJof S8 th8) [(ao, .inr (4, [.long n9, s0]))] := hw8
  subst hw8
  dsimp only [mPush]
  obtain ⟨e1, e2, hn9, hwf⟩ := zM g9 g8 hS (fun g => hS)
  subst S8
  subst th8
  refine r_istore hX dlaw_1258 (by decide) rfl ?_
  refine r_goto (tgt := 1886) hX dlaw_1260 (by decide) ?_
  exact r_loc (lv' := [(0, some (.ref b)), (1, some (.ref (ad 0))), (2, some (.ref (ae 0))), (3, some (.ref ao)), (4, some (.int (nI (7 * t))))]) (by exact ⟨rfl, rfl, rfl, rfl, rfl, trivial⟩) (Nat.le_refl _) (Nat.le_refl _) (back S9 T r9 n9 s0 _ _ hwf (by omega) (by omega))
set_option maxHeartbeats 1000000 in
theorem law_z20 {X : mC} {b L : Nat} {xs : Nat → Int32} {ad ae : Nat → Nat} {cs : ClassId × ClassId × ClassId} {S : mS} {T : mT2} {th : Int32} {ao t k n : Nat} {n0 : Int64} {s0 : Value} (hX : mOK X RL code 7 room_1 [] (mTy cs)) (hg : mHas X mNc) (hScr : mScr X b L xs) (hE : mLE X b) (hS : sWF S) (hL : L ≤ 3584) (hi : 7 * t + 6 < L) (hk : k + 100 ≤ 652172) (hn : n + 2500 ≤ 7139589) (back : mBkZ X b ad ae cs ao t k n) : mV X 1263 [(0, some (.ref b)), (1, some (.ref (ad 0))), (2, some (.ref (ae 0))), (3, some (.ref ao)), (4, some (.int (nI (7 * t))))] [] (mRw ad ae cs (mKof S T) (mJof S th) [(ao, .inr (4, [.long n0, s0]))]) k n := by
  refine r_aload_n hX dlaw_1263 rfl rfl ?_
  refine r_argZ (c := 1) hX hScr rfl rfl (by decide) (by omega) (by omega) dlaw_1264 dlaw_1265 dlaw_1267 dlaw_1268 dlaw_1269 ?_
  refine r_argZ (c := 2) hX hScr rfl rfl (by decide) (by omega) (by omega) dlaw_1270 dlaw_1271 dlaw_1273 dlaw_1274 dlaw_1275 ?_
  refine r_aload_n hX dlaw_1276 rfl rfl ?_
  refine r_callW hX hg (z_L_orderDate ad ae cs S T (mJof S th) [] hS ao n0 s0 _ (iZ_rng _) _ (iZ_rng _)) kh_L_208 rfl rfl (Nat.le_of_ble_eq_true rfl) ⟨(Nat.le_of_ble_eq_true rfl), (Nat.le_of_ble_eq_true rfl)⟩ ⟨by show k + 2 ≤ 652172; omega, by show n + 12 ≤ 7139589; omega⟩ dlaw_1277 (fun v9 ws9 h9 => ?_)
  obtain ⟨r9, n9, S9, g9, rfl, hw9⟩ := zU9 (W := fun S9 n9 => mRw ad ae cs (mKof S9 T) (mJof S th) [(ao, .inr (4, [.long n9, s0]))]) h9
  replace hw9 : ws9 = mRw ad ae cs (mKof S9 T) (mJof S th) [(ao, .inr (4, [.long n9, s0]))] := hw9
  subst hw9
  dsimp only [mPush]
  refine r_istore hX dlaw_1280 (by decide) rfl ?_
  refine r_aload_n hX dlaw_1282 rfl rfl ?_
  refine r_argZ (c := 1) hX hScr rfl rfl (by decide) (by omega) (by omega) dlaw_1283 dlaw_1284 dlaw_1286 dlaw_1287 dlaw_1288 ?_
  refine r_argZ (c := 2) hX hScr rfl rfl (by decide) (by omega) (by omega) dlaw_1289 dlaw_1290 dlaw_1292 dlaw_1293 dlaw_1294 ?_
  refine r_callV hX (z_X4_orderDate ad ae cs (mKof S9 T) S th [(ao, .inr (4, [.long n9, s0]))] hS _ (iZ_rng _) _ (iZ_rng _)) kv_L_210 14 rfl rfl rfl rfl (Nat.le_of_ble_eq_true rfl) ⟨(Nat.le_of_ble_eq_true rfl), (Nat.le_of_ble_eq_true rfl)⟩ ⟨by show k + 2 + 0 ≤ 652172; omega, by show n + 12 + 0 ≤ 7139589; omega⟩ dlaw_1295 (fun _ _ z => False.elim z) (fun v8 ws8 h8 => ?_)
  obtain ⟨r8, th8, S8, g8, rfl, hw8⟩ := zU8 (W := fun S8 th8 => mRw ad ae cs (mKof S9 T) (mJof S8 th8) [(ao, .inr (4, [.long n9, s0]))]) h8
  replace hw8 : ws8 = mRw ad ae cs (mKof S9 T) (mJof S8 th8) [(ao, .inr (4, [.long n9, s0]))] := hw8
  subst hw8
  dsimp only [mPush]
  obtain ⟨e1, e2, hn9, hwf⟩ := zM g9 g8 hS (fun g => hS)
  subst S8
  subst th8
  refine r_istore hX dlaw_1298 (by decide) rfl ?_
  refine r_goto (tgt := 1886) hX dlaw_1300 (by decide) ?_
  exact r_loc (lv' := [(0, some (.ref b)), (1, some (.ref (ad 0))), (2, some (.ref (ae 0))), (3, some (.ref ao)), (4, some (.int (nI (7 * t))))]) (by exact ⟨rfl, rfl, rfl, rfl, rfl, trivial⟩) (Nat.le_refl _) (Nat.le_refl _) (back S9 T r9 n9 s0 _ _ hwf (by omega) (by omega))
set_option maxHeartbeats 1000000 in
theorem law_z21 {X : mC} {b L : Nat} {xs : Nat → Int32} {ad ae : Nat → Nat} {cs : ClassId × ClassId × ClassId} {S : mS} {T : mT2} {th : Int32} {ao t k n : Nat} {n0 : Int64} {s0 : Value} (hX : mOK X RL code 7 room_1 [] (mTy cs)) (hg : mHas X mNc) (hScr : mScr X b L xs) (hE : mLE X b) (hS : sWF S) (hL : L ≤ 3584) (hi : 7 * t + 6 < L) (hk : k + 100 ≤ 652172) (hn : n + 2500 ≤ 7139589) (back : mBkZ X b ad ae cs ao t k n) : mV X 1303 [(0, some (.ref b)), (1, some (.ref (ad 0))), (2, some (.ref (ae 0))), (3, some (.ref ao)), (4, some (.int (nI (7 * t))))] [] (mRw ad ae cs (mKof S T) (mJof S th) [(ao, .inr (4, [.long n0, s0]))]) k n := by
  refine r_aload_n hX dlaw_1303 rfl rfl ?_
  refine r_argZ (c := 1) hX hScr rfl rfl (by decide) (by omega) (by omega) dlaw_1304 dlaw_1305 dlaw_1307 dlaw_1308 dlaw_1309 ?_
  refine r_argZ (c := 2) hX hScr rfl rfl (by decide) (by omega) (by omega) dlaw_1310 dlaw_1311 dlaw_1313 dlaw_1314 dlaw_1315 ?_
  refine r_argZ (c := 3) hX hScr rfl rfl (by decide) (by omega) (by omega) dlaw_1316 dlaw_1317 dlaw_1319 dlaw_1320 dlaw_1321 ?_
  refine r_aload_n hX dlaw_1322 rfl rfl ?_
  refine r_callW hX hg (z_L_isDate ad ae cs S T (mJof S th) [] hS ao n0 s0 _ (iZ_rng _) _ (iZ_rng _) _ (iZ_rng _)) kh_L_211 rfl rfl (Nat.le_of_ble_eq_true rfl) ⟨(Nat.le_of_ble_eq_true rfl), (Nat.le_of_ble_eq_true rfl)⟩ ⟨by show k + 3 ≤ 652172; omega, by show n + 18 ≤ 7139589; omega⟩ dlaw_1323 (fun v9 ws9 h9 => ?_)
  obtain ⟨r9, n9, S9, g9, rfl, hw9⟩ := zU9 (W := fun S9 n9 => mRw ad ae cs (mKof S9 T) (mJof S th) [(ao, .inr (4, [.long n9, s0]))]) h9
  replace hw9 : ws9 = mRw ad ae cs (mKof S9 T) (mJof S th) [(ao, .inr (4, [.long n9, s0]))] := hw9
  subst hw9
  dsimp only [mPush]
  refine r_istore hX dlaw_1326 (by decide) rfl ?_
  refine r_aload_n hX dlaw_1328 rfl rfl ?_
  refine r_argZ (c := 1) hX hScr rfl rfl (by decide) (by omega) (by omega) dlaw_1329 dlaw_1330 dlaw_1332 dlaw_1333 dlaw_1334 ?_
  refine r_argZ (c := 2) hX hScr rfl rfl (by decide) (by omega) (by omega) dlaw_1335 dlaw_1336 dlaw_1338 dlaw_1339 dlaw_1340 ?_
  refine r_argZ (c := 3) hX hScr rfl rfl (by decide) (by omega) (by omega) dlaw_1341 dlaw_1342 dlaw_1344 dlaw_1345 dlaw_1346 ?_
  refine r_callV hX (z_X4_isDate ad ae cs (mKof S9 T) S th [(ao, .inr (4, [.long n9, s0]))] hS _ (iZ_rng _) _ (iZ_rng _) _ (iZ_rng _)) kv_L_213 14 rfl rfl rfl rfl (Nat.le_of_ble_eq_true rfl) ⟨(Nat.le_of_ble_eq_true rfl), (Nat.le_of_ble_eq_true rfl)⟩ ⟨by show k + 3 + 0 ≤ 652172; omega, by show n + 18 + 0 ≤ 7139589; omega⟩ dlaw_1347 (fun _ _ z => False.elim z) (fun v8 ws8 h8 => ?_)
  obtain ⟨r8, th8, S8, g8, rfl, hw8⟩ := zU8 (W := fun S8 th8 => mRw ad ae cs (mKof S9 T) (mJof S8 th8) [(ao, .inr (4, [.long n9, s0]))]) h8
  replace hw8 : ws8 = mRw ad ae cs (mKof S9 T) (mJof S8 th8) [(ao, .inr (4, [.long n9, s0]))] := hw8
  subst hw8
  dsimp only [mPush]
  obtain ⟨e1, e2, hn9, hwf⟩ := zM g9 g8 hS (fun g => hS)
  subst S8
  subst th8
  refine r_istore hX dlaw_1350 (by decide) rfl ?_
  refine r_goto (tgt := 1886) hX dlaw_1352 (by decide) ?_
  exact r_loc (lv' := [(0, some (.ref b)), (1, some (.ref (ad 0))), (2, some (.ref (ae 0))), (3, some (.ref ao)), (4, some (.int (nI (7 * t))))]) (by exact ⟨rfl, rfl, rfl, rfl, rfl, trivial⟩) (Nat.le_refl _) (Nat.le_refl _) (back S9 T r9 n9 s0 _ _ hwf (by omega) (by omega))
set_option maxHeartbeats 1000000 in
theorem law_z22 {X : mC} {b L : Nat} {xs : Nat → Int32} {ad ae : Nat → Nat} {cs : ClassId × ClassId × ClassId} {S : mS} {T : mT2} {th : Int32} {ao t k n : Nat} {n0 : Int64} {s0 : Value} (hX : mOK X RL code 7 room_1 [] (mTy cs)) (hg : mHas X mNc) (hScr : mScr X b L xs) (hE : mLE X b) (hS : sWF S) (hL : L ≤ 3584) (hi : 7 * t + 6 < L) (hk : k + 100 ≤ 652172) (hn : n + 2500 ≤ 7139589) (back : mBkZ X b ad ae cs ao t k n) : mV X 1355 [(0, some (.ref b)), (1, some (.ref (ad 0))), (2, some (.ref (ae 0))), (3, some (.ref ao)), (4, some (.int (nI (7 * t))))] [] (mRw ad ae cs (mKof S T) (mJof S th) [(ao, .inr (4, [.long n0, s0]))]) k n := by
  refine r_aload_n hX dlaw_1355 rfl rfl ?_
  refine r_argZ (c := 1) hX hScr rfl rfl (by decide) (by omega) (by omega) dlaw_1356 dlaw_1357 dlaw_1359 dlaw_1360 dlaw_1361 ?_
  refine r_argZ (c := 2) hX hScr rfl rfl (by decide) (by omega) (by omega) dlaw_1362 dlaw_1363 dlaw_1365 dlaw_1366 dlaw_1367 ?_
  refine r_argZ (c := 3) hX hScr rfl rfl (by decide) (by omega) (by omega) dlaw_1368 dlaw_1369 dlaw_1371 dlaw_1372 dlaw_1373 ?_
  refine r_argZ (c := 4) hX hScr rfl rfl (by decide) (by omega) (by omega) dlaw_1374 dlaw_1375 dlaw_1377 dlaw_1378 dlaw_1379 ?_
  refine r_aload_n hX dlaw_1380 rfl rfl ?_
  refine r_callW hX hg (z_L_clock ad ae cs S T (mJof S th) [] hS ao n0 s0 _ (iZ_rng _) _ (iZ_rng _) _ (iZ_rng _) _ (iZ_rng _)) kh_L_214 rfl rfl (Nat.le_of_ble_eq_true rfl) ⟨(Nat.le_of_ble_eq_true rfl), (Nat.le_of_ble_eq_true rfl)⟩ ⟨by show k + 4 ≤ 652172; omega, by show n + 24 ≤ 7139589; omega⟩ dlaw_1381 (fun v9 ws9 h9 => ?_)
  obtain ⟨r9, n9, S9, g9, rfl, hw9⟩ := zU9 (W := fun S9 n9 => mRw ad ae cs (mKof S9 T) (mJof S th) [(ao, .inr (4, [.long n9, s0]))]) h9
  replace hw9 : ws9 = mRw ad ae cs (mKof S9 T) (mJof S th) [(ao, .inr (4, [.long n9, s0]))] := hw9
  subst hw9
  dsimp only [mPush]
  refine r_istore hX dlaw_1384 (by decide) rfl ?_
  refine r_aload_n hX dlaw_1386 rfl rfl ?_
  refine r_argZ (c := 1) hX hScr rfl rfl (by decide) (by omega) (by omega) dlaw_1387 dlaw_1388 dlaw_1390 dlaw_1391 dlaw_1392 ?_
  refine r_argZ (c := 2) hX hScr rfl rfl (by decide) (by omega) (by omega) dlaw_1393 dlaw_1394 dlaw_1396 dlaw_1397 dlaw_1398 ?_
  refine r_argZ (c := 3) hX hScr rfl rfl (by decide) (by omega) (by omega) dlaw_1399 dlaw_1400 dlaw_1402 dlaw_1403 dlaw_1404 ?_
  refine r_argZ (c := 4) hX hScr rfl rfl (by decide) (by omega) (by omega) dlaw_1405 dlaw_1406 dlaw_1408 dlaw_1409 dlaw_1410 ?_
  refine r_callV hX (z_X4_clock ad ae cs (mKof S9 T) S th [(ao, .inr (4, [.long n9, s0]))] hS _ (iZ_rng _) _ (iZ_rng _) _ (iZ_rng _) _ (iZ_rng _)) kv_L_216 14 rfl rfl rfl rfl (Nat.le_of_ble_eq_true rfl) ⟨(Nat.le_of_ble_eq_true rfl), (Nat.le_of_ble_eq_true rfl)⟩ ⟨by show k + 4 + 0 ≤ 652172; omega, by show n + 24 + 0 ≤ 7139589; omega⟩ dlaw_1411 (fun _ _ z => False.elim z) (fun v8 ws8 h8 => ?_)
  obtain ⟨r8, th8, S8, g8, rfl, hw8⟩ := zU8 (W := fun S8 th8 => mRw ad ae cs (mKof S9 T) (mJof S8 th8) [(ao, .inr (4, [.long n9, s0]))]) h8
  replace hw8 : ws8 = mRw ad ae cs (mKof S9 T) (mJof S8 th8) [(ao, .inr (4, [.long n9, s0]))] := hw8
  subst hw8
  dsimp only [mPush]
  obtain ⟨e1, e2, hn9, hwf⟩ := zM g9 g8 hS (fun g => hS.oClk g.2.2 (hS.1 (((xs (7 * t + 4)).toInt).toNat) (by omega)))
  subst S8
  subst th8
  refine r_istore hX dlaw_1414 (by decide) rfl ?_
  refine r_goto (tgt := 1886) hX dlaw_1416 (by decide) ?_
  exact r_loc (lv' := [(0, some (.ref b)), (1, some (.ref (ad 0))), (2, some (.ref (ae 0))), (3, some (.ref ao)), (4, some (.int (nI (7 * t))))]) (by exact ⟨rfl, rfl, rfl, rfl, rfl, trivial⟩) (Nat.le_refl _) (Nat.le_refl _) (back S9 T r9 n9 s0 _ _ hwf (by omega) (by omega))
set_option maxHeartbeats 1000000 in
theorem law_z23 {X : mC} {b L : Nat} {xs : Nat → Int32} {ad ae : Nat → Nat} {cs : ClassId × ClassId × ClassId} {S : mS} {T : mT2} {th : Int32} {ao t k n : Nat} {n0 : Int64} {s0 : Value} (hX : mOK X RL code 7 room_1 [] (mTy cs)) (hg : mHas X mNc) (hScr : mScr X b L xs) (hE : mLE X b) (hS : sWF S) (hL : L ≤ 3584) (hi : 7 * t + 6 < L) (hk : k + 100 ≤ 652172) (hn : n + 2500 ≤ 7139589) (back : mBkZ X b ad ae cs ao t k n) : mV X 1419 [(0, some (.ref b)), (1, some (.ref (ad 0))), (2, some (.ref (ae 0))), (3, some (.ref ao)), (4, some (.int (nI (7 * t))))] [] (mRw ad ae cs (mKof S T) (mJof S th) [(ao, .inr (4, [.long n0, s0]))]) k n := by
  refine r_aload_n hX dlaw_1419 rfl rfl ?_
  refine r_argZ (c := 1) hX hScr rfl rfl (by decide) (by omega) (by omega) dlaw_1420 dlaw_1421 dlaw_1423 dlaw_1424 dlaw_1425 ?_
  refine r_argZ (c := 2) hX hScr rfl rfl (by decide) (by omega) (by omega) dlaw_1426 dlaw_1427 dlaw_1429 dlaw_1430 dlaw_1431 ?_
  refine r_aload_n hX dlaw_1432 rfl rfl ?_
  refine r_callW hX hg (z_L_clockOf ad ae cs S T (mJof S th) [] hS ao n0 s0 _ (iZ_rng _) _ (iZ_rng _)) kh_L_217 rfl rfl (Nat.le_of_ble_eq_true rfl) ⟨(Nat.le_of_ble_eq_true rfl), (Nat.le_of_ble_eq_true rfl)⟩ ⟨by show k + 2 ≤ 652172; omega, by show n + 12 ≤ 7139589; omega⟩ dlaw_1433 (fun v9 ws9 h9 => ?_)
  obtain ⟨r9, n9, S9, g9, rfl, hw9⟩ := zU9 (W := fun S9 n9 => mRw ad ae cs (mKof S9 T) (mJof S th) [(ao, .inr (4, [.long n9, s0]))]) h9
  replace hw9 : ws9 = mRw ad ae cs (mKof S9 T) (mJof S th) [(ao, .inr (4, [.long n9, s0]))] := hw9
  subst hw9
  dsimp only [mPush]
  refine r_istore hX dlaw_1436 (by decide) rfl ?_
  refine r_aload_n hX dlaw_1438 rfl rfl ?_
  refine r_argZ (c := 1) hX hScr rfl rfl (by decide) (by omega) (by omega) dlaw_1439 dlaw_1440 dlaw_1442 dlaw_1443 dlaw_1444 ?_
  refine r_argZ (c := 2) hX hScr rfl rfl (by decide) (by omega) (by omega) dlaw_1445 dlaw_1446 dlaw_1448 dlaw_1449 dlaw_1450 ?_
  refine r_callV hX (z_X4_clockOf ad ae cs (mKof S9 T) S th [(ao, .inr (4, [.long n9, s0]))] hS _ (iZ_rng _) _ (iZ_rng _)) kv_L_219 14 rfl rfl rfl rfl (Nat.le_of_ble_eq_true rfl) ⟨(Nat.le_of_ble_eq_true rfl), (Nat.le_of_ble_eq_true rfl)⟩ ⟨by show k + 2 + 0 ≤ 652172; omega, by show n + 12 + 0 ≤ 7139589; omega⟩ dlaw_1451 (fun _ _ z => False.elim z) (fun v8 ws8 h8 => ?_)
  obtain ⟨r8, th8, S8, g8, rfl, hw8⟩ := zU8 (W := fun S8 th8 => mRw ad ae cs (mKof S9 T) (mJof S8 th8) [(ao, .inr (4, [.long n9, s0]))]) h8
  replace hw8 : ws8 = mRw ad ae cs (mKof S9 T) (mJof S8 th8) [(ao, .inr (4, [.long n9, s0]))] := hw8
  subst hw8
  dsimp only [mPush]
  obtain ⟨e1, e2, hn9, hwf⟩ := zM g9 g8 hS (fun g => hS.oClk (hS.2.2.1 (((xs (7 * t + 2)).toInt).toNat) (by omega)).1 (hS.2.2.1 (((xs (7 * t + 2)).toInt).toNat) (by omega)).2)
  subst S8
  subst th8
  refine r_istore hX dlaw_1454 (by decide) rfl ?_
  refine r_goto (tgt := 1886) hX dlaw_1456 (by decide) ?_
  exact r_loc (lv' := [(0, some (.ref b)), (1, some (.ref (ad 0))), (2, some (.ref (ae 0))), (3, some (.ref ao)), (4, some (.int (nI (7 * t))))]) (by exact ⟨rfl, rfl, rfl, rfl, rfl, trivial⟩) (Nat.le_refl _) (Nat.le_refl _) (back S9 T r9 n9 s0 _ _ hwf (by omega) (by omega))
set_option maxHeartbeats 1000000 in
theorem law_z24 {X : mC} {b L : Nat} {xs : Nat → Int32} {ad ae : Nat → Nat} {cs : ClassId × ClassId × ClassId} {S : mS} {T : mT2} {th : Int32} {ao t k n : Nat} {n0 : Int64} {s0 : Value} (hX : mOK X RL code 7 room_1 [] (mTy cs)) (hg : mHas X mNc) (hScr : mScr X b L xs) (hE : mLE X b) (hS : sWF S) (hL : L ≤ 3584) (hi : 7 * t + 6 < L) (hk : k + 100 ≤ 652172) (hn : n + 2500 ≤ 7139589) (back : mBkZ X b ad ae cs ao t k n) : mV X 1459 [(0, some (.ref b)), (1, some (.ref (ad 0))), (2, some (.ref (ae 0))), (3, some (.ref ao)), (4, some (.int (nI (7 * t))))] [] (mRw ad ae cs (mKof S T) (mJof S th) [(ao, .inr (4, [.long n0, s0]))]) k n := by
  refine r_aload_n hX dlaw_1459 rfl rfl ?_
  refine r_argZ (c := 1) hX hScr rfl rfl (by decide) (by omega) (by omega) dlaw_1460 dlaw_1461 dlaw_1463 dlaw_1464 dlaw_1465 ?_
  refine r_argZ (c := 2) hX hScr rfl rfl (by decide) (by omega) (by omega) dlaw_1466 dlaw_1467 dlaw_1469 dlaw_1470 dlaw_1471 ?_
  refine r_aload_n hX dlaw_1472 rfl rfl ?_
  refine r_callW hX hg (z_L_strike ad ae cs S T (mJof S th) [] hS ao n0 s0 _ (iZ_rng _) _ (iZ_rng _)) kh_L_220 rfl rfl (Nat.le_of_ble_eq_true rfl) ⟨(Nat.le_of_ble_eq_true rfl), (Nat.le_of_ble_eq_true rfl)⟩ ⟨by show k + 2 ≤ 652172; omega, by show n + 12 ≤ 7139589; omega⟩ dlaw_1473 (fun v9 ws9 h9 => ?_)
  obtain ⟨r9, n9, S9, g9, rfl, hw9⟩ := zU9 (W := fun S9 n9 => mRw ad ae cs (mKof S9 T) (mJof S th) [(ao, .inr (4, [.long n9, s0]))]) h9
  replace hw9 : ws9 = mRw ad ae cs (mKof S9 T) (mJof S th) [(ao, .inr (4, [.long n9, s0]))] := hw9
  subst hw9
  dsimp only [mPush]
  refine r_istore hX dlaw_1476 (by decide) rfl ?_
  refine r_aload_n hX dlaw_1478 rfl rfl ?_
  refine r_argZ (c := 1) hX hScr rfl rfl (by decide) (by omega) (by omega) dlaw_1479 dlaw_1480 dlaw_1482 dlaw_1483 dlaw_1484 ?_
  refine r_argZ (c := 2) hX hScr rfl rfl (by decide) (by omega) (by omega) dlaw_1485 dlaw_1486 dlaw_1488 dlaw_1489 dlaw_1490 ?_
  refine r_callV hX (z_X4_strike ad ae cs (mKof S9 T) S th [(ao, .inr (4, [.long n9, s0]))] hS _ (iZ_rng _) _ (iZ_rng _)) kv_L_222 14 rfl rfl rfl rfl (Nat.le_of_ble_eq_true rfl) ⟨(Nat.le_of_ble_eq_true rfl), (Nat.le_of_ble_eq_true rfl)⟩ ⟨by show k + 2 + 0 ≤ 652172; omega, by show n + 12 + 0 ≤ 7139589; omega⟩ dlaw_1491 (fun _ _ z => False.elim z) (fun v8 ws8 h8 => ?_)
  obtain ⟨r8, th8, S8, g8, rfl, hw8⟩ := zU8 (W := fun S8 th8 => mRw ad ae cs (mKof S9 T) (mJof S8 th8) [(ao, .inr (4, [.long n9, s0]))]) h8
  replace hw8 : ws8 = mRw ad ae cs (mKof S9 T) (mJof S8 th8) [(ao, .inr (4, [.long n9, s0]))] := hw8
  subst hw8
  dsimp only [mPush]
  obtain ⟨e1, e2, hn9, hwf⟩ := zM g9 g8 hS (fun g => hS.oLoc (by omega) (hS.2.2.1 (((xs (7 * t + 2)).toInt).toNat + 4) (by omega)).1 (hS.2.2.1 (((xs (7 * t + 2)).toInt).toNat + 4) (by omega)).2)
  subst S8
  subst th8
  refine r_istore hX dlaw_1494 (by decide) rfl ?_
  refine r_goto (tgt := 1886) hX dlaw_1496 (by decide) ?_
  exact r_loc (lv' := [(0, some (.ref b)), (1, some (.ref (ad 0))), (2, some (.ref (ae 0))), (3, some (.ref ao)), (4, some (.int (nI (7 * t))))]) (by exact ⟨rfl, rfl, rfl, rfl, rfl, trivial⟩) (Nat.le_refl _) (Nat.le_refl _) (back S9 T r9 n9 s0 _ _ hwf (by omega) (by omega))
set_option maxHeartbeats 1000000 in
theorem law_z25 {X : mC} {b L : Nat} {xs : Nat → Int32} {ad ae : Nat → Nat} {cs : ClassId × ClassId × ClassId} {S : mS} {T : mT2} {th : Int32} {ao t k n : Nat} {n0 : Int64} {s0 : Value} (hX : mOK X RL code 7 room_1 [] (mTy cs)) (hg : mHas X mNc) (hScr : mScr X b L xs) (hE : mLE X b) (hS : sWF S) (hL : L ≤ 3584) (hi : 7 * t + 6 < L) (hk : k + 100 ≤ 652172) (hn : n + 2500 ≤ 7139589) (back : mBkZ X b ad ae cs ao t k n) : mV X 1499 [(0, some (.ref b)), (1, some (.ref (ad 0))), (2, some (.ref (ae 0))), (3, some (.ref ao)), (4, some (.int (nI (7 * t))))] [] (mRw ad ae cs (mKof S T) (mJof S th) [(ao, .inr (4, [.long n0, s0]))]) k n := by
  refine r_aload_n hX dlaw_1499 rfl rfl ?_
  refine r_argZ (c := 1) hX hScr rfl rfl (by decide) (by omega) (by omega) dlaw_1500 dlaw_1501 dlaw_1503 dlaw_1504 dlaw_1505 ?_
  refine r_argZ (c := 2) hX hScr rfl rfl (by decide) (by omega) (by omega) dlaw_1506 dlaw_1507 dlaw_1509 dlaw_1510 dlaw_1511 ?_
  refine r_argZ (c := 3) hX hScr rfl rfl (by decide) (by omega) (by omega) dlaw_1512 dlaw_1513 dlaw_1515 dlaw_1516 dlaw_1517 ?_
  refine r_argZ (c := 4) hX hScr rfl rfl (by decide) (by omega) (by omega) dlaw_1518 dlaw_1519 dlaw_1521 dlaw_1522 dlaw_1523 ?_
  refine r_ne0Z hX (iZ_rng _) dlaw_1524 dlaw_1527 dlaw_1528 dlaw_1531 ?_
  refine r_aload_n hX dlaw_1532 rfl rfl ?_
  refine r_callW hX hg (z_L_moveClock ad ae cs S T (mJof S th) [] hS ao n0 s0 _ (iZ_rng _) _ (iZ_rng _) _ (iZ_rng _) _) kh_L_223 rfl rfl (Nat.le_of_ble_eq_true rfl) ⟨(Nat.le_of_ble_eq_true rfl), (Nat.le_of_ble_eq_true rfl)⟩ ⟨by show k + 2 ≤ 652172; omega, by show n + 12 ≤ 7139589; omega⟩ dlaw_1533 (fun v9 ws9 h9 => ?_)
  obtain ⟨r9, n9, S9, g9, rfl, hw9⟩ := zU9 (W := fun S9 n9 => mRw ad ae cs (mKof S9 T) (mJof S th) [(ao, .inr (4, [.long n9, s0]))]) h9
  replace hw9 : ws9 = mRw ad ae cs (mKof S9 T) (mJof S th) [(ao, .inr (4, [.long n9, s0]))] := hw9
  subst hw9
  dsimp only [mPush]
  refine r_istore hX dlaw_1536 (by decide) rfl ?_
  refine r_aload_n hX dlaw_1538 rfl rfl ?_
  refine r_argZ (c := 1) hX hScr rfl rfl (by decide) (by omega) (by omega) dlaw_1539 dlaw_1540 dlaw_1542 dlaw_1543 dlaw_1544 ?_
  refine r_argZ (c := 2) hX hScr rfl rfl (by decide) (by omega) (by omega) dlaw_1545 dlaw_1546 dlaw_1548 dlaw_1549 dlaw_1550 ?_
  refine r_argZ (c := 3) hX hScr rfl rfl (by decide) (by omega) (by omega) dlaw_1551 dlaw_1552 dlaw_1554 dlaw_1555 dlaw_1556 ?_
  refine r_argZ (c := 4) hX hScr rfl rfl (by decide) (by omega) (by omega) dlaw_1557 dlaw_1558 dlaw_1560 dlaw_1561 dlaw_1562 ?_
  refine r_ne0Z hX (iZ_rng _) dlaw_1563 dlaw_1566 dlaw_1567 dlaw_1570 ?_
  refine r_callV hX (z_X4_moveClock ad ae cs (mKof S9 T) S th [(ao, .inr (4, [.long n9, s0]))] hS _ (iZ_rng _) _ (iZ_rng _) _ (iZ_rng _) _) kv_L_225 14 rfl rfl rfl rfl (Nat.le_of_ble_eq_true rfl) ⟨(Nat.le_of_ble_eq_true rfl), (Nat.le_of_ble_eq_true rfl)⟩ ⟨by show k + 2 + 0 ≤ 652172; omega, by show n + 12 + 0 ≤ 7139589; omega⟩ dlaw_1571 (fun _ _ z => False.elim z) (fun v8 ws8 h8 => ?_)
  obtain ⟨r8, th8, S8, g8, rfl, hw8⟩ := zU8 (W := fun S8 th8 => mRw ad ae cs (mKof S9 T) (mJof S8 th8) [(ao, .inr (4, [.long n9, s0]))]) h8
  replace hw8 : ws8 = mRw ad ae cs (mKof S9 T) (mJof S8 th8) [(ao, .inr (4, [.long n9, s0]))] := hw8
  subst hw8
  dsimp only [mPush]
  obtain ⟨e1, e2, hn9, hwf⟩ := zM g9 g8 hS (fun g => hS.oClk (zNn_r (hS.2.2.1 (((xs (7 * t + 1)).toInt).toNat + 4) (by omega)).1) (hS.2.2.1 (((xs (7 * t + 1)).toInt).toNat + 4) (by omega)).2)
  subst S8
  subst th8
  refine r_istore hX dlaw_1574 (by decide) rfl ?_
  refine r_goto (tgt := 1886) hX dlaw_1576 (by decide) ?_
  exact r_loc (lv' := [(0, some (.ref b)), (1, some (.ref (ad 0))), (2, some (.ref (ae 0))), (3, some (.ref ao)), (4, some (.int (nI (7 * t))))]) (by exact ⟨rfl, rfl, rfl, rfl, rfl, trivial⟩) (Nat.le_refl _) (Nat.le_refl _) (back S9 T r9 n9 s0 _ _ hwf (by omega) (by omega))
set_option maxHeartbeats 1000000 in
theorem law_z26 {X : mC} {b L : Nat} {xs : Nat → Int32} {ad ae : Nat → Nat} {cs : ClassId × ClassId × ClassId} {S : mS} {T : mT2} {th : Int32} {ao t k n : Nat} {n0 : Int64} {s0 : Value} (hX : mOK X RL code 7 room_1 [] (mTy cs)) (hg : mHas X mNc) (hScr : mScr X b L xs) (hE : mLE X b) (hS : sWF S) (hL : L ≤ 3584) (hi : 7 * t + 6 < L) (hk : k + 100 ≤ 652172) (hn : n + 2500 ≤ 7139589) (back : mBkZ X b ad ae cs ao t k n) : mV X 1579 [(0, some (.ref b)), (1, some (.ref (ad 0))), (2, some (.ref (ae 0))), (3, some (.ref ao)), (4, some (.int (nI (7 * t))))] [] (mRw ad ae cs (mKof S T) (mJof S th) [(ao, .inr (4, [.long n0, s0]))]) k n := by
  refine r_aload_n hX dlaw_1579 rfl rfl ?_
  refine r_argZ (c := 1) hX hScr rfl rfl (by decide) (by omega) (by omega) dlaw_1580 dlaw_1581 dlaw_1583 dlaw_1584 dlaw_1585 ?_
  refine r_argZ (c := 2) hX hScr rfl rfl (by decide) (by omega) (by omega) dlaw_1586 dlaw_1587 dlaw_1589 dlaw_1590 dlaw_1591 ?_
  refine r_argZ (c := 3) hX hScr rfl rfl (by decide) (by omega) (by omega) dlaw_1592 dlaw_1593 dlaw_1595 dlaw_1596 dlaw_1597 ?_
  refine r_ne0Z hX (iZ_rng _) dlaw_1598 dlaw_1601 dlaw_1602 dlaw_1605 ?_
  refine r_aload_n hX dlaw_1606 rfl rfl ?_
  refine r_callW hX hg (z_L_anewClock ad ae cs S T (mJof S th) [] hS ao n0 s0 _ (iZ_rng _) _ (iZ_rng _) _) kh_L_226 rfl rfl (Nat.le_of_ble_eq_true rfl) ⟨(Nat.le_of_ble_eq_true rfl), (Nat.le_of_ble_eq_true rfl)⟩ ⟨by show k + 2 ≤ 652172; omega, by show n + 12 ≤ 7139589; omega⟩ dlaw_1607 (fun v9 ws9 h9 => ?_)
  obtain ⟨r9, n9, S9, g9, rfl, hw9⟩ := zU9 (W := fun S9 n9 => mRw ad ae cs (mKof S9 T) (mJof S th) [(ao, .inr (4, [.long n9, s0]))]) h9
  replace hw9 : ws9 = mRw ad ae cs (mKof S9 T) (mJof S th) [(ao, .inr (4, [.long n9, s0]))] := hw9
  subst hw9
  dsimp only [mPush]
  refine r_istore hX dlaw_1610 (by decide) rfl ?_
  refine r_aload_n hX dlaw_1612 rfl rfl ?_
  refine r_argZ (c := 1) hX hScr rfl rfl (by decide) (by omega) (by omega) dlaw_1613 dlaw_1614 dlaw_1616 dlaw_1617 dlaw_1618 ?_
  refine r_argZ (c := 2) hX hScr rfl rfl (by decide) (by omega) (by omega) dlaw_1619 dlaw_1620 dlaw_1622 dlaw_1623 dlaw_1624 ?_
  refine r_argZ (c := 3) hX hScr rfl rfl (by decide) (by omega) (by omega) dlaw_1625 dlaw_1626 dlaw_1628 dlaw_1629 dlaw_1630 ?_
  refine r_ne0Z hX (iZ_rng _) dlaw_1631 dlaw_1634 dlaw_1635 dlaw_1638 ?_
  refine r_callV hX (z_X4_anewClock ad ae cs (mKof S9 T) S th [(ao, .inr (4, [.long n9, s0]))] hS _ (iZ_rng _) _ (iZ_rng _) _) kv_L_228 14 rfl rfl rfl rfl (Nat.le_of_ble_eq_true rfl) ⟨(Nat.le_of_ble_eq_true rfl), (Nat.le_of_ble_eq_true rfl)⟩ ⟨by show k + 2 + 0 ≤ 652172; omega, by show n + 12 + 0 ≤ 7139589; omega⟩ dlaw_1639 (fun _ _ z => False.elim z) (fun v8 ws8 h8 => ?_)
  obtain ⟨r8, th8, S8, g8, rfl, hw8⟩ := zU8 (W := fun S8 th8 => mRw ad ae cs (mKof S9 T) (mJof S8 th8) [(ao, .inr (4, [.long n9, s0]))]) h8
  replace hw8 : ws8 = mRw ad ae cs (mKof S9 T) (mJof S8 th8) [(ao, .inr (4, [.long n9, s0]))] := hw8
  subst hw8
  dsimp only [mPush]
  obtain ⟨e1, e2, hn9, hwf⟩ := zM g9 g8 hS (fun g => hS.oClk (hS.2.2.1 (((xs (7 * t + 1)).toInt).toNat + 4) (by omega)).1 (hS.1 (((xs (7 * t + 2)).toInt).toNat) (by omega)))
  subst S8
  subst th8
  refine r_istore hX dlaw_1642 (by decide) rfl ?_
  refine r_goto (tgt := 1886) hX dlaw_1644 (by decide) ?_
  exact r_loc (lv' := [(0, some (.ref b)), (1, some (.ref (ad 0))), (2, some (.ref (ae 0))), (3, some (.ref ao)), (4, some (.int (nI (7 * t))))]) (by exact ⟨rfl, rfl, rfl, rfl, rfl, trivial⟩) (Nat.le_refl _) (Nat.le_refl _) (back S9 T r9 n9 s0 _ _ hwf (by omega) (by omega))
set_option maxHeartbeats 1000000 in
theorem law_z27 {X : mC} {b L : Nat} {xs : Nat → Int32} {ad ae : Nat → Nat} {cs : ClassId × ClassId × ClassId} {S : mS} {T : mT2} {th : Int32} {ao t k n : Nat} {n0 : Int64} {s0 : Value} (hX : mOK X RL code 7 room_1 [] (mTy cs)) (hg : mHas X mNc) (hScr : mScr X b L xs) (hE : mLE X b) (hS : sWF S) (hL : L ≤ 3584) (hi : 7 * t + 6 < L) (hk : k + 100 ≤ 652172) (hn : n + 2500 ≤ 7139589) (back : mBkZ X b ad ae cs ao t k n) : mV X 1647 [(0, some (.ref b)), (1, some (.ref (ad 0))), (2, some (.ref (ae 0))), (3, some (.ref ao)), (4, some (.int (nI (7 * t))))] [] (mRw ad ae cs (mKof S T) (mJof S th) [(ao, .inr (4, [.long n0, s0]))]) k n := by
  refine r_aload_n hX dlaw_1647 rfl rfl ?_
  refine r_argZ (c := 1) hX hScr rfl rfl (by decide) (by omega) (by omega) dlaw_1648 dlaw_1649 dlaw_1651 dlaw_1652 dlaw_1653 ?_
  refine r_argZ (c := 2) hX hScr rfl rfl (by decide) (by omega) (by omega) dlaw_1654 dlaw_1655 dlaw_1657 dlaw_1658 dlaw_1659 ?_
  refine r_aload_n hX dlaw_1660 rfl rfl ?_
  refine r_callW hX hg (z_L_copyClock ad ae cs S T (mJof S th) [] hS ao n0 s0 _ (iZ_rng _) _ (iZ_rng _)) kh_L_229 rfl rfl (Nat.le_of_ble_eq_true rfl) ⟨(Nat.le_of_ble_eq_true rfl), (Nat.le_of_ble_eq_true rfl)⟩ ⟨by show k + 2 ≤ 652172; omega, by show n + 12 ≤ 7139589; omega⟩ dlaw_1661 (fun v9 ws9 h9 => ?_)
  obtain ⟨r9, n9, S9, g9, rfl, hw9⟩ := zU9 (W := fun S9 n9 => mRw ad ae cs (mKof S9 T) (mJof S th) [(ao, .inr (4, [.long n9, s0]))]) h9
  replace hw9 : ws9 = mRw ad ae cs (mKof S9 T) (mJof S th) [(ao, .inr (4, [.long n9, s0]))] := hw9
  subst hw9
  dsimp only [mPush]
  refine r_istore hX dlaw_1664 (by decide) rfl ?_
  refine r_aload_n hX dlaw_1666 rfl rfl ?_
  refine r_argZ (c := 1) hX hScr rfl rfl (by decide) (by omega) (by omega) dlaw_1667 dlaw_1668 dlaw_1670 dlaw_1671 dlaw_1672 ?_
  refine r_argZ (c := 2) hX hScr rfl rfl (by decide) (by omega) (by omega) dlaw_1673 dlaw_1674 dlaw_1676 dlaw_1677 dlaw_1678 ?_
  refine r_callV hX (z_X4_copyClock ad ae cs (mKof S9 T) S th [(ao, .inr (4, [.long n9, s0]))] hS _ (iZ_rng _) _ (iZ_rng _)) kv_L_231 14 rfl rfl rfl rfl (Nat.le_of_ble_eq_true rfl) ⟨(Nat.le_of_ble_eq_true rfl), (Nat.le_of_ble_eq_true rfl)⟩ ⟨by show k + 2 + 0 ≤ 652172; omega, by show n + 12 + 0 ≤ 7139589; omega⟩ dlaw_1679 (fun _ _ z => False.elim z) (fun v8 ws8 h8 => ?_)
  obtain ⟨r8, th8, S8, g8, rfl, hw8⟩ := zU8 (W := fun S8 th8 => mRw ad ae cs (mKof S9 T) (mJof S8 th8) [(ao, .inr (4, [.long n9, s0]))]) h8
  replace hw8 : ws8 = mRw ad ae cs (mKof S9 T) (mJof S8 th8) [(ao, .inr (4, [.long n9, s0]))] := hw8
  subst hw8
  dsimp only [mPush]
  obtain ⟨e1, e2, hn9, hwf⟩ := zM g9 g8 hS (fun g => hS.oClk (hS.2.2.1 (((xs (7 * t + 2)).toInt).toNat + 4) (by omega)).1 (hS.2.2.1 (((xs (7 * t + 2)).toInt).toNat + 4) (by omega)).2)
  subst S8
  subst th8
  refine r_istore hX dlaw_1682 (by decide) rfl ?_
  refine r_goto (tgt := 1886) hX dlaw_1684 (by decide) ?_
  exact r_loc (lv' := [(0, some (.ref b)), (1, some (.ref (ad 0))), (2, some (.ref (ae 0))), (3, some (.ref ao)), (4, some (.int (nI (7 * t))))]) (by exact ⟨rfl, rfl, rfl, rfl, rfl, trivial⟩) (Nat.le_refl _) (Nat.le_refl _) (back S9 T r9 n9 s0 _ _ hwf (by omega) (by omega))
set_option maxHeartbeats 1000000 in
theorem law_z28 {X : mC} {b L : Nat} {xs : Nat → Int32} {ad ae : Nat → Nat} {cs : ClassId × ClassId × ClassId} {S : mS} {T : mT2} {th : Int32} {ao t k n : Nat} {n0 : Int64} {s0 : Value} (hX : mOK X RL code 7 room_1 [] (mTy cs)) (hg : mHas X mNc) (hScr : mScr X b L xs) (hE : mLE X b) (hS : sWF S) (hL : L ≤ 3584) (hi : 7 * t + 6 < L) (hk : k + 100 ≤ 652172) (hn : n + 2500 ≤ 7139589) (back : mBkZ X b ad ae cs ao t k n) : mV X 1687 [(0, some (.ref b)), (1, some (.ref (ad 0))), (2, some (.ref (ae 0))), (3, some (.ref ao)), (4, some (.int (nI (7 * t))))] [] (mRw ad ae cs (mKof S T) (mJof S th) [(ao, .inr (4, [.long n0, s0]))]) k n := by
  refine r_aload_n hX dlaw_1687 rfl rfl ?_
  refine r_argZ (c := 1) hX hScr rfl rfl (by decide) (by omega) (by omega) dlaw_1688 dlaw_1689 dlaw_1691 dlaw_1692 dlaw_1693 ?_
  refine r_argZ (c := 2) hX hScr rfl rfl (by decide) (by omega) (by omega) dlaw_1694 dlaw_1695 dlaw_1697 dlaw_1698 dlaw_1699 ?_
  refine r_aload_n hX dlaw_1700 rfl rfl ?_
  refine r_callW hX hg (z_L_ofClock ad ae cs S T (mJof S th) [] hS ao n0 s0 _ (iZ_rng _) _ (iZ_rng _)) kh_L_232 rfl rfl (Nat.le_of_ble_eq_true rfl) ⟨(Nat.le_of_ble_eq_true rfl), (Nat.le_of_ble_eq_true rfl)⟩ ⟨by show k + 2 ≤ 652172; omega, by show n + 12 ≤ 7139589; omega⟩ dlaw_1701 (fun v9 ws9 h9 => ?_)
  obtain ⟨r9, n9, S9, g9, rfl, hw9⟩ := zU9 (W := fun S9 n9 => mRw ad ae cs (mKof S9 T) (mJof S th) [(ao, .inr (4, [.long n9, s0]))]) h9
  replace hw9 : ws9 = mRw ad ae cs (mKof S9 T) (mJof S th) [(ao, .inr (4, [.long n9, s0]))] := hw9
  subst hw9
  dsimp only [mPush]
  refine r_istore hX dlaw_1704 (by decide) rfl ?_
  refine r_aload_n hX dlaw_1706 rfl rfl ?_
  refine r_argZ (c := 1) hX hScr rfl rfl (by decide) (by omega) (by omega) dlaw_1707 dlaw_1708 dlaw_1710 dlaw_1711 dlaw_1712 ?_
  refine r_argZ (c := 2) hX hScr rfl rfl (by decide) (by omega) (by omega) dlaw_1713 dlaw_1714 dlaw_1716 dlaw_1717 dlaw_1718 ?_
  refine r_callV hX (z_X4_ofClock ad ae cs (mKof S9 T) S th [(ao, .inr (4, [.long n9, s0]))] hS _ (iZ_rng _) _ (iZ_rng _)) kv_L_234 14 rfl rfl rfl rfl (Nat.le_of_ble_eq_true rfl) ⟨(Nat.le_of_ble_eq_true rfl), (Nat.le_of_ble_eq_true rfl)⟩ ⟨by show k + 2 + 1 ≤ 652172; omega, by show n + 12 + 4 ≤ 7139589; omega⟩ dlaw_1719 (fun _ _ z => False.elim z) (fun v8 ws8 h8 => ?_)
  obtain ⟨r8, th8, S8, g8, rfl, hw8⟩ := zU8 (W := fun S8 th8 => mRw ad ae cs (mKof S9 T) (mJof S8 th8) [(ao, .inr (4, [.long n9, s0]))]) h8
  replace hw8 : ws8 = mRw ad ae cs (mKof S9 T) (mJof S8 th8) [(ao, .inr (4, [.long n9, s0]))] := hw8
  subst hw8
  dsimp only [mPush]
  obtain ⟨e1, e2, hn9, hwf⟩ := zM g9 g8 hS (fun g => hS)
  subst S8
  subst th8
  refine r_istore hX dlaw_1722 (by decide) rfl ?_
  refine r_goto (tgt := 1886) hX dlaw_1724 (by decide) ?_
  exact r_loc (lv' := [(0, some (.ref b)), (1, some (.ref (ad 0))), (2, some (.ref (ae 0))), (3, some (.ref ao)), (4, some (.int (nI (7 * t))))]) (by exact ⟨rfl, rfl, rfl, rfl, rfl, trivial⟩) (Nat.le_refl _) (Nat.le_refl _) (back S9 T r9 n9 s0 _ _ hwf (by omega) (by omega))
set_option maxHeartbeats 1000000 in
theorem law_z29 {X : mC} {b L : Nat} {xs : Nat → Int32} {ad ae : Nat → Nat} {cs : ClassId × ClassId × ClassId} {S : mS} {T : mT2} {th : Int32} {ao t k n : Nat} {n0 : Int64} {s0 : Value} (hX : mOK X RL code 7 room_1 [] (mTy cs)) (hg : mHas X mNc) (hScr : mScr X b L xs) (hE : mLE X b) (hS : sWF S) (hL : L ≤ 3584) (hi : 7 * t + 6 < L) (hk : k + 100 ≤ 652172) (hn : n + 2500 ≤ 7139589) (back : mBkZ X b ad ae cs ao t k n) : mV X 1727 [(0, some (.ref b)), (1, some (.ref (ad 0))), (2, some (.ref (ae 0))), (3, some (.ref ao)), (4, some (.int (nI (7 * t))))] [] (mRw ad ae cs (mKof S T) (mJof S th) [(ao, .inr (4, [.long n0, s0]))]) k n := by
  refine r_aload_n hX dlaw_1727 rfl rfl ?_
  refine r_argZ (c := 1) hX hScr rfl rfl (by decide) (by omega) (by omega) dlaw_1728 dlaw_1729 dlaw_1731 dlaw_1732 dlaw_1733 ?_
  refine r_argZ (c := 2) hX hScr rfl rfl (by decide) (by omega) (by omega) dlaw_1734 dlaw_1735 dlaw_1737 dlaw_1738 dlaw_1739 ?_
  refine r_aload_n hX dlaw_1740 rfl rfl ?_
  refine r_callW hX hg (z_L_orderClock ad ae cs S T (mJof S th) [] hS ao n0 s0 _ (iZ_rng _) _ (iZ_rng _)) kh_L_235 rfl rfl (Nat.le_of_ble_eq_true rfl) ⟨(Nat.le_of_ble_eq_true rfl), (Nat.le_of_ble_eq_true rfl)⟩ ⟨by show k + 2 ≤ 652172; omega, by show n + 12 ≤ 7139589; omega⟩ dlaw_1741 (fun v9 ws9 h9 => ?_)
  obtain ⟨r9, n9, S9, g9, rfl, hw9⟩ := zU9 (W := fun S9 n9 => mRw ad ae cs (mKof S9 T) (mJof S th) [(ao, .inr (4, [.long n9, s0]))]) h9
  replace hw9 : ws9 = mRw ad ae cs (mKof S9 T) (mJof S th) [(ao, .inr (4, [.long n9, s0]))] := hw9
  subst hw9
  dsimp only [mPush]
  refine r_istore hX dlaw_1744 (by decide) rfl ?_
  refine r_aload_n hX dlaw_1746 rfl rfl ?_
  refine r_argZ (c := 1) hX hScr rfl rfl (by decide) (by omega) (by omega) dlaw_1747 dlaw_1748 dlaw_1750 dlaw_1751 dlaw_1752 ?_
  refine r_argZ (c := 2) hX hScr rfl rfl (by decide) (by omega) (by omega) dlaw_1753 dlaw_1754 dlaw_1756 dlaw_1757 dlaw_1758 ?_
  refine r_callV hX (z_X4_orderClock ad ae cs (mKof S9 T) S th [(ao, .inr (4, [.long n9, s0]))] hS _ (iZ_rng _) _ (iZ_rng _)) kv_L_237 14 rfl rfl rfl rfl (Nat.le_of_ble_eq_true rfl) ⟨(Nat.le_of_ble_eq_true rfl), (Nat.le_of_ble_eq_true rfl)⟩ ⟨by show k + 2 + 0 ≤ 652172; omega, by show n + 12 + 0 ≤ 7139589; omega⟩ dlaw_1759 (fun _ _ z => False.elim z) (fun v8 ws8 h8 => ?_)
  obtain ⟨r8, th8, S8, g8, rfl, hw8⟩ := zU8 (W := fun S8 th8 => mRw ad ae cs (mKof S9 T) (mJof S8 th8) [(ao, .inr (4, [.long n9, s0]))]) h8
  replace hw8 : ws8 = mRw ad ae cs (mKof S9 T) (mJof S8 th8) [(ao, .inr (4, [.long n9, s0]))] := hw8
  subst hw8
  dsimp only [mPush]
  obtain ⟨e1, e2, hn9, hwf⟩ := zM g9 g8 hS (fun g => hS)
  subst S8
  subst th8
  refine r_istore hX dlaw_1762 (by decide) rfl ?_
  refine r_goto (tgt := 1886) hX dlaw_1764 (by decide) ?_
  exact r_loc (lv' := [(0, some (.ref b)), (1, some (.ref (ad 0))), (2, some (.ref (ae 0))), (3, some (.ref ao)), (4, some (.int (nI (7 * t))))]) (by exact ⟨rfl, rfl, rfl, rfl, rfl, trivial⟩) (Nat.le_refl _) (Nat.le_refl _) (back S9 T r9 n9 s0 _ _ hwf (by omega) (by omega))
set_option maxHeartbeats 1000000 in
theorem law_z30 {X : mC} {b L : Nat} {xs : Nat → Int32} {ad ae : Nat → Nat} {cs : ClassId × ClassId × ClassId} {S : mS} {T : mT2} {th : Int32} {ao t k n : Nat} {n0 : Int64} {s0 : Value} (hX : mOK X RL code 7 room_1 [] (mTy cs)) (hg : mHas X mNc) (hScr : mScr X b L xs) (hE : mLE X b) (hS : sWF S) (hL : L ≤ 3584) (hi : 7 * t + 6 < L) (hk : k + 100 ≤ 652172) (hn : n + 2500 ≤ 7139589) (back : mBkZ X b ad ae cs ao t k n) : mV X 1767 [(0, some (.ref b)), (1, some (.ref (ad 0))), (2, some (.ref (ae 0))), (3, some (.ref ao)), (4, some (.int (nI (7 * t))))] [] (mRw ad ae cs (mKof S T) (mJof S th) [(ao, .inr (4, [.long n0, s0]))]) k n := by
  refine r_aload_n hX dlaw_1767 rfl rfl ?_
  refine r_argZ (c := 1) hX hScr rfl rfl (by decide) (by omega) (by omega) dlaw_1768 dlaw_1769 dlaw_1771 dlaw_1772 dlaw_1773 ?_
  refine r_argZ (c := 2) hX hScr rfl rfl (by decide) (by omega) (by omega) dlaw_1774 dlaw_1775 dlaw_1777 dlaw_1778 dlaw_1779 ?_
  refine r_argZ (c := 3) hX hScr rfl rfl (by decide) (by omega) (by omega) dlaw_1780 dlaw_1781 dlaw_1783 dlaw_1784 dlaw_1785 ?_
  refine r_aload_n hX dlaw_1786 rfl rfl ?_
  refine r_callW hX hg (z_L_isClock ad ae cs S T (mJof S th) [] hS ao n0 s0 _ (iZ_rng _) _ (iZ_rng _) _ (iZ_rng _)) kh_L_238 rfl rfl (Nat.le_of_ble_eq_true rfl) ⟨(Nat.le_of_ble_eq_true rfl), (Nat.le_of_ble_eq_true rfl)⟩ ⟨by show k + 3 ≤ 652172; omega, by show n + 18 ≤ 7139589; omega⟩ dlaw_1787 (fun v9 ws9 h9 => ?_)
  obtain ⟨r9, n9, S9, g9, rfl, hw9⟩ := zU9 (W := fun S9 n9 => mRw ad ae cs (mKof S9 T) (mJof S th) [(ao, .inr (4, [.long n9, s0]))]) h9
  replace hw9 : ws9 = mRw ad ae cs (mKof S9 T) (mJof S th) [(ao, .inr (4, [.long n9, s0]))] := hw9
  subst hw9
  dsimp only [mPush]
  refine r_istore hX dlaw_1790 (by decide) rfl ?_
  refine r_aload_n hX dlaw_1792 rfl rfl ?_
  refine r_argZ (c := 1) hX hScr rfl rfl (by decide) (by omega) (by omega) dlaw_1793 dlaw_1794 dlaw_1796 dlaw_1797 dlaw_1798 ?_
  refine r_argZ (c := 2) hX hScr rfl rfl (by decide) (by omega) (by omega) dlaw_1799 dlaw_1800 dlaw_1802 dlaw_1803 dlaw_1804 ?_
  refine r_argZ (c := 3) hX hScr rfl rfl (by decide) (by omega) (by omega) dlaw_1805 dlaw_1806 dlaw_1808 dlaw_1809 dlaw_1810 ?_
  refine r_callV hX (z_X4_isClock ad ae cs (mKof S9 T) S th [(ao, .inr (4, [.long n9, s0]))] hS _ (iZ_rng _) _ (iZ_rng _) _ (iZ_rng _)) kv_L_240 14 rfl rfl rfl rfl (Nat.le_of_ble_eq_true rfl) ⟨(Nat.le_of_ble_eq_true rfl), (Nat.le_of_ble_eq_true rfl)⟩ ⟨by show k + 3 + 0 ≤ 652172; omega, by show n + 18 + 0 ≤ 7139589; omega⟩ dlaw_1811 (fun _ _ z => False.elim z) (fun v8 ws8 h8 => ?_)
  obtain ⟨r8, th8, S8, g8, rfl, hw8⟩ := zU8 (W := fun S8 th8 => mRw ad ae cs (mKof S9 T) (mJof S8 th8) [(ao, .inr (4, [.long n9, s0]))]) h8
  replace hw8 : ws8 = mRw ad ae cs (mKof S9 T) (mJof S8 th8) [(ao, .inr (4, [.long n9, s0]))] := hw8
  subst hw8
  dsimp only [mPush]
  obtain ⟨e1, e2, hn9, hwf⟩ := zM g9 g8 hS (fun g => hS)
  subst S8
  subst th8
  refine r_istore hX dlaw_1814 (by decide) rfl ?_
  refine r_goto (tgt := 1886) hX dlaw_1816 (by decide) ?_
  exact r_loc (lv' := [(0, some (.ref b)), (1, some (.ref (ad 0))), (2, some (.ref (ae 0))), (3, some (.ref ao)), (4, some (.int (nI (7 * t))))]) (by exact ⟨rfl, rfl, rfl, rfl, rfl, trivial⟩) (Nat.le_refl _) (Nat.le_refl _) (back S9 T r9 n9 s0 _ _ hwf (by omega) (by omega))
set_option maxHeartbeats 1000000 in
theorem law_z31 {X : mC} {b L : Nat} {xs : Nat → Int32} {ad ae : Nat → Nat} {cs : ClassId × ClassId × ClassId} {S : mS} {T : mT2} {th : Int32} {ao t k n : Nat} {n0 : Int64} {s0 : Value} (hX : mOK X RL code 7 room_1 [] (mTy cs)) (hg : mHas X mNc) (hScr : mScr X b L xs) (hE : mLE X b) (hS : sWF S) (hL : L ≤ 3584) (hi : 7 * t + 6 < L) (hk : k + 100 ≤ 652172) (hn : n + 2500 ≤ 7139589) (back : mBkZ X b ad ae cs ao t k n) : mV X 1819 [(0, some (.ref b)), (1, some (.ref (ad 0))), (2, some (.ref (ae 0))), (3, some (.ref ao)), (4, some (.int (nI (7 * t))))] [] (mRw ad ae cs (mKof S T) (mJof S th) [(ao, .inr (4, [.long n0, s0]))]) k n := by
  refine r_aload_n hX dlaw_1819 rfl rfl ?_
  refine r_callV hX (z_X2_knock ad cs S T _) kv_L_241 0 rfl rfl rfl rfl (Nat.le_of_ble_eq_true rfl) ⟨(Nat.le_of_ble_eq_true rfl), (Nat.le_of_ble_eq_true rfl)⟩ ⟨by show k + 0 ≤ 652172; omega, by show n + 0 ≤ 7139589; omega⟩ dlaw_1820 (fun _ _ z => False.elim z) (fun v9 ws9 h9 => ?_)
  obtain ⟨rfl, hw9⟩ := h9
  replace hw9 : ws9 = mRw ad ae cs (mKof (sKn S) T) (mJof S th) [(ao, .inr (4, [.long n0, s0]))] := hw9
  subst hw9
  dsimp only [mPush]
  refine r_pop hX dlaw_1823 rfl ?_
  refine r_aload_n hX dlaw_1824 rfl rfl ?_
  refine r_callV hX (z_X4_knock ad ae cs (mKof (sKn S) T) S th [(ao, .inr (4, [.long n0, s0]))]) kv_L_244 14 rfl rfl rfl rfl (Nat.le_of_ble_eq_true rfl) ⟨(Nat.le_of_ble_eq_true rfl), (Nat.le_of_ble_eq_true rfl)⟩ ⟨by show k + 0 + 0 ≤ 652172; omega, by show n + 0 + 0 ≤ 7139589; omega⟩ dlaw_1825 (fun _ _ z => False.elim z) (fun v8 ws8 h8 => ?_)
  obtain ⟨rfl, hw8⟩ := h8
  replace hw8 : ws8 = mRw ad ae cs (mKof (sKn S) T) (mJof (sKn S) 0) [(ao, .inr (4, [.long n0, s0]))] := hw8
  subst hw8
  dsimp only [mPush]
  refine r_pop hX dlaw_1828 rfl ?_
  refine r_goto (tgt := 1886) hX dlaw_1829 (by decide) ?_
  exact r_loc (lv' := [(0, some (.ref b)), (1, some (.ref (ad 0))), (2, some (.ref (ae 0))), (3, some (.ref ao)), (4, some (.int (nI (7 * t))))]) (by exact ⟨rfl, rfl, rfl, rfl, rfl, trivial⟩) (Nat.le_refl _) (Nat.le_refl _) (back (sKn S) T 0 n0 s0 _ _ hS.kn (by omega) (by omega))
set_option maxHeartbeats 1000000 in
theorem law_z32 {X : mC} {b L : Nat} {xs : Nat → Int32} {ad ae : Nat → Nat} {cs : ClassId × ClassId × ClassId} {S : mS} {T : mT2} {th : Int32} {ao t k n : Nat} {n0 : Int64} {s0 : Value} (hX : mOK X RL code 7 room_1 [] (mTy cs)) (hg : mHas X mNc) (hScr : mScr X b L xs) (hE : mLE X b) (hS : sWF S) (hL : L ≤ 3584) (hi : 7 * t + 6 < L) (hk : k + 100 ≤ 652172) (hn : n + 2500 ≤ 7139589) (back : mBkZ X b ad ae cs ao t k n) : mV X 1832 [(0, some (.ref b)), (1, some (.ref (ad 0))), (2, some (.ref (ae 0))), (3, some (.ref ao)), (4, some (.int (nI (7 * t))))] [] (mRw ad ae cs (mKof S T) (mJof S th) [(ao, .inr (4, [.long n0, s0]))]) k n := by
  refine r_aload_n hX dlaw_1832 rfl rfl ?_
  refine r_argZ (c := 1) hX hScr rfl rfl (by decide) (by omega) (by omega) dlaw_1833 dlaw_1834 dlaw_1836 dlaw_1837 dlaw_1838 ?_
  refine r_aload_n hX dlaw_1839 rfl rfl ?_
  refine r_callW hX hg (z_L_house ad ae cs S T (mJof S th) [] hS ao n0 s0 _ (iZ_rng _)) kh_L_245 rfl rfl (Nat.le_of_ble_eq_true rfl) ⟨(Nat.le_of_ble_eq_true rfl), (Nat.le_of_ble_eq_true rfl)⟩ ⟨by show k + 1 ≤ 652172; omega, by show n + 6 ≤ 7139589; omega⟩ dlaw_1840 (fun v9 ws9 h9 => ?_)
  obtain ⟨r9, n9, S9, g9, rfl, hw9⟩ := zU9 (W := fun S9 n9 => mRw ad ae cs (mKof S9 T) (mJof S th) [(ao, .inr (4, [.long n9, s0]))]) h9
  replace hw9 : ws9 = mRw ad ae cs (mKof S9 T) (mJof S th) [(ao, .inr (4, [.long n9, s0]))] := hw9
  subst hw9
  dsimp only [mPush]
  refine r_istore hX dlaw_1843 (by decide) rfl ?_
  refine r_aload_n hX dlaw_1845 rfl rfl ?_
  refine r_argZ (c := 1) hX hScr rfl rfl (by decide) (by omega) (by omega) dlaw_1846 dlaw_1847 dlaw_1849 dlaw_1850 dlaw_1851 ?_
  refine r_callV hX (z_X4_house ad ae cs (mKof S9 T) S th [(ao, .inr (4, [.long n9, s0]))] hS _ (iZ_rng _)) kv_L_247 14 rfl rfl rfl rfl (Nat.le_of_ble_eq_true rfl) ⟨(Nat.le_of_ble_eq_true rfl), (Nat.le_of_ble_eq_true rfl)⟩ ⟨by show k + 1 + 0 ≤ 652172; omega, by show n + 6 + 0 ≤ 7139589; omega⟩ dlaw_1852 (fun _ _ z => False.elim z) (fun v8 ws8 h8 => ?_)
  obtain ⟨r8, th8, S8, g8, rfl, hw8⟩ := zU8h (W := fun S8 th8 => mRw ad ae cs (mKof S9 T) (mJof S8 th8) [(ao, .inr (4, [.long n9, s0]))]) h8
  replace hw8 : ws8 = mRw ad ae cs (mKof S9 T) (mJof S8 th8) [(ao, .inr (4, [.long n9, s0]))] := hw8
  subst hw8
  dsimp only [mPush]
  obtain ⟨e1, e2, hn9, hwf⟩ := zM g9 g8 hS (fun g => hS)
  subst S8
  subst th8
  refine r_istore hX dlaw_1855 (by decide) rfl ?_
  refine r_goto (tgt := 1886) hX dlaw_1857 (by decide) ?_
  exact r_loc (lv' := [(0, some (.ref b)), (1, some (.ref (ad 0))), (2, some (.ref (ae 0))), (3, some (.ref ao)), (4, some (.int (nI (7 * t))))]) (by exact ⟨rfl, rfl, rfl, rfl, rfl, trivial⟩) (Nat.le_refl _) (Nat.le_refl _) (back S9 T r9 n9 s0 _ _ hwf (by omega) (by omega))
set_option maxHeartbeats 1000000 in
theorem law_z33 {X : mC} {b L : Nat} {xs : Nat → Int32} {ad ae : Nat → Nat} {cs : ClassId × ClassId × ClassId} {S : mS} {T : mT2} {th : Int32} {ao t k n : Nat} {n0 : Int64} {s0 : Value} (hX : mOK X RL code 7 room_1 [] (mTy cs)) (hg : mHas X mNc) (hScr : mScr X b L xs) (hE : mLE X b) (hS : sWF S) (hL : L ≤ 3584) (hi : 7 * t + 6 < L) (hk : k + 100 ≤ 652172) (hn : n + 2500 ≤ 7139589) (back : mBkZ X b ad ae cs ao t k n) : mV X 1860 [(0, some (.ref b)), (1, some (.ref (ad 0))), (2, some (.ref (ae 0))), (3, some (.ref ao)), (4, some (.int (nI (7 * t))))] [] (mRw ad ae cs (mKof S T) (mJof S th) [(ao, .inr (4, [.long n0, s0]))]) k n := by
  refine r_aload_n hX dlaw_1860 rfl rfl ?_
  refine r_callV hX (z_X2_isSound ad cs S T _ hS) kv_L_248 0 rfl rfl rfl rfl (Nat.le_of_ble_eq_true rfl) ⟨(Nat.le_of_ble_eq_true rfl), (Nat.le_of_ble_eq_true rfl)⟩ ⟨by show k + 0 ≤ 652172; omega, by show n + 0 ≤ 7139589; omega⟩ dlaw_1861 (fun _ _ z => False.elim z) (fun v9 ws9 h9 => ?_)
  obtain ⟨rfl, T9, hw9⟩ := h9
  replace hw9 : ws9 = mRw ad ae cs (mKof S T9) (mJof S th) [(ao, .inr (4, [.long n0, s0]))] := hw9
  subst hw9
  dsimp only [mPush]
  refine r_pop hX dlaw_1864 rfl ?_
  refine r_aload_n hX dlaw_1865 rfl rfl ?_
  refine r_callV hX (z_X4_isSound ad ae cs (mKof S T9) S th [(ao, .inr (4, [.long n0, s0]))]) kv_L_252 14 rfl rfl rfl rfl (Nat.le_of_ble_eq_true rfl) ⟨(Nat.le_of_ble_eq_true rfl), (Nat.le_of_ble_eq_true rfl)⟩ ⟨by show k + 0 + 0 ≤ 652172; omega, by show n + 0 + 0 ≤ 7139589; omega⟩ dlaw_1866 (fun _ _ z => False.elim z) (fun v8 ws8 h8 => ?_)
  obtain ⟨rfl, hw8⟩ := h8
  replace hw8 : ws8 = mRw ad ae cs (mKof S T9) (mJof S 0) [(ao, .inr (4, [.long n0, s0]))] := hw8
  subst hw8
  dsimp only [mPush]
  refine r_pop hX dlaw_1869 rfl ?_
  refine r_goto (tgt := 1886) hX dlaw_1870 (by decide) ?_
  exact r_loc (lv' := [(0, some (.ref b)), (1, some (.ref (ad 0))), (2, some (.ref (ae 0))), (3, some (.ref ao)), (4, some (.int (nI (7 * t))))]) (by exact ⟨rfl, rfl, rfl, rfl, rfl, trivial⟩) (Nat.le_refl _) (Nat.le_refl _) (back S T9 0 n0 s0 _ _ hS (by omega) (by omega))
set_option maxHeartbeats 1000000 in
theorem law_z34 {X : mC} {b L : Nat} {xs : Nat → Int32} {ad ae : Nat → Nat} {cs : ClassId × ClassId × ClassId} {S : mS} {T : mT2} {th : Int32} {ao t k n : Nat} {n0 : Int64} {s0 : Value} (hX : mOK X RL code 7 room_1 [] (mTy cs)) (hg : mHas X mNc) (hScr : mScr X b L xs) (hE : mLE X b) (hS : sWF S) (hL : L ≤ 3584) (hi : 7 * t + 6 < L) (hk : k + 100 ≤ 652172) (hn : n + 2500 ≤ 7139589) (back : mBkZ X b ad ae cs ao t k n) : mV X 1873 [(0, some (.ref b)), (1, some (.ref (ad 0))), (2, some (.ref (ae 0))), (3, some (.ref ao)), (4, some (.int (nI (7 * t))))] [] (mRw ad ae cs (mKof S T) (mJof S th) [(ao, .inr (4, [.long n0, s0]))]) k n := by
  refine r_aload_n hX dlaw_1873 rfl rfl ?_
  refine r_callV hX (z_X2_digest ad cs S T _ hS) kv_L_253 0 rfl rfl rfl rfl (Nat.le_of_ble_eq_true rfl) ⟨(Nat.le_of_ble_eq_true rfl), (Nat.le_of_ble_eq_true rfl)⟩ ⟨by show k + 12 ≤ 652172; omega, by show n + 72 ≤ 7139589; omega⟩ dlaw_1874 (fun _ _ z => False.elim z) (fun v9 ws9 h9 => ?_)
  obtain ⟨rfl, T9, hw9⟩ := h9
  replace hw9 : ws9 = mRw ad ae cs (mKof S T9) (mJof S th) [(ao, .inr (4, [.long n0, s0]))] := hw9
  subst hw9
  dsimp only [mPush]
  refine r_pop2 hX dlaw_1877 rfl ?_
  refine r_aload_n hX dlaw_1878 rfl rfl ?_
  refine r_callV hX (z_X4_digest ad ae cs (mKof S T9) S th [(ao, .inr (4, [.long n0, s0]))] hS) kv_L_257 14 rfl rfl rfl rfl (Nat.le_of_ble_eq_true rfl) ⟨(Nat.le_of_ble_eq_true rfl), (Nat.le_of_ble_eq_true rfl)⟩ ⟨by show k + 12 + 70 ≤ 652172; omega, by show n + 72 + 280 ≤ 7139589; omega⟩ dlaw_1879 (fun _ _ z => False.elim z) (fun v8 ws8 h8 => ?_)
  obtain ⟨rfl, hw8⟩ := h8
  replace hw8 : ws8 = mRw ad ae cs (mKof S T9) (mJof S 0) [(ao, .inr (4, [.long n0, s0]))] := hw8
  subst hw8
  dsimp only [mPush]
  refine r_pop2 hX dlaw_1882 rfl ?_
  refine r_goto (tgt := 1886) hX dlaw_1883 (by decide) ?_
  exact r_loc (lv' := [(0, some (.ref b)), (1, some (.ref (ad 0))), (2, some (.ref (ae 0))), (3, some (.ref ao)), (4, some (.int (nI (7 * t))))]) (by exact ⟨rfl, rfl, rfl, rfl, rfl, trivial⟩) (Nat.le_refl _) (Nat.le_refl _) (back S T9 0 n0 s0 _ _ hS (by omega) (by omega))
end
