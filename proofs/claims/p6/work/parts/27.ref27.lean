/-! The reference, its contracts (rows by a program of this repository). -/
theorem dX4_digest_0 : decode cX4_digest 0 = .ok (.aload_n 0, 1) := by decide +kernel
theorem dX4_digest_1 : decode cX4_digest 1 = .ok (.iconst 0, 1) := by decide +kernel
theorem dX4_digest_2 : decode cX4_digest 2 = .ok (.putfield 29, 3) := by decide +kernel
theorem dX4_digest_5 : decode cX4_digest 5 = .ok (.ldc2_w 225, 3) := by decide +kernel
theorem dX4_digest_8 : decode cX4_digest 8 = .ok (.lstore_n 1, 1) := by decide +kernel
theorem dX4_digest_9 : decode cX4_digest 9 = .ok (.aload_n 0, 1) := by decide +kernel
theorem dX4_digest_10 : decode cX4_digest 10 = .ok (.getfield 7, 3) := by decide +kernel
theorem dX4_digest_13 : decode cX4_digest 13 = .ok (.astore_n 3, 1) := by decide +kernel
theorem dX4_digest_14 : decode cX4_digest 14 = .ok (.aload_n 3, 1) := by decide +kernel
theorem dX4_digest_15 : decode cX4_digest 15 = .ok (.arraylength, 1) := by decide +kernel
theorem dX4_digest_16 : decode cX4_digest 16 = .ok (.istore 4, 2) := by decide +kernel
theorem dX4_digest_18 : decode cX4_digest 18 = .ok (.iconst 0, 1) := by decide +kernel
theorem dX4_digest_19 : decode cX4_digest 19 = .ok (.istore 5, 2) := by decide +kernel
theorem dX4_digest_21 : decode cX4_digest 21 = .ok (.iload 5, 2) := by decide +kernel
theorem dX4_digest_23 : decode cX4_digest 23 = .ok (.iload 4, 2) := by decide +kernel
theorem dX4_digest_25 : decode cX4_digest 25 = .ok (.if_icmp .ge 25, 3) := by decide +kernel
theorem dX4_digest_28 : decode cX4_digest 28 = .ok (.aload_n 3, 1) := by decide +kernel
theorem dX4_digest_29 : decode cX4_digest 29 = .ok (.iload 5, 2) := by decide +kernel
theorem dX4_digest_31 : decode cX4_digest 31 = .ok (.iaload, 1) := by decide +kernel
theorem dX4_digest_32 : decode cX4_digest 32 = .ok (.istore 6, 2) := by decide +kernel
theorem dX4_digest_34 : decode cX4_digest 34 = .ok (.lload_n 1, 1) := by decide +kernel
theorem dX4_digest_35 : decode cX4_digest 35 = .ok (.ldc2_w 227, 3) := by decide +kernel
theorem dX4_digest_38 : decode cX4_digest 38 = .ok (.lmul, 1) := by decide +kernel
theorem dX4_digest_39 : decode cX4_digest 39 = .ok (.iload 6, 2) := by decide +kernel
theorem dX4_digest_41 : decode cX4_digest 41 = .ok (.i2l, 1) := by decide +kernel
theorem dX4_digest_42 : decode cX4_digest 42 = .ok (.ladd, 1) := by decide +kernel
theorem dX4_digest_43 : decode cX4_digest 43 = .ok (.lstore_n 1, 1) := by decide +kernel
theorem dX4_digest_44 : decode cX4_digest 44 = .ok (.iinc 5 1, 3) := by decide +kernel
theorem dX4_digest_47 : decode cX4_digest 47 = .ok (.goto (-26), 3) := by decide +kernel
theorem dX4_digest_50 : decode cX4_digest 50 = .ok (.aload_n 0, 1) := by decide +kernel
theorem dX4_digest_51 : decode cX4_digest 51 = .ok (.getfield 13, 3) := by decide +kernel
theorem dX4_digest_54 : decode cX4_digest 54 = .ok (.astore_n 3, 1) := by decide +kernel
theorem dX4_digest_55 : decode cX4_digest 55 = .ok (.aload_n 3, 1) := by decide +kernel
theorem dX4_digest_56 : decode cX4_digest 56 = .ok (.arraylength, 1) := by decide +kernel
theorem dX4_digest_57 : decode cX4_digest 57 = .ok (.istore 4, 2) := by decide +kernel
theorem dX4_digest_59 : decode cX4_digest 59 = .ok (.iconst 0, 1) := by decide +kernel
theorem dX4_digest_60 : decode cX4_digest 60 = .ok (.istore 5, 2) := by decide +kernel
theorem dX4_digest_62 : decode cX4_digest 62 = .ok (.iload 5, 2) := by decide +kernel
theorem dX4_digest_64 : decode cX4_digest 64 = .ok (.iload 4, 2) := by decide +kernel
theorem dX4_digest_66 : decode cX4_digest 66 = .ok (.if_icmp .ge 44, 3) := by decide +kernel
theorem dX4_digest_69 : decode cX4_digest 69 = .ok (.aload_n 3, 1) := by decide +kernel
theorem dX4_digest_70 : decode cX4_digest 70 = .ok (.iload 5, 2) := by decide +kernel
theorem dX4_digest_72 : decode cX4_digest 72 = .ok (.laload, 1) := by decide +kernel
theorem dX4_digest_73 : decode cX4_digest 73 = .ok (.lstore 6, 2) := by decide +kernel
theorem dX4_digest_75 : decode cX4_digest 75 = .ok (.lload_n 1, 1) := by decide +kernel
theorem dX4_digest_76 : decode cX4_digest 76 = .ok (.ldc2_w 227, 3) := by decide +kernel
theorem dX4_digest_79 : decode cX4_digest 79 = .ok (.lmul, 1) := by decide +kernel
theorem dX4_digest_80 : decode cX4_digest 80 = .ok (.lload 6, 2) := by decide +kernel
theorem dX4_digest_82 : decode cX4_digest 82 = .ok (.ldc2_w 96, 3) := by decide +kernel
theorem dX4_digest_85 : decode cX4_digest 85 = .ok (.invokestatic 92, 3) := by decide +kernel
theorem dX4_digest_88 : decode cX4_digest 88 = .ok (.ladd, 1) := by decide +kernel
theorem dX4_digest_89 : decode cX4_digest 89 = .ok (.ldc2_w 227, 3) := by decide +kernel
theorem dX4_digest_92 : decode cX4_digest 92 = .ok (.lmul, 1) := by decide +kernel
theorem dX4_digest_93 : decode cX4_digest 93 = .ok (.lload 6, 2) := by decide +kernel
theorem dX4_digest_95 : decode cX4_digest 95 = .ok (.ldc2_w 96, 3) := by decide +kernel
theorem dX4_digest_98 : decode cX4_digest 98 = .ok (.invokestatic 102, 3) := by decide +kernel
theorem dX4_digest_101 : decode cX4_digest 101 = .ok (.i2l, 1) := by decide +kernel
theorem dX4_digest_102 : decode cX4_digest 102 = .ok (.ladd, 1) := by decide +kernel
theorem dX4_digest_103 : decode cX4_digest 103 = .ok (.lstore_n 1, 1) := by decide +kernel
theorem dX4_digest_104 : decode cX4_digest 104 = .ok (.iinc 5 1, 3) := by decide +kernel
theorem dX4_digest_107 : decode cX4_digest 107 = .ok (.goto (-45), 3) := by decide +kernel
theorem dX4_digest_110 : decode cX4_digest 110 = .ok (.iconst 0, 1) := by decide +kernel
theorem dX4_digest_111 : decode cX4_digest 111 = .ok (.istore_n 3, 1) := by decide +kernel
theorem dX4_digest_112 : decode cX4_digest 112 = .ok (.iload_n 3, 1) := by decide +kernel
theorem dX4_digest_113 : decode cX4_digest 113 = .ok (.iconst 4, 1) := by decide +kernel
theorem dX4_digest_114 : decode cX4_digest 114 = .ok (.if_icmp .ge 40, 3) := by decide +kernel
theorem dX4_digest_117 : decode cX4_digest 117 = .ok (.iconst 0, 1) := by decide +kernel
theorem dX4_digest_118 : decode cX4_digest 118 = .ok (.istore 4, 2) := by decide +kernel
theorem dX4_digest_120 : decode cX4_digest 120 = .ok (.iload 4, 2) := by decide +kernel
theorem dX4_digest_122 : decode cX4_digest 122 = .ok (.bipush 12, 2) := by decide +kernel
theorem dX4_digest_124 : decode cX4_digest 124 = .ok (.if_icmp .gt 24, 3) := by decide +kernel
theorem dX4_digest_127 : decode cX4_digest 127 = .ok (.lload_n 1, 1) := by decide +kernel
theorem dX4_digest_128 : decode cX4_digest 128 = .ok (.ldc2_w 227, 3) := by decide +kernel
theorem dX4_digest_131 : decode cX4_digest 131 = .ok (.lmul, 1) := by decide +kernel
theorem dX4_digest_132 : decode cX4_digest 132 = .ok (.aload_n 0, 1) := by decide +kernel
theorem dX4_digest_133 : decode cX4_digest 133 = .ok (.iload_n 3, 1) := by decide +kernel
theorem dX4_digest_134 : decode cX4_digest 134 = .ok (.iload 4, 2) := by decide +kernel
theorem dX4_digest_136 : decode cX4_digest 136 = .ok (.invokevirtual 193, 3) := by decide +kernel
theorem dX4_digest_139 : decode cX4_digest 139 = .ok (.i2l, 1) := by decide +kernel
theorem dX4_digest_140 : decode cX4_digest 140 = .ok (.ladd, 1) := by decide +kernel
theorem dX4_digest_141 : decode cX4_digest 141 = .ok (.lstore_n 1, 1) := by decide +kernel
theorem dX4_digest_142 : decode cX4_digest 142 = .ok (.iinc 4 1, 3) := by decide +kernel
theorem dX4_digest_145 : decode cX4_digest 145 = .ok (.goto (-25), 3) := by decide +kernel
theorem dX4_digest_148 : decode cX4_digest 148 = .ok (.iinc 3 1, 3) := by decide +kernel
theorem dX4_digest_151 : decode cX4_digest 151 = .ok (.goto (-39), 3) := by decide +kernel
theorem dX4_digest_154 : decode cX4_digest 154 = .ok (.iconst 0, 1) := by decide +kernel
theorem dX4_digest_155 : decode cX4_digest 155 = .ok (.istore_n 3, 1) := by decide +kernel
theorem dX4_digest_156 : decode cX4_digest 156 = .ok (.iload_n 3, 1) := by decide +kernel
theorem dX4_digest_157 : decode cX4_digest 157 = .ok (.iconst 3, 1) := by decide +kernel
theorem dX4_digest_158 : decode cX4_digest 158 = .ok (.if_icmp .ge 39, 3) := by decide +kernel
theorem dX4_digest_161 : decode cX4_digest 161 = .ok (.iconst 0, 1) := by decide +kernel
theorem dX4_digest_162 : decode cX4_digest 162 = .ok (.istore 4, 2) := by decide +kernel
theorem dX4_digest_164 : decode cX4_digest 164 = .ok (.iload 4, 2) := by decide +kernel
theorem dX4_digest_166 : decode cX4_digest 166 = .ok (.iconst 5, 1) := by decide +kernel
theorem dX4_digest_167 : decode cX4_digest 167 = .ok (.if_icmp .gt 24, 3) := by decide +kernel
theorem dX4_digest_170 : decode cX4_digest 170 = .ok (.lload_n 1, 1) := by decide +kernel
theorem dX4_digest_171 : decode cX4_digest 171 = .ok (.ldc2_w 227, 3) := by decide +kernel
theorem dX4_digest_174 : decode cX4_digest 174 = .ok (.lmul, 1) := by decide +kernel
theorem dX4_digest_175 : decode cX4_digest 175 = .ok (.aload_n 0, 1) := by decide +kernel
theorem dX4_digest_176 : decode cX4_digest 176 = .ok (.iload_n 3, 1) := by decide +kernel
theorem dX4_digest_177 : decode cX4_digest 177 = .ok (.iload 4, 2) := by decide +kernel
theorem dX4_digest_179 : decode cX4_digest 179 = .ok (.invokevirtual 216, 3) := by decide +kernel
theorem dX4_digest_182 : decode cX4_digest 182 = .ok (.i2l, 1) := by decide +kernel
theorem dX4_digest_183 : decode cX4_digest 183 = .ok (.ladd, 1) := by decide +kernel
theorem dX4_digest_184 : decode cX4_digest 184 = .ok (.lstore_n 1, 1) := by decide +kernel
theorem dX4_digest_185 : decode cX4_digest 185 = .ok (.iinc 4 1, 3) := by decide +kernel
theorem dX4_digest_188 : decode cX4_digest 188 = .ok (.goto (-24), 3) := by decide +kernel
theorem dX4_digest_191 : decode cX4_digest 191 = .ok (.iinc 3 1, 3) := by decide +kernel
theorem dX4_digest_194 : decode cX4_digest 194 = .ok (.goto (-38), 3) := by decide +kernel
theorem dX4_digest_197 : decode cX4_digest 197 = .ok (.iconst 0, 1) := by decide +kernel
theorem dX4_digest_198 : decode cX4_digest 198 = .ok (.istore_n 3, 1) := by decide +kernel
theorem dX4_digest_199 : decode cX4_digest 199 = .ok (.iload_n 3, 1) := by decide +kernel
theorem dX4_digest_200 : decode cX4_digest 200 = .ok (.iconst 4, 1) := by decide +kernel
theorem dX4_digest_201 : decode cX4_digest 201 = .ok (.if_icmp .ge 56, 3) := by decide +kernel
theorem dX4_digest_204 : decode cX4_digest 204 = .ok (.iconst 0, 1) := by decide +kernel
theorem dX4_digest_205 : decode cX4_digest 205 = .ok (.istore 4, 2) := by decide +kernel
theorem dX4_digest_207 : decode cX4_digest 207 = .ok (.iload 4, 2) := by decide +kernel
theorem dX4_digest_209 : decode cX4_digest 209 = .ok (.iconst 4, 1) := by decide +kernel
theorem dX4_digest_210 : decode cX4_digest 210 = .ok (.if_icmp .ge 41, 3) := by decide +kernel
theorem dX4_digest_213 : decode cX4_digest 213 = .ok (.lload_n 1, 1) := by decide +kernel
theorem dX4_digest_214 : decode cX4_digest 214 = .ok (.ldc2_w 227, 3) := by decide +kernel
theorem dX4_digest_217 : decode cX4_digest 217 = .ok (.lmul, 1) := by decide +kernel
theorem dX4_digest_218 : decode cX4_digest 218 = .ok (.aload_n 0, 1) := by decide +kernel
theorem dX4_digest_219 : decode cX4_digest 219 = .ok (.iload_n 3, 1) := by decide +kernel
theorem dX4_digest_220 : decode cX4_digest 220 = .ok (.iload 4, 2) := by decide +kernel
theorem dX4_digest_222 : decode cX4_digest 222 = .ok (.invokevirtual 196, 3) := by decide +kernel
theorem dX4_digest_225 : decode cX4_digest 225 = .ok (.i2l, 1) := by decide +kernel
theorem dX4_digest_226 : decode cX4_digest 226 = .ok (.ladd, 1) := by decide +kernel
theorem dX4_digest_227 : decode cX4_digest 227 = .ok (.ldc2_w 227, 3) := by decide +kernel
theorem dX4_digest_230 : decode cX4_digest 230 = .ok (.lmul, 1) := by decide +kernel
theorem dX4_digest_231 : decode cX4_digest 231 = .ok (.aload_n 0, 1) := by decide +kernel
theorem dX4_digest_232 : decode cX4_digest 232 = .ok (.iload_n 3, 1) := by decide +kernel
theorem dX4_digest_233 : decode cX4_digest 233 = .ok (.iload 4, 2) := by decide +kernel
theorem dX4_digest_235 : decode cX4_digest 235 = .ok (.iconst 2, 1) := by decide +kernel
theorem dX4_digest_236 : decode cX4_digest 236 = .ok (.invokevirtual 199, 3) := by decide +kernel
theorem dX4_digest_239 : decode cX4_digest 239 = .ok (.invokestatic 84, 3) := by decide +kernel
theorem dX4_digest_242 : decode cX4_digest 242 = .ok (.i2l, 1) := by decide +kernel
theorem dX4_digest_243 : decode cX4_digest 243 = .ok (.ladd, 1) := by decide +kernel
theorem dX4_digest_244 : decode cX4_digest 244 = .ok (.lstore_n 1, 1) := by decide +kernel
theorem dX4_digest_245 : decode cX4_digest 245 = .ok (.iinc 4 1, 3) := by decide +kernel
theorem dX4_digest_248 : decode cX4_digest 248 = .ok (.goto (-41), 3) := by decide +kernel
theorem dX4_digest_251 : decode cX4_digest 251 = .ok (.iinc 3 1, 3) := by decide +kernel
theorem dX4_digest_254 : decode cX4_digest 254 = .ok (.goto (-55), 3) := by decide +kernel
theorem dX4_digest_257 : decode cX4_digest 257 = .ok (.iconst 4, 1) := by decide +kernel
theorem dX4_digest_258 : decode cX4_digest 258 = .ok (.istore_n 3, 1) := by decide +kernel
theorem dX4_digest_259 : decode cX4_digest 259 = .ok (.iload_n 3, 1) := by decide +kernel
theorem dX4_digest_260 : decode cX4_digest 260 = .ok (.bipush 7, 2) := by decide +kernel
theorem dX4_digest_262 : decode cX4_digest 262 = .ok (.if_icmp .ge 40, 3) := by decide +kernel
theorem dX4_digest_265 : decode cX4_digest 265 = .ok (.iconst 4, 1) := by decide +kernel
theorem dX4_digest_266 : decode cX4_digest 266 = .ok (.istore 4, 2) := by decide +kernel
theorem dX4_digest_268 : decode cX4_digest 268 = .ok (.iload 4, 2) := by decide +kernel
theorem dX4_digest_270 : decode cX4_digest 270 = .ok (.bipush 7, 2) := by decide +kernel
theorem dX4_digest_272 : decode cX4_digest 272 = .ok (.if_icmp .ge 24, 3) := by decide +kernel
theorem dX4_digest_275 : decode cX4_digest 275 = .ok (.lload_n 1, 1) := by decide +kernel
theorem dX4_digest_276 : decode cX4_digest 276 = .ok (.ldc2_w 227, 3) := by decide +kernel
theorem dX4_digest_279 : decode cX4_digest 279 = .ok (.lmul, 1) := by decide +kernel
theorem dX4_digest_280 : decode cX4_digest 280 = .ok (.aload_n 0, 1) := by decide +kernel
theorem dX4_digest_281 : decode cX4_digest 281 = .ok (.iload_n 3, 1) := by decide +kernel
theorem dX4_digest_282 : decode cX4_digest 282 = .ok (.iload 4, 2) := by decide +kernel
theorem dX4_digest_284 : decode cX4_digest 284 = .ok (.invokevirtual 196, 3) := by decide +kernel
theorem dX4_digest_287 : decode cX4_digest 287 = .ok (.i2l, 1) := by decide +kernel
theorem dX4_digest_288 : decode cX4_digest 288 = .ok (.ladd, 1) := by decide +kernel
theorem dX4_digest_289 : decode cX4_digest 289 = .ok (.lstore_n 1, 1) := by decide +kernel
theorem dX4_digest_290 : decode cX4_digest 290 = .ok (.iinc 4 1, 3) := by decide +kernel
theorem dX4_digest_293 : decode cX4_digest 293 = .ok (.goto (-25), 3) := by decide +kernel
theorem dX4_digest_296 : decode cX4_digest 296 = .ok (.iinc 3 1, 3) := by decide +kernel
theorem dX4_digest_299 : decode cX4_digest 299 = .ok (.goto (-40), 3) := by decide +kernel
theorem dX4_digest_302 : decode cX4_digest 302 = .ok (.iconst 0, 1) := by decide +kernel
theorem dX4_digest_303 : decode cX4_digest 303 = .ok (.istore_n 3, 1) := by decide +kernel
theorem dX4_digest_304 : decode cX4_digest 304 = .ok (.iload_n 3, 1) := by decide +kernel
theorem dX4_digest_305 : decode cX4_digest 305 = .ok (.iconst 3, 1) := by decide +kernel
theorem dX4_digest_306 : decode cX4_digest 306 = .ok (.if_icmp .gt 22, 3) := by decide +kernel
theorem dX4_digest_309 : decode cX4_digest 309 = .ok (.lload_n 1, 1) := by decide +kernel
theorem dX4_digest_310 : decode cX4_digest 310 = .ok (.ldc2_w 227, 3) := by decide +kernel
theorem dX4_digest_313 : decode cX4_digest 313 = .ok (.lmul, 1) := by decide +kernel
theorem dX4_digest_314 : decode cX4_digest 314 = .ok (.aload_n 0, 1) := by decide +kernel
theorem dX4_digest_315 : decode cX4_digest 315 = .ok (.iload_n 3, 1) := by decide +kernel
theorem dX4_digest_316 : decode cX4_digest 316 = .ok (.invokevirtual 222, 3) := by decide +kernel
theorem dX4_digest_319 : decode cX4_digest 319 = .ok (.i2l, 1) := by decide +kernel
theorem dX4_digest_320 : decode cX4_digest 320 = .ok (.ladd, 1) := by decide +kernel
theorem dX4_digest_321 : decode cX4_digest 321 = .ok (.lstore_n 1, 1) := by decide +kernel
theorem dX4_digest_322 : decode cX4_digest 322 = .ok (.iinc 3 1, 3) := by decide +kernel
theorem dX4_digest_325 : decode cX4_digest 325 = .ok (.goto (-21), 3) := by decide +kernel
theorem dX4_digest_328 : decode cX4_digest 328 = .ok (.lload_n 1, 1) := by decide +kernel
theorem dX4_digest_329 : decode cX4_digest 329 = .ok (.ldc2_w 227, 3) := by decide +kernel
theorem dX4_digest_332 : decode cX4_digest 332 = .ok (.lmul, 1) := by decide +kernel
theorem dX4_digest_333 : decode cX4_digest 333 = .ok (.lconst 1, 1) := by decide +kernel
theorem dX4_digest_334 : decode cX4_digest 334 = .ok (.ladd, 1) := by decide +kernel
theorem dX4_digest_335 : decode cX4_digest 335 = .ok (.lreturn, 1) := by decide +kernel
set_option maxHeartbeats 4000000 in
set_option maxRecDepth 20000 in
theorem c_X4_digest (ad ae : Nat → Nat) (cs : ClassId × ClassId × ClassId) (K : mK) (J : mJ) (rest : va_W) (hJ : mWF J) : mCt (mTy cs) yX4_digest cX4_digest 8 (some .long) ⟨7, 70, 280, 164⟩ [.ref (ae 0)] (mRw ad ae cs K J rest) (mZl ad ae cs K J rest) mNo := by
  refine mCt.of (by decide +kernel) (Nat.le_of_ble_eq_true rfl) (fun X hX hE => ?_)
  have hX : mOK X RX4 cX4_digest 8 ⟨7, 70, 280, 164⟩ [] (mTy cs) := hX
  refine r_aload_n hX dX4_digest_0 rfl rfl ?_
  refine r_iconst (v := 0) hX dX4_digest_1 (by decide) ?_
  refine r_put hX kf_X4_29 14 rfl rfl rfl rfl (Nat.le_of_ble_eq_true rfl) dX4_digest_2 ?_
  refine r_eqw (ws' := mRw ad ae cs K (((0 : Int32), J.1.2), J.2) rest) rfl ?_
  refine r_ldc2 hX kc_X4_225 dX4_digest_5 ?_
  refine r_lstore_n hX dX4_digest_8 rfl (by decide) rfl ?_
  refine r_aload_n hX dX4_digest_9 rfl rfl ?_
  refine r_get hX kf_X4_7 14 rfl rfl dX4_digest_10 ?_
  refine r_astore_n hX dX4_digest_13 rfl (by decide) rfl ?_
  refine r_aload_n hX dX4_digest_14 rfl rfl ?_
  refine r_alen (v := nI 4) hX 15 0 rfl rfl rfl dX4_digest_15 ?_
  refine r_istore hX dX4_digest_16 (by decide) rfl ?_
  refine r_iconst (v := 0) hX dX4_digest_18 (by decide) ?_
  refine r_istore hX dX4_digest_19 (by decide) rfl ?_
  have L21 : ∀ (N4 j1 : Nat) (x2 : Int64), 4 - j1 < N4 → j1 ≤ 4 → ∀ J3 : mJ, mWF J3 → J3.2.1 = J.2.1 → mV X 21 [(0, some (.ref (ae 0))), (1, some (.long x2)), (3, some (.ref (ae 1))), (4, some (.int (nI 4))), (5, some (.int (nI j1)))] [] (mRw ad ae cs K J3 rest) 0 0 := by
    intro N4
    induction N4 with
    | zero => intro j1 x2; omega
    | succ N4 ih21 =>
      intro j1 x2 hN21 hj1e J3 hJ3 oJ3
      refine r_iload hX dX4_digest_21 rfl ?_
      refine r_iload hX dX4_digest_23 rfl ?_
      refine r_icmp_ge (tgt := 50) hX dX4_digest_25 (by decide) (fun c5 => ?_) (fun c5 => ?_)
      · refine r_aload_n hX dX4_digest_50 rfl rfl ?_
        refine r_get hX kf_X4_13 14 rfl rfl dX4_digest_51 ?_
        refine r_astore_n hX dX4_digest_54 rfl (by decide) rfl ?_
        refine r_aload_n hX dX4_digest_55 rfl rfl ?_
        refine r_alen (v := nI 4) hX 16 1 rfl rfl rfl dX4_digest_56 ?_
        refine r_istore hX dX4_digest_57 (by decide) rfl ?_
        refine r_iconst (v := 0) hX dX4_digest_59 (by decide) ?_
        refine r_istore hX dX4_digest_60 (by decide) rfl ?_
        have L62 : ∀ (N9 j6 : Nat) (x7 : Int64), 4 - j6 < N9 → j6 ≤ 4 → ∀ J8 : mJ, mWF J8 → J8.2.1 = J.2.1 → mV X 62 [(0, some (.ref (ae 0))), (1, some (.long x7)), (3, some (.ref (ae 2))), (4, some (.int (nI 4))), (5, some (.int (nI j6)))] [] (mRw ad ae cs K J8 rest) 0 0 := by
          intro N9
          induction N9 with
          | zero => intro j6 x7; omega
          | succ N9 ih62 =>
            intro j6 x7 hN62 hj6e J8 hJ8 oJ8
            refine r_iload hX dX4_digest_62 rfl ?_
            refine r_iload hX dX4_digest_64 rfl ?_
            refine r_icmp_ge (tgt := 110) hX dX4_digest_66 (by decide) (fun c10 => ?_) (fun c10 => ?_)
            · refine r_iconst (v := 0) hX dX4_digest_110 (by decide) ?_
              refine r_istore_n hX dX4_digest_111 rfl (by decide) rfl ?_
              have L112 : ∀ (N14 j11 : Nat) (x12 : Int64), 4 - j11 < N14 → j11 ≤ 4 → ∀ J13 : mJ, mWF J13 → J13.2.1 = J.2.1 → ∀ (k15 n16 : Nat), k15 ≤ 0 + j11 * 13 → n16 ≤ 0 + j11 * 52 → mV X 112 [(0, some (.ref (ae 0))), (1, some (.long x12)), (3, some (.int (nI j11)))] [] (mRw ad ae cs K J13 rest) k15 n16 := by
                intro N14
                induction N14 with
                | zero => intro j11 x12; omega
                | succ N14 ih112 =>
                  intro j11 x12 hN112 hj11e J13 hJ13 oJ13 k15 n16 hk15 hn16
                  refine r_iload_n hX dX4_digest_112 rfl rfl ?_
                  refine r_iconst (v := 4) hX dX4_digest_113 (by decide) ?_
                  refine r_icmp_ge (tgt := 154) hX dX4_digest_114 (by decide) (fun c17 => ?_) (fun c17 => ?_)
                  · refine r_iconst (v := 0) hX dX4_digest_154 (by decide) ?_
                    refine r_istore_n hX dX4_digest_155 rfl (by decide) rfl ?_
                    have L156 : ∀ (N21 j18 : Nat) (x19 : Int64), 3 - j18 < N21 → j18 ≤ 3 → ∀ J20 : mJ, mWF J20 → J20.2.1 = J.2.1 → ∀ (k22 n23 : Nat), k22 ≤ k15 + 0 + j18 * 6 → n23 ≤ n16 + 0 + j18 * 24 → mV X 156 [(0, some (.ref (ae 0))), (1, some (.long x19)), (3, some (.int (nI j18)))] [] (mRw ad ae cs K J20 rest) k22 n23 := by
                      intro N21
                      induction N21 with
                      | zero => intro j18 x19; omega
                      | succ N21 ih156 =>
                        intro j18 x19 hN156 hj18e J20 hJ20 oJ20 k22 n23 hk22 hn23
                        refine r_iload_n hX dX4_digest_156 rfl rfl ?_
                        refine r_iconst (v := 3) hX dX4_digest_157 (by decide) ?_
                        refine r_icmp_ge (tgt := 197) hX dX4_digest_158 (by decide) (fun c24 => ?_) (fun c24 => ?_)
                        · refine r_iconst (v := 0) hX dX4_digest_197 (by decide) ?_
                          refine r_istore_n hX dX4_digest_198 rfl (by decide) rfl ?_
                          have L199 : ∀ (N28 j25 : Nat) (x26 : Int64), 4 - j25 < N28 → j25 ≤ 4 → ∀ J27 : mJ, mWF J27 → J27.2.1 = J.2.1 → ∀ (k29 n30 : Nat), k29 ≤ k22 + 0 + j25 * 0 → n30 ≤ n23 + 0 + j25 * 0 → mV X 199 [(0, some (.ref (ae 0))), (1, some (.long x26)), (3, some (.int (nI j25)))] [] (mRw ad ae cs K J27 rest) k29 n30 := by
                            intro N28
                            induction N28 with
                            | zero => intro j25 x26; omega
                            | succ N28 ih199 =>
                              intro j25 x26 hN199 hj25e J27 hJ27 oJ27 k29 n30 hk29 hn30
                              refine r_iload_n hX dX4_digest_199 rfl rfl ?_
                              refine r_iconst (v := 4) hX dX4_digest_200 (by decide) ?_
                              refine r_icmp_ge (tgt := 257) hX dX4_digest_201 (by decide) (fun c31 => ?_) (fun c31 => ?_)
                              · refine r_iconst (v := 4) hX dX4_digest_257 (by decide) ?_
                                refine r_istore_n hX dX4_digest_258 rfl (by decide) rfl ?_
                                have L259 : ∀ (N35 j32 : Nat) (x33 : Int64), 7 - j32 < N35 → j32 ≤ 7 → ∀ J34 : mJ, mWF J34 → J34.2.1 = J.2.1 → ∀ (k36 n37 : Nat), k36 ≤ k29 + 0 + j32 * 0 → n37 ≤ n30 + 0 + j32 * 0 → mV X 259 [(0, some (.ref (ae 0))), (1, some (.long x33)), (3, some (.int (nI j32)))] [] (mRw ad ae cs K J34 rest) k36 n37 := by
                                  intro N35
                                  induction N35 with
                                  | zero => intro j32 x33; omega
                                  | succ N35 ih259 =>
                                    intro j32 x33 hN259 hj32e J34 hJ34 oJ34 k36 n37 hk36 hn37
                                    refine r_iload_n hX dX4_digest_259 rfl rfl ?_
                                    refine r_bipush (v := 7) hX dX4_digest_260 (by decide) ?_
                                    refine r_icmp_ge (tgt := 302) hX dX4_digest_262 (by decide) (fun c38 => ?_) (fun c38 => ?_)
                                    · refine r_iconst (v := 0) hX dX4_digest_302 (by decide) ?_
                                      refine r_istore_n hX dX4_digest_303 rfl (by decide) rfl ?_
                                      have L304 : ∀ (N42 j39 : Nat) (x40 : Int64), 4 - j39 < N42 → j39 ≤ 4 → ∀ J41 : mJ, mWF J41 → J41.2.1 = J.2.1 → ∀ (k43 n44 : Nat), k43 ≤ k36 + 0 + j39 * 0 → n44 ≤ n37 + 0 + j39 * 0 → mV X 304 [(0, some (.ref (ae 0))), (1, some (.long x40)), (3, some (.int (nI j39)))] [] (mRw ad ae cs K J41 rest) k43 n44 := by
                                        intro N42
                                        induction N42 with
                                        | zero => intro j39 x40; omega
                                        | succ N42 ih304 =>
                                          intro j39 x40 hN304 hj39e J41 hJ41 oJ41 k43 n44 hk43 hn44
                                          refine r_iload_n hX dX4_digest_304 rfl rfl ?_
                                          refine r_iconst (v := 3) hX dX4_digest_305 (by decide) ?_
                                          refine r_icmp_gt (tgt := 328) hX dX4_digest_306 (by decide) (fun c45 => ?_) (fun c45 => ?_)
                                          · refine r_lload_n hX dX4_digest_328 rfl rfl ?_
                                            refine r_ldc2 hX kc_X4_227 dX4_digest_329 ?_
                                            refine r_lmul hX dX4_digest_332 ?_
                                            refine r_lconst (v := 1) hX dX4_digest_333 (by decide) ?_
                                            refine r_ladd hX dX4_digest_334 ?_
                                            exact r_lret hX hE dX4_digest_335 (by first | omega | (dsimp only; omega)) (by first | omega | (dsimp only; omega)) ⟨_, J41, hJ41, oJ41, rfl, rfl⟩
                                          · have hj39 : j39 < 4 := mltg (M := 3) (by first | rfl | decide) (by decide) hj39e c45
                                            refine r_lload_n hX dX4_digest_309 rfl rfl ?_
                                            refine r_ldc2 hX kc_X4_227 dX4_digest_310 ?_
                                            refine r_lmul hX dX4_digest_313 ?_
                                            refine r_aload_n hX dX4_digest_314 rfl rfl ?_
                                            refine r_iload_n hX dX4_digest_315 rfl rfl ?_
                                            refine r_callV hX (c_X4_houseTold _ _ _ _ J41 _ hJ41 j39 hj39) kv_X4_222 14 rfl rfl rfl rfl (Nat.le_of_ble_eq_true rfl) ⟨(Nat.le_of_ble_eq_true rfl), (Nat.le_of_ble_eq_true rfl)⟩ ⟨(by first | omega | (dsimp only; omega)), (by first | omega | (dsimp only; omega))⟩ dX4_digest_316 (fun _ _ z => False.elim z) (fun v9 ws9 h46 => ?_)
                                            obtain ⟨r48, J49, hJ49, oJ49, rfl, hw9⟩ := h46
                                            subst ws9
                                            dsimp only [mPush]
                                            refine r_i2l hX dX4_digest_319 ?_
                                            refine r_ladd hX dX4_digest_320 ?_
                                            refine r_lstore_n hX dX4_digest_321 rfl (by decide) rfl ?_
                                            refine r_iinc hX dX4_digest_322 rfl (by decide) rfl ?_
                                            refine r_goto (tgt := 304) hX dX4_digest_325 (by decide) ?_
                                            exact r_loc (k' := _) (n' := _) (by exact ⟨rfl, rfl, nI_inc' _, trivial⟩) (Nat.le_refl _) (Nat.le_refl _) (ih304 (j39 + 1) _ (by omega) (by omega) _ hJ49 (oJ49.trans oJ41) _ _ (by first | omega | (dsimp only; omega)) (by first | omega | (dsimp only; omega)))
                                      exact r_loc (k' := _) (n' := _) (by exact ⟨rfl, rfl, rfl, trivial⟩) (Nat.le_refl _) (Nat.le_refl _) (L304 (4 + 1) 0 _ (by omega) (by omega) _ hJ34 oJ34 _ _ (by first | omega | (dsimp only; omega)) (by first | omega | (dsimp only; omega)))
                                    · have hj32 : j32 < 7 := mlt (by first | rfl | decide) (by decide) hj32e c38
                                      refine r_iconst (v := 4) hX dX4_digest_265 (by decide) ?_
                                      refine r_istore hX dX4_digest_266 (by decide) rfl ?_
                                      have L268 : ∀ (N53 j50 : Nat) (x51 : Int64), 7 - j50 < N53 → j50 ≤ 7 → ∀ J52 : mJ, mWF J52 → J52.2.1 = J.2.1 → ∀ (k54 n55 : Nat), k54 ≤ k36 + 0 + j50 * 0 → n55 ≤ n37 + 0 + j50 * 0 → mV X 268 [(0, some (.ref (ae 0))), (1, some (.long x51)), (3, some (.int (nI j32))), (4, some (.int (nI j50)))] [] (mRw ad ae cs K J52 rest) k54 n55 := by
                                        intro N53
                                        induction N53 with
                                        | zero => intro j50 x51; omega
                                        | succ N53 ih268 =>
                                          intro j50 x51 hN268 hj50e J52 hJ52 oJ52 k54 n55 hk54 hn55
                                          refine r_iload hX dX4_digest_268 rfl ?_
                                          refine r_bipush (v := 7) hX dX4_digest_270 (by decide) ?_
                                          refine r_icmp_ge (tgt := 296) hX dX4_digest_272 (by decide) (fun c56 => ?_) (fun c56 => ?_)
                                          · refine r_iinc hX dX4_digest_296 rfl (by decide) rfl ?_
                                            refine r_goto (tgt := 259) hX dX4_digest_299 (by decide) ?_
                                            exact r_loc (k' := _) (n' := _) (by exact ⟨rfl, rfl, nI_inc' _, trivial⟩) (Nat.le_refl _) (Nat.le_refl _) (ih259 (j32 + 1) _ (by omega) (by omega) _ hJ52 oJ52 _ _ (by first | omega | (dsimp only; omega)) (by first | omega | (dsimp only; omega)))
                                          · have hj50 : j50 < 7 := mlt (by first | rfl | decide) (by decide) hj50e c56
                                            refine r_lload_n hX dX4_digest_275 rfl rfl ?_
                                            refine r_ldc2 hX kc_X4_227 dX4_digest_276 ?_
                                            refine r_lmul hX dX4_digest_279 ?_
                                            refine r_aload_n hX dX4_digest_280 rfl rfl ?_
                                            refine r_iload_n hX dX4_digest_281 rfl rfl ?_
                                            refine r_iload hX dX4_digest_282 rfl ?_
                                            refine r_callV hX (c_X4_ordered _ _ _ _ J52 _ hJ52 j32 hj32 j50 hj50) kv_X4_196 14 rfl rfl rfl rfl (Nat.le_of_ble_eq_true rfl) ⟨(Nat.le_of_ble_eq_true rfl), (Nat.le_of_ble_eq_true rfl)⟩ ⟨(by first | omega | (dsimp only; omega)), (by first | omega | (dsimp only; omega))⟩ dX4_digest_284 (fun _ _ z => False.elim z) (fun v9 ws9 h57 => ?_)
                                            obtain ⟨r59, J60, hJ60, oJ60, rfl, hw9⟩ := h57
                                            subst ws9
                                            dsimp only [mPush]
                                            refine r_i2l hX dX4_digest_287 ?_
                                            refine r_ladd hX dX4_digest_288 ?_
                                            refine r_lstore_n hX dX4_digest_289 rfl (by decide) rfl ?_
                                            refine r_iinc hX dX4_digest_290 rfl (by decide) rfl ?_
                                            refine r_goto (tgt := 268) hX dX4_digest_293 (by decide) ?_
                                            exact r_loc (k' := _) (n' := _) (by exact ⟨rfl, rfl, rfl, nI_inc' _, trivial⟩) (Nat.le_refl _) (Nat.le_refl _) (ih268 (j50 + 1) _ (by omega) (by omega) _ hJ60 (oJ60.trans oJ52) _ _ (by first | omega | (dsimp only; omega)) (by first | omega | (dsimp only; omega)))
                                      exact r_loc (k' := _) (n' := _) (by exact ⟨rfl, rfl, rfl, rfl, trivial⟩) (Nat.le_refl _) (Nat.le_refl _) (L268 (7 + 1) 4 _ (by omega) (by omega) _ hJ34 oJ34 _ _ (by first | omega | (dsimp only; omega)) (by first | omega | (dsimp only; omega)))
                                exact r_loc (k' := _) (n' := _) (by exact ⟨rfl, rfl, rfl, trivial⟩) (Nat.le_refl _) (Nat.le_refl _) (L259 (7 + 1) 4 _ (by omega) (by omega) _ hJ27 oJ27 _ _ (by first | omega | (dsimp only; omega)) (by first | omega | (dsimp only; omega)))
                              · have hj25 : j25 < 4 := mlt (by first | rfl | decide) (by decide) hj25e c31
                                refine r_iconst (v := 0) hX dX4_digest_204 (by decide) ?_
                                refine r_istore hX dX4_digest_205 (by decide) rfl ?_
                                have L207 : ∀ (N64 j61 : Nat) (x62 : Int64), 4 - j61 < N64 → j61 ≤ 4 → ∀ J63 : mJ, mWF J63 → J63.2.1 = J.2.1 → ∀ (k65 n66 : Nat), k65 ≤ k29 + 0 + j61 * 0 → n66 ≤ n30 + 0 + j61 * 0 → mV X 207 [(0, some (.ref (ae 0))), (1, some (.long x62)), (3, some (.int (nI j25))), (4, some (.int (nI j61)))] [] (mRw ad ae cs K J63 rest) k65 n66 := by
                                  intro N64
                                  induction N64 with
                                  | zero => intro j61 x62; omega
                                  | succ N64 ih207 =>
                                    intro j61 x62 hN207 hj61e J63 hJ63 oJ63 k65 n66 hk65 hn66
                                    refine r_iload hX dX4_digest_207 rfl ?_
                                    refine r_iconst (v := 4) hX dX4_digest_209 (by decide) ?_
                                    refine r_icmp_ge (tgt := 251) hX dX4_digest_210 (by decide) (fun c67 => ?_) (fun c67 => ?_)
                                    · refine r_iinc hX dX4_digest_251 rfl (by decide) rfl ?_
                                      refine r_goto (tgt := 199) hX dX4_digest_254 (by decide) ?_
                                      exact r_loc (k' := _) (n' := _) (by exact ⟨rfl, rfl, nI_inc' _, trivial⟩) (Nat.le_refl _) (Nat.le_refl _) (ih199 (j25 + 1) _ (by omega) (by omega) _ hJ63 oJ63 _ _ (by first | omega | (dsimp only; omega)) (by first | omega | (dsimp only; omega)))
                                    · have hj61 : j61 < 4 := mlt (by first | rfl | decide) (by decide) hj61e c67
                                      refine r_lload_n hX dX4_digest_213 rfl rfl ?_
                                      refine r_ldc2 hX kc_X4_227 dX4_digest_214 ?_
                                      refine r_lmul hX dX4_digest_217 ?_
                                      refine r_aload_n hX dX4_digest_218 rfl rfl ?_
                                      refine r_iload_n hX dX4_digest_219 rfl rfl ?_
                                      refine r_iload hX dX4_digest_220 rfl ?_
                                      refine r_callV hX (c_X4_ordered _ _ _ _ J63 _ hJ63 j25 (Nat.lt_of_lt_of_le hj25 (by decide)) j61 (Nat.lt_of_lt_of_le hj61 (by decide))) kv_X4_196 14 rfl rfl rfl rfl (Nat.le_of_ble_eq_true rfl) ⟨(Nat.le_of_ble_eq_true rfl), (Nat.le_of_ble_eq_true rfl)⟩ ⟨(by first | omega | (dsimp only; omega)), (by first | omega | (dsimp only; omega))⟩ dX4_digest_222 (fun _ _ z => False.elim z) (fun v9 ws9 h68 => ?_)
                                      obtain ⟨r70, J71, hJ71, oJ71, rfl, hw9⟩ := h68
                                      subst ws9
                                      dsimp only [mPush]
                                      refine r_i2l hX dX4_digest_225 ?_
                                      refine r_ladd hX dX4_digest_226 ?_
                                      refine r_ldc2 hX kc_X4_227 dX4_digest_227 ?_
                                      refine r_lmul hX dX4_digest_230 ?_
                                      refine r_aload_n hX dX4_digest_231 rfl rfl ?_
                                      refine r_iload_n hX dX4_digest_232 rfl rfl ?_
                                      refine r_iload hX dX4_digest_233 rfl ?_
                                      refine r_iconst (v := 2) hX dX4_digest_235 (by decide) ?_
                                      refine r_callV hX (c_X4_is _ _ _ _ J71 _ hJ71 j25 (Nat.lt_of_lt_of_le hj25 (by decide)) j61 (Nat.lt_of_lt_of_le hj61 (by decide)) _) kv_X4_199 14 rfl rfl rfl rfl (Nat.le_of_ble_eq_true rfl) ⟨(Nat.le_of_ble_eq_true rfl), (Nat.le_of_ble_eq_true rfl)⟩ ⟨(by first | omega | (dsimp only; omega)), (by first | omega | (dsimp only; omega))⟩ dX4_digest_236 (fun _ _ z => False.elim z) (fun v9 ws9 h72 => ?_)
                                      obtain ⟨r74, J75, br74, hJ75, oJ75, rfl, hw9⟩ := h72
                                      subst ws9
                                      dsimp only [mPush]
                                      refine r_callS hX (c_X4_one _ _ _) ks_X4_84 rfl rfl (Nat.le_of_ble_eq_true rfl) ⟨(Nat.le_of_ble_eq_true rfl), (Nat.le_of_ble_eq_true rfl)⟩ ⟨(by first | omega | (dsimp only; omega)), (by first | omega | (dsimp only; omega))⟩ dX4_digest_239 (fun _ _ z => False.elim z) (fun v9 ws9 h76 => ?_)
                                      obtain ⟨r78, rfl, hw9⟩ := h76
                                      subst ws9
                                      dsimp only [mPush]
                                      refine r_i2l hX dX4_digest_242 ?_
                                      refine r_ladd hX dX4_digest_243 ?_
                                      refine r_lstore_n hX dX4_digest_244 rfl (by decide) rfl ?_
                                      refine r_iinc hX dX4_digest_245 rfl (by decide) rfl ?_
                                      refine r_goto (tgt := 207) hX dX4_digest_248 (by decide) ?_
                                      exact r_loc (k' := _) (n' := _) (by exact ⟨rfl, rfl, rfl, nI_inc' _, trivial⟩) (Nat.le_refl _) (Nat.le_refl _) (ih207 (j61 + 1) _ (by omega) (by omega) _ hJ75 (oJ75.trans (oJ71.trans oJ63)) _ _ (by first | omega | (dsimp only; omega)) (by first | omega | (dsimp only; omega)))
                                exact r_loc (k' := _) (n' := _) (by exact ⟨rfl, rfl, rfl, rfl, trivial⟩) (Nat.le_refl _) (Nat.le_refl _) (L207 (4 + 1) 0 _ (by omega) (by omega) _ hJ27 oJ27 _ _ (by first | omega | (dsimp only; omega)) (by first | omega | (dsimp only; omega)))
                          exact r_loc (k' := _) (n' := _) (by exact ⟨rfl, rfl, rfl, trivial⟩) (Nat.le_refl _) (Nat.le_refl _) (L199 (4 + 1) 0 _ (by omega) (by omega) _ hJ20 oJ20 _ _ (by first | omega | (dsimp only; omega)) (by first | omega | (dsimp only; omega)))
                        · have hj18 : j18 < 3 := mlt (by first | rfl | decide) (by decide) hj18e c24
                          refine r_iconst (v := 0) hX dX4_digest_161 (by decide) ?_
                          refine r_istore hX dX4_digest_162 (by decide) rfl ?_
                          have L164 : ∀ (N82 j79 : Nat) (x80 : Int64), 6 - j79 < N82 → j79 ≤ 6 → ∀ J81 : mJ, mWF J81 → J81.2.1 = J.2.1 → ∀ (k83 n84 : Nat), k83 ≤ k22 + 0 + j79 * 1 → n84 ≤ n23 + 0 + j79 * 4 → mV X 164 [(0, some (.ref (ae 0))), (1, some (.long x80)), (3, some (.int (nI j18))), (4, some (.int (nI j79)))] [] (mRw ad ae cs K J81 rest) k83 n84 := by
                            intro N82
                            induction N82 with
                            | zero => intro j79 x80; omega
                            | succ N82 ih164 =>
                              intro j79 x80 hN164 hj79e J81 hJ81 oJ81 k83 n84 hk83 hn84
                              refine r_iload hX dX4_digest_164 rfl ?_
                              refine r_iconst (v := 5) hX dX4_digest_166 (by decide) ?_
                              refine r_icmp_gt (tgt := 191) hX dX4_digest_167 (by decide) (fun c85 => ?_) (fun c85 => ?_)
                              · refine r_iinc hX dX4_digest_191 rfl (by decide) rfl ?_
                                refine r_goto (tgt := 156) hX dX4_digest_194 (by decide) ?_
                                exact r_loc (k' := _) (n' := _) (by exact ⟨rfl, rfl, nI_inc' _, trivial⟩) (Nat.le_refl _) (Nat.le_refl _) (ih156 (j18 + 1) _ (by omega) (by omega) _ hJ81 oJ81 _ _ (by first | omega | (dsimp only; omega)) (by first | omega | (dsimp only; omega)))
                              · have hj79 : j79 < 6 := mltg (M := 5) (by first | rfl | decide) (by decide) hj79e c85
                                refine r_lload_n hX dX4_digest_170 rfl rfl ?_
                                refine r_ldc2 hX kc_X4_227 dX4_digest_171 ?_
                                refine r_lmul hX dX4_digest_174 ?_
                                refine r_aload_n hX dX4_digest_175 rfl rfl ?_
                                refine r_iload_n hX dX4_digest_176 rfl rfl ?_
                                refine r_iload hX dX4_digest_177 rfl ?_
                                refine r_callV hX (c_X4_clockTold _ _ _ _ J81 _ hJ81 j18 hj18 j79 hj79) kv_X4_216 14 rfl rfl rfl rfl (Nat.le_of_ble_eq_true rfl) ⟨(Nat.le_of_ble_eq_true rfl), (Nat.le_of_ble_eq_true rfl)⟩ ⟨(by first | omega | (dsimp only; omega)), (by first | omega | (dsimp only; omega))⟩ dX4_digest_179 (fun _ _ z => False.elim z) (fun v9 ws9 h86 => ?_)
                                obtain ⟨r88, J89, hJ89, oJ89, rfl, hw9⟩ := h86
                                subst ws9
                                dsimp only [mPush]
                                refine r_i2l hX dX4_digest_182 ?_
                                refine r_ladd hX dX4_digest_183 ?_
                                refine r_lstore_n hX dX4_digest_184 rfl (by decide) rfl ?_
                                refine r_iinc hX dX4_digest_185 rfl (by decide) rfl ?_
                                refine r_goto (tgt := 164) hX dX4_digest_188 (by decide) ?_
                                exact r_loc (k' := _) (n' := _) (by exact ⟨rfl, rfl, rfl, nI_inc' _, trivial⟩) (Nat.le_refl _) (Nat.le_refl _) (ih164 (j79 + 1) _ (by omega) (by omega) _ hJ89 (oJ89.trans oJ81) _ _ (by first | omega | (dsimp only; omega)) (by first | omega | (dsimp only; omega)))
                          exact r_loc (k' := _) (n' := _) (by exact ⟨rfl, rfl, rfl, rfl, trivial⟩) (Nat.le_refl _) (Nat.le_refl _) (L164 (6 + 1) 0 _ (by omega) (by omega) _ hJ20 oJ20 _ _ (by first | omega | (dsimp only; omega)) (by first | omega | (dsimp only; omega)))
                    exact r_loc (k' := _) (n' := _) (by exact ⟨rfl, rfl, rfl, trivial⟩) (Nat.le_refl _) (Nat.le_refl _) (L156 (3 + 1) 0 _ (by omega) (by omega) _ hJ13 oJ13 _ _ (by first | omega | (dsimp only; omega)) (by first | omega | (dsimp only; omega)))
                  · have hj11 : j11 < 4 := mlt (by first | rfl | decide) (by decide) hj11e c17
                    refine r_iconst (v := 0) hX dX4_digest_117 (by decide) ?_
                    refine r_istore hX dX4_digest_118 (by decide) rfl ?_
                    have L120 : ∀ (N93 j90 : Nat) (x91 : Int64), 13 - j90 < N93 → j90 ≤ 13 → ∀ J92 : mJ, mWF J92 → J92.2.1 = J.2.1 → ∀ (k94 n95 : Nat), k94 ≤ k15 + 0 + j90 * 1 → n95 ≤ n16 + 0 + j90 * 4 → mV X 120 [(0, some (.ref (ae 0))), (1, some (.long x91)), (3, some (.int (nI j11))), (4, some (.int (nI j90)))] [] (mRw ad ae cs K J92 rest) k94 n95 := by
                      intro N93
                      induction N93 with
                      | zero => intro j90 x91; omega
                      | succ N93 ih120 =>
                        intro j90 x91 hN120 hj90e J92 hJ92 oJ92 k94 n95 hk94 hn95
                        refine r_iload hX dX4_digest_120 rfl ?_
                        refine r_bipush (v := 12) hX dX4_digest_122 (by decide) ?_
                        refine r_icmp_gt (tgt := 148) hX dX4_digest_124 (by decide) (fun c96 => ?_) (fun c96 => ?_)
                        · refine r_iinc hX dX4_digest_148 rfl (by decide) rfl ?_
                          refine r_goto (tgt := 112) hX dX4_digest_151 (by decide) ?_
                          exact r_loc (k' := _) (n' := _) (by exact ⟨rfl, rfl, nI_inc' _, trivial⟩) (Nat.le_refl _) (Nat.le_refl _) (ih112 (j11 + 1) _ (by omega) (by omega) _ hJ92 oJ92 _ _ (by first | omega | (dsimp only; omega)) (by first | omega | (dsimp only; omega)))
                        · have hj90 : j90 < 13 := mltg (M := 12) (by first | rfl | decide) (by decide) hj90e c96
                          refine r_lload_n hX dX4_digest_127 rfl rfl ?_
                          refine r_ldc2 hX kc_X4_227 dX4_digest_128 ?_
                          refine r_lmul hX dX4_digest_131 ?_
                          refine r_aload_n hX dX4_digest_132 rfl rfl ?_
                          refine r_iload_n hX dX4_digest_133 rfl rfl ?_
                          refine r_iload hX dX4_digest_134 rfl ?_
                          refine r_callV hX (c_X4_told _ _ _ _ J92 _ hJ92 j11 (Nat.lt_of_lt_of_le hj11 (by decide)) j90 hj90) kv_X4_193 14 rfl rfl rfl rfl (Nat.le_of_ble_eq_true rfl) ⟨(Nat.le_of_ble_eq_true rfl), (Nat.le_of_ble_eq_true rfl)⟩ ⟨(by first | omega | (dsimp only; omega)), (by first | omega | (dsimp only; omega))⟩ dX4_digest_136 (fun _ _ z => False.elim z) (fun v9 ws9 h97 => ?_)
                          obtain ⟨r99, J100, hJ100, oJ100, rfl, hw9⟩ := h97
                          subst ws9
                          dsimp only [mPush]
                          refine r_i2l hX dX4_digest_139 ?_
                          refine r_ladd hX dX4_digest_140 ?_
                          refine r_lstore_n hX dX4_digest_141 rfl (by decide) rfl ?_
                          refine r_iinc hX dX4_digest_142 rfl (by decide) rfl ?_
                          refine r_goto (tgt := 120) hX dX4_digest_145 (by decide) ?_
                          exact r_loc (k' := _) (n' := _) (by exact ⟨rfl, rfl, rfl, nI_inc' _, trivial⟩) (Nat.le_refl _) (Nat.le_refl _) (ih120 (j90 + 1) _ (by omega) (by omega) _ hJ100 (oJ100.trans oJ92) _ _ (by first | omega | (dsimp only; omega)) (by first | omega | (dsimp only; omega)))
                    exact r_loc (k' := _) (n' := _) (by exact ⟨rfl, rfl, rfl, rfl, trivial⟩) (Nat.le_refl _) (Nat.le_refl _) (L120 (13 + 1) 0 _ (by omega) (by omega) _ hJ13 oJ13 _ _ (by first | omega | (dsimp only; omega)) (by first | omega | (dsimp only; omega)))
              exact r_loc (k' := _) (n' := _) (by exact ⟨rfl, rfl, rfl, trivial⟩) (Nat.le_refl _) (Nat.le_refl _) (L112 (4 + 1) 0 _ (by omega) (by omega) _ hJ8 oJ8 _ _ (by first | omega | (dsimp only; omega)) (by first | omega | (dsimp only; omega)))
            · have hj6 : j6 < 4 := mlt (by first | rfl | decide) (by decide) hj6e c10
              refine r_aload_n hX dX4_digest_69 rfl rfl ?_
              refine r_iload hX dX4_digest_70 rfl ?_
              refine r_lald hX 16 1 rfl rfl (vp_in_nI hj6 (by decide)) dX4_digest_72 ?_
              refine r_lstore hX dX4_digest_73 (by decide) rfl ?_
              refine r_lload_n hX dX4_digest_75 rfl rfl ?_
              refine r_ldc2 hX kc_X4_227 dX4_digest_76 ?_
              refine r_lmul hX dX4_digest_79 ?_
              refine r_lload hX dX4_digest_80 rfl ?_
              refine r_ldc2 hX kc_X4_96 dX4_digest_82 ?_
              refine r_callS hX (c_X4_whole _ _ _ _ (by decide)) ks_X4_92 rfl rfl (Nat.le_of_ble_eq_true rfl) ⟨(Nat.le_of_ble_eq_true rfl), (Nat.le_of_ble_eq_true rfl)⟩ ⟨(Nat.le_of_ble_eq_true rfl), (Nat.le_of_ble_eq_true rfl)⟩ dX4_digest_85 (fun _ _ z => False.elim z) (fun v9 ws9 h101 => ?_)
              obtain ⟨r103, rfl, hw9⟩ := h101
              subst ws9
              dsimp only [mPush]
              refine r_ladd hX dX4_digest_88 ?_
              refine r_ldc2 hX kc_X4_227 dX4_digest_89 ?_
              refine r_lmul hX dX4_digest_92 ?_
              refine r_lload hX dX4_digest_93 rfl ?_
              refine r_ldc2 hX kc_X4_96 dX4_digest_95 ?_
              refine r_callS hX (c_X4_rest _ _ _ _ (by decide)) ks_X4_102 rfl rfl (Nat.le_of_ble_eq_true rfl) ⟨(Nat.le_of_ble_eq_true rfl), (Nat.le_of_ble_eq_true rfl)⟩ ⟨(Nat.le_of_ble_eq_true rfl), (Nat.le_of_ble_eq_true rfl)⟩ dX4_digest_98 (fun _ _ z => False.elim z) (fun v9 ws9 h104 => ?_)
              obtain ⟨r106, rfl, hw9⟩ := h104
              subst ws9
              dsimp only [mPush]
              refine r_i2l hX dX4_digest_101 ?_
              refine r_ladd hX dX4_digest_102 ?_
              refine r_lstore_n hX dX4_digest_103 rfl (by decide) rfl ?_
              refine r_iinc hX dX4_digest_104 rfl (by decide) rfl ?_
              refine r_goto (tgt := 62) hX dX4_digest_107 (by decide) ?_
              exact r_loc (k' := 0) (n' := 0) (by exact ⟨rfl, rfl, rfl, rfl, nI_inc' _, trivial⟩) (by decide) (by decide) (ih62 (j6 + 1) _ (by omega) (by omega) _ hJ8 oJ8)
        exact r_loc (k' := 0) (n' := 0) (by exact ⟨rfl, rfl, rfl, rfl, rfl, trivial⟩) (by decide) (by decide) (L62 (4 + 1) 0 _ (by omega) (by omega) _ hJ3 oJ3)
      · have hj1 : j1 < 4 := mlt (by first | rfl | decide) (by decide) hj1e c5
        refine r_aload_n hX dX4_digest_28 rfl rfl ?_
        refine r_iload hX dX4_digest_29 rfl ?_
        refine r_iald hX 15 0 rfl rfl (vp_in_nI hj1 (by decide)) dX4_digest_31 ?_
        refine r_istore hX dX4_digest_32 (by decide) rfl ?_
        refine r_lload_n hX dX4_digest_34 rfl rfl ?_
        refine r_ldc2 hX kc_X4_227 dX4_digest_35 ?_
        refine r_lmul hX dX4_digest_38 ?_
        refine r_iload hX dX4_digest_39 rfl ?_
        refine r_i2l hX dX4_digest_41 ?_
        refine r_ladd hX dX4_digest_42 ?_
        refine r_lstore_n hX dX4_digest_43 rfl (by decide) rfl ?_
        refine r_iinc hX dX4_digest_44 rfl (by decide) rfl ?_
        refine r_goto (tgt := 21) hX dX4_digest_47 (by decide) ?_
        exact r_loc (k' := 0) (n' := 0) (by exact ⟨rfl, rfl, rfl, rfl, nI_inc' _, trivial⟩) (by decide) (by decide) (ih21 (j1 + 1) _ (by omega) (by omega) _ hJ3 oJ3)
  exact r_loc (k' := 0) (n' := 0) (by exact ⟨rfl, rfl, rfl, rfl, rfl, trivial⟩) (by decide) (by decide) (L21 (4 + 1) 0 _ (by omega) (by omega) _ hJ rfl)
