/-! The class's text of a number. (Rows by a program of this repository.) -/
theorem mrem10 (y : Int64) : -9 ≤ (y - y / 10 * 10).toInt ∧ (y - y / 10 * 10).toInt ≤ 9 := by
  have a := (y % 10).toInt_lt
  have b := (y % 10).le_toInt
  rw [Int64.toInt_mod] at a b
  have e : (y - y / 10 * 10).toInt = y.toInt.tmod (10 : Int64).toInt := by
    rw [Int64.toInt_sub, Int64.toInt_mul, Int64.toInt_div, Int.bmod_mul_bmod, Int.sub_bmod_bmod, Int.mul_comm, ← Int.tmod_def]
    exact Int.bmod_eq_of_le (by omega) (by omega)
  have e2 : (10 : Int64).toInt = 10 := by decide
  rw [e, e2]
  have h1 := Int.lt_tmod_of_pos y.toInt (show (0 : Int) < 10 by decide)
  have h2 := Int.tmod_lt_of_pos y.toInt (show (0 : Int) < 10 by decide)
  omega
theorem mdig (y : Int64) : ∃ c : Nat, c < 256 ∧ ((((48 : Int64) + (y - y / 10 * 10)).toInt32).toUInt32 % 65536).toInt32 = nI c := by
  obtain ⟨h1, h2⟩ := mrem10 y
  have e : y - y / 10 * 10 = Int64.ofInt (y - y / 10 * 10).toInt := (Int64.ofInt_toInt _).symm
  rw [e]
  generalize (y - y / 10 * 10).toInt = z at h1 h2
  rcases (show z = -9 ∨ z = -8 ∨ z = -7 ∨ z = -6 ∨ z = -5 ∨ z = -4 ∨ z = -3 ∨ z = -2 ∨ z = -1 ∨ z = 0 ∨ z = 1 ∨ z = 2 ∨ z = 3 ∨ z = 4 ∨ z = 5 ∨ z = 6 ∨ z = 7 ∨ z = 8 ∨ z = 9 by omega) with rfl | rfl | rfl | rfl | rfl | rfl | rfl | rfl | rfl | rfl | rfl | rfl | rfl | rfl | rfl | rfl | rfl | rfl | rfl
  · exact ⟨39, by decide, by decide +kernel⟩
  · exact ⟨40, by decide, by decide +kernel⟩
  · exact ⟨41, by decide, by decide +kernel⟩
  · exact ⟨42, by decide, by decide +kernel⟩
  · exact ⟨43, by decide, by decide +kernel⟩
  · exact ⟨44, by decide, by decide +kernel⟩
  · exact ⟨45, by decide, by decide +kernel⟩
  · exact ⟨46, by decide, by decide +kernel⟩
  · exact ⟨47, by decide, by decide +kernel⟩
  · exact ⟨48, by decide, by decide +kernel⟩
  · exact ⟨49, by decide, by decide +kernel⟩
  · exact ⟨50, by decide, by decide +kernel⟩
  · exact ⟨51, by decide, by decide +kernel⟩
  · exact ⟨52, by decide, by decide +kernel⟩
  · exact ⟨53, by decide, by decide +kernel⟩
  · exact ⟨54, by decide, by decide +kernel⟩
  · exact ⟨55, by decide, by decide +kernel⟩
  · exact ⟨56, by decide, by decide +kernel⟩
  · exact ⟨57, by decide, by decide +kernel⟩
theorem dX2_textOf_w0 : (cX2_textOf.data.toList.drop 0).take 64 = [187, 1, 24, 89, 183, 1, 26, 77, 30, 184, 1, 27, 66, 3, 54, 5, 21, 5, 16, 19, 162, 0, 42, 21, 5, 153, 0, 9, 33, 9, 148, 158, 0, 31, 44, 20, 1, 30, 33, 20, 1, 32, 113, 97, 136, 146, 182, 1, 34, 87, 33, 20, 1, 32, 109, 66, 132, 5, 1, 167, 255, 213, 30, 9] := by decide +kernel
theorem dX2_textOf_w1 : (cX2_textOf.data.toList.drop 64).take 64 = [148, 156, 0, 10, 44, 16, 45, 182, 1, 34, 87, 44, 182, 1, 38, 182, 1, 42, 176] := by decide +kernel
theorem dX2_textOf_0 : decode cX2_textOf 0 = .ok (.new 280, 3) := dk_187 (dq_lk dX2_textOf_w0 (r := 0) (x := 187) rfl) (dq_lk dX2_textOf_w0 (r := 1) (x := 1) rfl) (dq_lk dX2_textOf_w0 (r := 2) (x := 24) rfl)
theorem dX2_textOf_3 : decode cX2_textOf 3 = .ok (.dup, 1) := dk_89 (dq_lk dX2_textOf_w0 (r := 3) (x := 89) rfl)
theorem dX2_textOf_4 : decode cX2_textOf 4 = .ok (.invokespecial 282, 3) := dk_183 (dq_lk dX2_textOf_w0 (r := 4) (x := 183) rfl) (dq_lk dX2_textOf_w0 (r := 5) (x := 1) rfl) (dq_lk dX2_textOf_w0 (r := 6) (x := 26) rfl)
theorem dX2_textOf_7 : decode cX2_textOf 7 = .ok (.astore_n 2, 1) := dk_77 (dq_lk dX2_textOf_w0 (r := 7) (x := 77) rfl)
theorem dX2_textOf_8 : decode cX2_textOf 8 = .ok (.lload_n 0, 1) := dk_30 (dq_lk dX2_textOf_w0 (r := 8) (x := 30) rfl)
theorem dX2_textOf_9 : decode cX2_textOf 9 = .ok (.invokestatic 283, 3) := dk_184 (dq_lk dX2_textOf_w0 (r := 9) (x := 184) rfl) (dq_lk dX2_textOf_w0 (r := 10) (x := 1) rfl) (dq_lk dX2_textOf_w0 (r := 11) (x := 27) rfl)
theorem dX2_textOf_12 : decode cX2_textOf 12 = .ok (.lstore_n 3, 1) := dk_66 (dq_lk dX2_textOf_w0 (r := 12) (x := 66) rfl)
theorem dX2_textOf_13 : decode cX2_textOf 13 = .ok (.iconst 0, 1) := dk_3 (dq_lk dX2_textOf_w0 (r := 13) (x := 3) rfl)
theorem dX2_textOf_14 : decode cX2_textOf 14 = .ok (.istore 5, 2) := dk_54 (dq_lk dX2_textOf_w0 (r := 14) (x := 54) rfl) (dq_lk dX2_textOf_w0 (r := 15) (x := 5) rfl)
theorem dX2_textOf_16 : decode cX2_textOf 16 = .ok (.iload 5, 2) := dk_21 (dq_lk dX2_textOf_w0 (r := 16) (x := 21) rfl) (dq_lk dX2_textOf_w0 (r := 17) (x := 5) rfl)
theorem dX2_textOf_18 : decode cX2_textOf 18 = .ok (.bipush 19, 2) := dk_16 (dq_lk dX2_textOf_w0 (r := 18) (x := 16) rfl) (dq_lk dX2_textOf_w0 (r := 19) (x := 19) rfl) (by decide +kernel)
theorem dX2_textOf_20 : decode cX2_textOf 20 = .ok (.if_icmp .ge 42, 3) := dk_162 (dq_lk dX2_textOf_w0 (r := 20) (x := 162) rfl) (dq_lk dX2_textOf_w0 (r := 21) (x := 0) rfl) (dq_lk dX2_textOf_w0 (r := 22) (x := 42) rfl) (by decide +kernel)
theorem dX2_textOf_23 : decode cX2_textOf 23 = .ok (.iload 5, 2) := dk_21 (dq_lk dX2_textOf_w0 (r := 23) (x := 21) rfl) (dq_lk dX2_textOf_w0 (r := 24) (x := 5) rfl)
theorem dX2_textOf_25 : decode cX2_textOf 25 = .ok (.ifCond .eq 9, 3) := dk_153 (dq_lk dX2_textOf_w0 (r := 25) (x := 153) rfl) (dq_lk dX2_textOf_w0 (r := 26) (x := 0) rfl) (dq_lk dX2_textOf_w0 (r := 27) (x := 9) rfl) (by decide +kernel)
theorem dX2_textOf_28 : decode cX2_textOf 28 = .ok (.lload_n 3, 1) := dk_33 (dq_lk dX2_textOf_w0 (r := 28) (x := 33) rfl)
theorem dX2_textOf_29 : decode cX2_textOf 29 = .ok (.lconst 0, 1) := dk_9 (dq_lk dX2_textOf_w0 (r := 29) (x := 9) rfl)
theorem dX2_textOf_30 : decode cX2_textOf 30 = .ok (.lcmp, 1) := dk_148 (dq_lk dX2_textOf_w0 (r := 30) (x := 148) rfl)
theorem dX2_textOf_31 : decode cX2_textOf 31 = .ok (.ifCond .le 31, 3) := dk_158 (dq_lk dX2_textOf_w0 (r := 31) (x := 158) rfl) (dq_lk dX2_textOf_w0 (r := 32) (x := 0) rfl) (dq_lk dX2_textOf_w0 (r := 33) (x := 31) rfl) (by decide +kernel)
theorem dX2_textOf_34 : decode cX2_textOf 34 = .ok (.aload_n 2, 1) := dk_44 (dq_lk dX2_textOf_w0 (r := 34) (x := 44) rfl)
theorem dX2_textOf_35 : decode cX2_textOf 35 = .ok (.ldc2_w 286, 3) := dk_20 (dq_lk dX2_textOf_w0 (r := 35) (x := 20) rfl) (dq_lk dX2_textOf_w0 (r := 36) (x := 1) rfl) (dq_lk dX2_textOf_w0 (r := 37) (x := 30) rfl)
theorem dX2_textOf_38 : decode cX2_textOf 38 = .ok (.lload_n 3, 1) := dk_33 (dq_lk dX2_textOf_w0 (r := 38) (x := 33) rfl)
theorem dX2_textOf_39 : decode cX2_textOf 39 = .ok (.ldc2_w 288, 3) := dk_20 (dq_lk dX2_textOf_w0 (r := 39) (x := 20) rfl) (dq_lk dX2_textOf_w0 (r := 40) (x := 1) rfl) (dq_lk dX2_textOf_w0 (r := 41) (x := 32) rfl)
theorem dX2_textOf_42 : decode cX2_textOf 42 = .ok (.lrem, 1) := dk_113 (dq_lk dX2_textOf_w0 (r := 42) (x := 113) rfl)
theorem dX2_textOf_43 : decode cX2_textOf 43 = .ok (.ladd, 1) := dk_97 (dq_lk dX2_textOf_w0 (r := 43) (x := 97) rfl)
theorem dX2_textOf_44 : decode cX2_textOf 44 = .ok (.l2i, 1) := dk_136 (dq_lk dX2_textOf_w0 (r := 44) (x := 136) rfl)
theorem dX2_textOf_45 : decode cX2_textOf 45 = .ok (.i2c, 1) := dk_146 (dq_lk dX2_textOf_w0 (r := 45) (x := 146) rfl)
theorem dX2_textOf_46 : decode cX2_textOf 46 = .ok (.invokevirtual 290, 3) := dk_182 (dq_lk dX2_textOf_w0 (r := 46) (x := 182) rfl) (dq_lk dX2_textOf_w0 (r := 47) (x := 1) rfl) (dq_lk dX2_textOf_w0 (r := 48) (x := 34) rfl)
theorem dX2_textOf_49 : decode cX2_textOf 49 = .ok (.pop, 1) := dk_87 (dq_lk dX2_textOf_w0 (r := 49) (x := 87) rfl)
theorem dX2_textOf_50 : decode cX2_textOf 50 = .ok (.lload_n 3, 1) := dk_33 (dq_lk dX2_textOf_w0 (r := 50) (x := 33) rfl)
theorem dX2_textOf_51 : decode cX2_textOf 51 = .ok (.ldc2_w 288, 3) := dk_20 (dq_lk dX2_textOf_w0 (r := 51) (x := 20) rfl) (dq_lk dX2_textOf_w0 (r := 52) (x := 1) rfl) (dq_lk dX2_textOf_w0 (r := 53) (x := 32) rfl)
theorem dX2_textOf_54 : decode cX2_textOf 54 = .ok (.ldiv, 1) := dk_109 (dq_lk dX2_textOf_w0 (r := 54) (x := 109) rfl)
theorem dX2_textOf_55 : decode cX2_textOf 55 = .ok (.lstore_n 3, 1) := dk_66 (dq_lk dX2_textOf_w0 (r := 55) (x := 66) rfl)
theorem dX2_textOf_56 : decode cX2_textOf 56 = .ok (.iinc 5 1, 3) := dk_132 (dq_lk dX2_textOf_w0 (r := 56) (x := 132) rfl) (dq_lk dX2_textOf_w0 (r := 57) (x := 5) rfl) (dq_lk dX2_textOf_w0 (r := 58) (x := 1) rfl) (by decide +kernel)
theorem dX2_textOf_59 : decode cX2_textOf 59 = .ok (.goto (-43), 3) := dk_167 (dq_lk dX2_textOf_w0 (r := 59) (x := 167) rfl) (dq_lk dX2_textOf_w0 (r := 60) (x := 255) rfl) (dq_lk dX2_textOf_w0 (r := 61) (x := 213) rfl) (by decide +kernel)
theorem dX2_textOf_62 : decode cX2_textOf 62 = .ok (.lload_n 0, 1) := dk_30 (dq_lk dX2_textOf_w0 (r := 62) (x := 30) rfl)
theorem dX2_textOf_63 : decode cX2_textOf 63 = .ok (.lconst 0, 1) := dk_9 (dq_lk dX2_textOf_w0 (r := 63) (x := 9) rfl)
theorem dX2_textOf_64 : decode cX2_textOf 64 = .ok (.lcmp, 1) := dk_148 (dq_lk dX2_textOf_w1 (r := 0) (x := 148) rfl)
theorem dX2_textOf_65 : decode cX2_textOf 65 = .ok (.ifCond .ge 10, 3) := dk_156 (dq_lk dX2_textOf_w1 (r := 1) (x := 156) rfl) (dq_lk dX2_textOf_w1 (r := 2) (x := 0) rfl) (dq_lk dX2_textOf_w1 (r := 3) (x := 10) rfl) (by decide +kernel)
theorem dX2_textOf_68 : decode cX2_textOf 68 = .ok (.aload_n 2, 1) := dk_44 (dq_lk dX2_textOf_w1 (r := 4) (x := 44) rfl)
theorem dX2_textOf_69 : decode cX2_textOf 69 = .ok (.bipush 45, 2) := dk_16 (dq_lk dX2_textOf_w1 (r := 5) (x := 16) rfl) (dq_lk dX2_textOf_w1 (r := 6) (x := 45) rfl) (by decide +kernel)
theorem dX2_textOf_71 : decode cX2_textOf 71 = .ok (.invokevirtual 290, 3) := dk_182 (dq_lk dX2_textOf_w1 (r := 7) (x := 182) rfl) (dq_lk dX2_textOf_w1 (r := 8) (x := 1) rfl) (dq_lk dX2_textOf_w1 (r := 9) (x := 34) rfl)
theorem dX2_textOf_74 : decode cX2_textOf 74 = .ok (.pop, 1) := dk_87 (dq_lk dX2_textOf_w1 (r := 10) (x := 87) rfl)
theorem dX2_textOf_75 : decode cX2_textOf 75 = .ok (.aload_n 2, 1) := dk_44 (dq_lk dX2_textOf_w1 (r := 11) (x := 44) rfl)
theorem dX2_textOf_76 : decode cX2_textOf 76 = .ok (.invokevirtual 294, 3) := dk_182 (dq_lk dX2_textOf_w1 (r := 12) (x := 182) rfl) (dq_lk dX2_textOf_w1 (r := 13) (x := 1) rfl) (dq_lk dX2_textOf_w1 (r := 14) (x := 38) rfl)
theorem dX2_textOf_79 : decode cX2_textOf 79 = .ok (.invokevirtual 298, 3) := dk_182 (dq_lk dX2_textOf_w1 (r := 15) (x := 182) rfl) (dq_lk dX2_textOf_w1 (r := 16) (x := 1) rfl) (dq_lk dX2_textOf_w1 (r := 17) (x := 42) rfl)
theorem dX2_textOf_82 : decode cX2_textOf 82 = .ok (.areturn, 1) := dk_176 (dq_lk dX2_textOf_w1 (r := 18) (x := 176) rfl)
set_option maxHeartbeats 1000000 in
theorem c_textOf (cs : ClassId × ClassId × ClassId) (ws : va_W) (x : Int64) : mCt (mTy cs) yX2_textOf cX2_textOf 6 (some (.object "java/lang/String")) ⟨6, 30, 1500, 280⟩ [.long x] ws (fun v9 ws' => (∃ s : Nat, v9 = some (.ref s)) ∧ ws' = ws) mNo := by
  refine mCt.of (by decide +kernel) (Nat.le_of_ble_eq_true rfl) (fun X hX hE => ?_)
  replace hX : mOK X RX2 cX2_textOf 6 ⟨6, 30, 1500, 280⟩ [] (mTy cs) := hX
  refine r_byte hX hE (fun Y cB hX hE => ?_)
  refine r_new hX kinJ4 tyJ4_ok kl_X2_280 jn_J4 jt_J4 (show vwCl[1]? = _ from rfl) (fs := [.null, .int 0, .int 0, .int 0]) mJ4z (Nat.le_of_ble_eq_true rfl) (Nat.le_of_ble_eq_true rfl) dX2_textOf_0 (fun b => ?_)
  refine r_dup hX dX2_textOf_3 rfl ?_
  refine r_callI hX (c_sbInit cs cB b ws) ji_X2_282 (as := []) rfl rfl (Nat.le_of_ble_eq_true rfl) ⟨(Nat.le_of_ble_eq_true rfl), (Nat.le_of_ble_eq_true rfl)⟩ ⟨(Nat.le_of_ble_eq_true rfl), (Nat.le_of_ble_eq_true rfl)⟩ dX2_textOf_4 (fun v9 ws9 h8 => ?_)
  obtain ⟨rfl, v0, f0, hf0, hw9⟩ := h8
  subst ws9
  dsimp only [mPush]
  have fin2 : ∀ (d m v : Nat) (f : Nat → Int32) (kk nn : Nat), 1 ≤ d → ((m = 16 ∧ d ≤ 16) ∨ (m = 34 ∧ d ≤ 34)) → sb_Fit f → kk ≤ 25 → nn ≤ 1400 → mV Y 75 [(0, some (.long x)), (2, some (.ref b))] [] (mSb b v 0 d cB m f ws) kk nn := by
    intro d m v f kk nn h1 h2 hf hk hn
    refine r_aload_n hX dX2_textOf_75 rfl rfl ?_
    refine r_callV hX (c_sbReverse cs cB b v 0 d m f ws hf h1 (by omega) (by omega)) jv_X2_294 0 rfl rfl (as := []) rfl rfl (Nat.le_of_ble_eq_true rfl) ⟨(Nat.le_of_ble_eq_true rfl), (Nat.le_of_ble_eq_true rfl)⟩ ⟨by show kk + 0 ≤ 30; omega, by show nn + 0 ≤ 1500; omega⟩ dX2_textOf_76 (fun _ _ z => False.elim z) (fun v9 ws9 h8 => ?_)
    obtain ⟨rfl, f1, hf1, hw9⟩ := h8
    subst ws9
    dsimp only [mPush]
    refine r_callV hX (c_toString cs cB b v 0 d m f1 ws hf1 (by omega) (by omega)) jv_X2_298 0 rfl rfl (as := []) rfl rfl (Nat.le_of_ble_eq_true rfl) ⟨(Nat.le_of_ble_eq_true rfl), (Nat.le_of_ble_eq_true rfl)⟩ ⟨by show kk + 0 + 2 ≤ 30; omega, by show nn + 0 + 68 ≤ 1500; omega⟩ dX2_textOf_79 (fun _ _ z => False.elim z) (fun v9 ws9 h8 => ?_)
    obtain ⟨⟨s, rfl⟩, hw9⟩ := h8
    subst ws9
    dsimp only [mPush]
    exact r_aret hX hE dX2_textOf_82 (Or.inl ⟨_, rfl⟩) (Or.inr ⟨_, rfl⟩) (by show kk + 0 + 2 ≤ 30; omega) (by show nn + 0 + 68 ≤ 1500; omega) ⟨⟨s, rfl⟩, rfl⟩
  have fin : ∀ (d m v : Nat) (f : Nat → Int32) (kk nn : Nat), 1 ≤ d → d ≤ 19 → ((m = 16 ∧ d ≤ 16) ∨ (m = 34 ∧ d ≤ 34)) → sb_Fit f → kk ≤ 22 → nn ≤ 1250 → mV Y 62 [(0, some (.long x)), (2, some (.ref b))] [] (mSb b v 0 d cB m f ws) kk nn := by
    intro d m v f kk nn h1 h19 h2 hf hk hn
    refine r_lload_n hX dX2_textOf_62 rfl rfl ?_
    refine r_lconst (v := 0) hX dX2_textOf_63 (by decide) ?_
    refine r_lcmp hX dX2_textOf_64 ?_
    refine r_if_ge (tgt := 75) hX dX2_textOf_65 (by decide) (fun _ => fin2 d m v f kk nn h1 h2 hf (by omega) (by omega)) (fun _ => ?_)
    refine r_aload_n hX dX2_textOf_68 rfl rfl ?_
    refine r_bipush (v := nI 45) hX dX2_textOf_69 (by decide) ?_
    refine r_callV hX (c_sbAppendC cs cB b v 0 d m 45 f ws hf (by omega) (by omega) (by decide)) jv_X2_290 0 rfl rfl (as := [.int (nI 45)]) rfl rfl (Nat.le_of_ble_eq_true rfl) ⟨(Nat.le_of_ble_eq_true rfl), (Nat.le_of_ble_eq_true rfl)⟩ ⟨by show kk + 1 ≤ 30; omega, by show nn + 64 ≤ 1500; omega⟩ dX2_textOf_71 (fun _ _ z => False.elim z) (fun v9 ws9 h8 => ?_)
    obtain ⟨rfl, v1, f1, hf1, hw9⟩ := h8
    subst ws9
    dsimp only [mPush]
    refine r_pop hX dX2_textOf_74 rfl ?_
    exact fin2 (d + 1) _ v1 f1 _ _ (by omega) (by split <;> omega) hf1 (by show kk + 1 ≤ 25; omega) (by show nn + 64 ≤ 1400; omega)
  have L : ∀ (g d m v : Nat) (f : Nat → Int32) (y : Int64) (kk nn : Nat), 19 - d < g → d ≤ 19 → ((m = 16 ∧ d ≤ 16) ∨ (m = 34 ∧ d ≤ 34)) → sb_Fit f → kk ≤ 2 + d → nn ≤ 20 + 64 * d → mV Y 16 [(0, some (.long x)), (2, some (.ref b)), (3, some (.long y)), (5, some (.int (nI d)))] [] (mSb b v 0 d cB m f ws) kk nn := by
    intro g
    induction g with
    | zero => intro d; omega
    | succ g ih =>
      intro d m v f y kk nn hg h19 h2 hf hk hn
      refine r_iload hX dX2_textOf_16 rfl ?_
      refine r_bipush (v := nI 19) hX dX2_textOf_18 (by decide) ?_
      refine r_icmp_ge (tgt := 62) hX dX2_textOf_20 (by decide) (fun c9 => ?_) (fun c9 => ?_)
      · have h9 : 19 ≤ d := by
          rcases Nat.lt_or_ge d 19 with q | q
          · exact absurd c9 (show ¬ nI 19 ≤ nI d from fun z => absurd (nI_lt q (by decide)) (Int32.not_lt.mpr z))
          · exact q
        exact r_loc (k' := kk) (n' := nn) (by exact ⟨rfl, rfl, trivial⟩) (Nat.le_refl _) (Nat.le_refl _) (fin d m v f kk nn (by omega) h19 h2 hf (by omega) (by omega))
      · have h9 : d < 19 := by
          rcases Nat.lt_or_ge d 19 with q | q
          · exact q
          · exact absurd (nI_le q (by omega)) c9
        have body : mV Y 34 [(0, some (.long x)), (2, some (.ref b)), (3, some (.long y)), (5, some (.int (nI d)))] [] (mSb b v 0 d cB m f ws) kk nn := by
          refine r_aload_n hX dX2_textOf_34 rfl rfl ?_
          refine r_ldc2 hX kc_X2_286 dX2_textOf_35 ?_
          refine r_lload_n hX dX2_textOf_38 rfl rfl ?_
          refine r_ldc2 hX kc_X2_288 dX2_textOf_39 ?_
          refine r_lrem hX dX2_textOf_42 (by decide) ?_
          refine r_ladd hX dX2_textOf_43 ?_
          refine r_l2i hX dX2_textOf_44 ?_
          obtain ⟨c, hc, ec⟩ := mdig y
          refine r_i2c hX dX2_textOf_45 ec ?_
          refine r_callV hX (c_sbAppendC cs cB b v 0 d m c f ws hf (by omega) (by omega) hc) jv_X2_290 0 rfl rfl (as := [.int (nI c)]) rfl rfl (Nat.le_of_ble_eq_true rfl) ⟨(Nat.le_of_ble_eq_true rfl), (Nat.le_of_ble_eq_true rfl)⟩ ⟨by show kk + 1 ≤ 30; omega, by show nn + 64 ≤ 1500; omega⟩ dX2_textOf_46 (fun _ _ z => False.elim z) (fun v9 ws9 h8 => ?_)
          obtain ⟨rfl, v1, f1, hf1, hw9⟩ := h8
          subst ws9
          dsimp only [mPush]
          refine r_pop hX dX2_textOf_49 rfl ?_
          refine r_lload_n hX dX2_textOf_50 rfl rfl ?_
          refine r_ldc2 hX kc_X2_288 dX2_textOf_51 ?_
          refine r_ldiv hX dX2_textOf_54 (by decide) ?_
          refine r_lstore_n hX dX2_textOf_55 rfl (by decide) rfl ?_
          refine r_iinc hX dX2_textOf_56 rfl (by decide) rfl ?_
          refine r_goto (tgt := 16) hX dX2_textOf_59 (by decide) ?_
          exact r_loc (k' := _) (n' := _) (by exact ⟨rfl, rfl, rfl, nI_inc' _, trivial⟩) (Nat.le_refl _) (Nat.le_refl _) (ih (d + 1) _ v1 f1 _ _ _ (by omega) (by omega) (by split <;> omega) hf1 (by show kk + 1 ≤ 2 + (d + 1); omega) (by show nn + 64 ≤ 20 + 64 * (d + 1); omega))
        refine r_iload hX dX2_textOf_23 rfl ?_
        refine r_if_eq (tgt := 34) hX dX2_textOf_25 (by decide) (fun _ => body) (fun c8 => ?_)
        refine r_lload_n hX dX2_textOf_28 rfl rfl ?_
        refine r_lconst (v := 0) hX dX2_textOf_29 (by decide) ?_
        refine r_lcmp hX dX2_textOf_30 ?_
        refine r_if_le (tgt := 62) hX dX2_textOf_31 (by decide) (fun _ => ?_) (fun _ => body)
        have h0 : 1 ≤ d := by
          rcases Nat.eq_zero_or_pos d with q | q
          · subst q
            exact absurd rfl c8
          · exact q
        exact r_loc (k' := kk) (n' := nn) (by exact ⟨rfl, rfl, trivial⟩) (Nat.le_refl _) (Nat.le_refl _) (fin d m v f kk nn h0 h19 h2 hf (by omega) (by omega))
  refine r_astore_n hX dX2_textOf_7 rfl (by decide) rfl ?_
  refine r_lload_n hX dX2_textOf_8 rfl rfl ?_
  refine r_mabsl hX jl_X2_283 (Nat.le_of_ble_eq_true rfl) (Nat.le_of_ble_eq_true rfl) (Nat.le_of_ble_eq_true rfl) (Nat.le_of_ble_eq_true rfl) dX2_textOf_9 ?_
  refine r_lstore_n hX dX2_textOf_12 rfl (by decide) rfl ?_
  refine r_iconst (v := nI 0) hX dX2_textOf_13 (by decide) ?_
  refine r_istore hX dX2_textOf_14 (by decide) rfl ?_
  exact r_loc (k' := _) (n' := _) (by exact ⟨rfl, rfl, rfl, rfl, trivial⟩) (Nat.le_refl _) (Nat.le_refl _) (L 20 0 16 v0 f0 _ _ _ (by decide) (by decide) (Or.inl ⟨rfl, by decide⟩) hf0 (Nat.le_of_ble_eq_true rfl) (Nat.le_of_ble_eq_true rfl))

