-- 26 ref26
section
/-! The reference, its contracts (rows by a program of this repository). -/
theorem dX4_dateOf_w0 : (cX4_dateOf.data.toList.drop 0).take 64 = [42, 27, 184, 0, 61, 154, 0, 17, 28, 184, 0, 61, 154, 0, 10, 29, 184, 0, 61, 153, 0, 7, 4, 167, 0, 4, 3, 3, 182, 0, 68, 153, 0, 5, 3, 172, 42, 27, 9, 42, 180, 0, 13, 28, 47, 20, 0, 96, 184, 0, 92, 42, 180, 0, 7, 29, 46, 133, 97, 42, 180, 0, 13, 28] := by decide +kernel
theorem dX4_dateOf_w1 : (cX4_dateOf.data.toList.drop 64).take 64 = [47, 20, 0, 96, 184, 0, 102, 42, 180, 0, 7, 29, 46, 182, 0, 167, 172] := by decide +kernel
theorem dX4_dateOf_v0 : (cX4_dateOf.data.toList.drop 0).take 16 = [42, 27, 184, 0, 61, 154, 0, 17, 28, 184, 0, 61, 154, 0, 10, 29] := dq_sub (n := 0) (j := 0) dX4_dateOf_w0 (by decide) rfl
theorem dX4_dateOf_v1 : (cX4_dateOf.data.toList.drop 16).take 16 = [184, 0, 61, 153, 0, 7, 4, 167, 0, 4, 3, 3, 182, 0, 68, 153] := dq_sub (n := 0) (j := 16) dX4_dateOf_w0 (by decide) rfl
theorem dX4_dateOf_v2 : (cX4_dateOf.data.toList.drop 32).take 16 = [0, 5, 3, 172, 42, 27, 9, 42, 180, 0, 13, 28, 47, 20, 0, 96] := dq_sub (n := 0) (j := 32) dX4_dateOf_w0 (by decide) rfl
theorem dX4_dateOf_v3 : (cX4_dateOf.data.toList.drop 48).take 16 = [184, 0, 92, 42, 180, 0, 7, 29, 46, 133, 97, 42, 180, 0, 13, 28] := dq_sub (n := 0) (j := 48) dX4_dateOf_w0 (by decide) rfl
theorem dX4_dateOf_v4 : (cX4_dateOf.data.toList.drop 64).take 16 = [47, 20, 0, 96, 184, 0, 102, 42, 180, 0, 7, 29, 46, 182, 0, 167] := dq_sub (n := 64) (j := 0) dX4_dateOf_w1 (by decide) rfl
theorem dX4_dateOf_v5 : (cX4_dateOf.data.toList.drop 80).take 16 = [172] := dq_sub (n := 64) (j := 16) dX4_dateOf_w1 (by decide) rfl
theorem dX4_dateOf_0 : decode cX4_dateOf 0 = .ok (.aload_n 0, 1) := dk_42 (dq_lk dX4_dateOf_v0 (r := 0) (x := 42) rfl)
theorem dX4_dateOf_1 : decode cX4_dateOf 1 = .ok (.iload_n 1, 1) := dk_27 (dq_lk dX4_dateOf_v0 (r := 1) (x := 27) rfl)
theorem dX4_dateOf_2 : decode cX4_dateOf 2 = .ok (.invokestatic 61, 3) := dk_184 (dq_lk dX4_dateOf_v0 (r := 2) (x := 184) rfl) (dq_lk dX4_dateOf_v0 (r := 3) (x := 0) rfl) (dq_lk dX4_dateOf_v0 (r := 4) (x := 61) rfl)
theorem dX4_dateOf_5 : decode cX4_dateOf 5 = .ok (.ifCond .ne 17, 3) := dk_154 (dq_lk dX4_dateOf_v0 (r := 5) (x := 154) rfl) (dq_lk dX4_dateOf_v0 (r := 6) (x := 0) rfl) (dq_lk dX4_dateOf_v0 (r := 7) (x := 17) rfl) (by decide +kernel)
theorem dX4_dateOf_8 : decode cX4_dateOf 8 = .ok (.iload_n 2, 1) := dk_28 (dq_lk dX4_dateOf_v0 (r := 8) (x := 28) rfl)
theorem dX4_dateOf_9 : decode cX4_dateOf 9 = .ok (.invokestatic 61, 3) := dk_184 (dq_lk dX4_dateOf_v0 (r := 9) (x := 184) rfl) (dq_lk dX4_dateOf_v0 (r := 10) (x := 0) rfl) (dq_lk dX4_dateOf_v0 (r := 11) (x := 61) rfl)
theorem dX4_dateOf_12 : decode cX4_dateOf 12 = .ok (.ifCond .ne 10, 3) := dk_154 (dq_lk dX4_dateOf_v0 (r := 12) (x := 154) rfl) (dq_lk dX4_dateOf_v0 (r := 13) (x := 0) rfl) (dq_lk dX4_dateOf_v0 (r := 14) (x := 10) rfl) (by decide +kernel)
theorem dX4_dateOf_15 : decode cX4_dateOf 15 = .ok (.iload_n 3, 1) := dk_29 (dq_lk dX4_dateOf_v0 (r := 15) (x := 29) rfl)
theorem dX4_dateOf_16 : decode cX4_dateOf 16 = .ok (.invokestatic 61, 3) := dk_184 (dq_lk dX4_dateOf_v1 (r := 0) (x := 184) rfl) (dq_lk dX4_dateOf_v1 (r := 1) (x := 0) rfl) (dq_lk dX4_dateOf_v1 (r := 2) (x := 61) rfl)
theorem dX4_dateOf_19 : decode cX4_dateOf 19 = .ok (.ifCond .eq 7, 3) := dk_153 (dq_lk dX4_dateOf_v1 (r := 3) (x := 153) rfl) (dq_lk dX4_dateOf_v1 (r := 4) (x := 0) rfl) (dq_lk dX4_dateOf_v1 (r := 5) (x := 7) rfl) (by decide +kernel)
theorem dX4_dateOf_22 : decode cX4_dateOf 22 = .ok (.iconst 1, 1) := dk_4 (dq_lk dX4_dateOf_v1 (r := 6) (x := 4) rfl)
theorem dX4_dateOf_23 : decode cX4_dateOf 23 = .ok (.goto 4, 3) := dk_167 (dq_lk dX4_dateOf_v1 (r := 7) (x := 167) rfl) (dq_lk dX4_dateOf_v1 (r := 8) (x := 0) rfl) (dq_lk dX4_dateOf_v1 (r := 9) (x := 4) rfl) (by decide +kernel)
theorem dX4_dateOf_26 : decode cX4_dateOf 26 = .ok (.iconst 0, 1) := dk_3 (dq_lk dX4_dateOf_v1 (r := 10) (x := 3) rfl)
theorem dX4_dateOf_27 : decode cX4_dateOf 27 = .ok (.iconst 0, 1) := dk_3 (dq_lk dX4_dateOf_v1 (r := 11) (x := 3) rfl)
theorem dX4_dateOf_28 : decode cX4_dateOf 28 = .ok (.invokevirtual 68, 3) := dk_182 (dq_lk dX4_dateOf_v1 (r := 12) (x := 182) rfl) (dq_lk dX4_dateOf_v1 (r := 13) (x := 0) rfl) (dq_lk dX4_dateOf_v1 (r := 14) (x := 68) rfl)
theorem dX4_dateOf_31 : decode cX4_dateOf 31 = .ok (.ifCond .eq 5, 3) := dk_153 (dq_lk dX4_dateOf_v1 (r := 15) (x := 153) rfl) (dq_lk dX4_dateOf_v2 (r := 0) (x := 0) rfl) (dq_lk dX4_dateOf_v2 (r := 1) (x := 5) rfl) (by decide +kernel)
theorem dX4_dateOf_34 : decode cX4_dateOf 34 = .ok (.iconst 0, 1) := dk_3 (dq_lk dX4_dateOf_v2 (r := 2) (x := 3) rfl)
theorem dX4_dateOf_35 : decode cX4_dateOf 35 = .ok (.ireturn, 1) := dk_172 (dq_lk dX4_dateOf_v2 (r := 3) (x := 172) rfl)
theorem dX4_dateOf_36 : decode cX4_dateOf 36 = .ok (.aload_n 0, 1) := dk_42 (dq_lk dX4_dateOf_v2 (r := 4) (x := 42) rfl)
theorem dX4_dateOf_37 : decode cX4_dateOf 37 = .ok (.iload_n 1, 1) := dk_27 (dq_lk dX4_dateOf_v2 (r := 5) (x := 27) rfl)
theorem dX4_dateOf_38 : decode cX4_dateOf 38 = .ok (.lconst 0, 1) := dk_9 (dq_lk dX4_dateOf_v2 (r := 6) (x := 9) rfl)
theorem dX4_dateOf_39 : decode cX4_dateOf 39 = .ok (.aload_n 0, 1) := dk_42 (dq_lk dX4_dateOf_v2 (r := 7) (x := 42) rfl)
theorem dX4_dateOf_40 : decode cX4_dateOf 40 = .ok (.getfield 13, 3) := dk_180 (dq_lk dX4_dateOf_v2 (r := 8) (x := 180) rfl) (dq_lk dX4_dateOf_v2 (r := 9) (x := 0) rfl) (dq_lk dX4_dateOf_v2 (r := 10) (x := 13) rfl)
theorem dX4_dateOf_43 : decode cX4_dateOf 43 = .ok (.iload_n 2, 1) := dk_28 (dq_lk dX4_dateOf_v2 (r := 11) (x := 28) rfl)
theorem dX4_dateOf_44 : decode cX4_dateOf 44 = .ok (.laload, 1) := dk_47 (dq_lk dX4_dateOf_v2 (r := 12) (x := 47) rfl)
theorem dX4_dateOf_45 : decode cX4_dateOf 45 = .ok (.ldc2_w 96, 3) := dk_20 (dq_lk dX4_dateOf_v2 (r := 13) (x := 20) rfl) (dq_lk dX4_dateOf_v2 (r := 14) (x := 0) rfl) (dq_lk dX4_dateOf_v2 (r := 15) (x := 96) rfl)
theorem dX4_dateOf_48 : decode cX4_dateOf 48 = .ok (.invokestatic 92, 3) := dk_184 (dq_lk dX4_dateOf_v3 (r := 0) (x := 184) rfl) (dq_lk dX4_dateOf_v3 (r := 1) (x := 0) rfl) (dq_lk dX4_dateOf_v3 (r := 2) (x := 92) rfl)
theorem dX4_dateOf_51 : decode cX4_dateOf 51 = .ok (.aload_n 0, 1) := dk_42 (dq_lk dX4_dateOf_v3 (r := 3) (x := 42) rfl)
theorem dX4_dateOf_52 : decode cX4_dateOf 52 = .ok (.getfield 7, 3) := dk_180 (dq_lk dX4_dateOf_v3 (r := 4) (x := 180) rfl) (dq_lk dX4_dateOf_v3 (r := 5) (x := 0) rfl) (dq_lk dX4_dateOf_v3 (r := 6) (x := 7) rfl)
theorem dX4_dateOf_55 : decode cX4_dateOf 55 = .ok (.iload_n 3, 1) := dk_29 (dq_lk dX4_dateOf_v3 (r := 7) (x := 29) rfl)
theorem dX4_dateOf_56 : decode cX4_dateOf 56 = .ok (.iaload, 1) := dk_46 (dq_lk dX4_dateOf_v3 (r := 8) (x := 46) rfl)
theorem dX4_dateOf_57 : decode cX4_dateOf 57 = .ok (.i2l, 1) := dk_133 (dq_lk dX4_dateOf_v3 (r := 9) (x := 133) rfl)
theorem dX4_dateOf_58 : decode cX4_dateOf 58 = .ok (.ladd, 1) := dk_97 (dq_lk dX4_dateOf_v3 (r := 10) (x := 97) rfl)
theorem dX4_dateOf_59 : decode cX4_dateOf 59 = .ok (.aload_n 0, 1) := dk_42 (dq_lk dX4_dateOf_v3 (r := 11) (x := 42) rfl)
theorem dX4_dateOf_60 : decode cX4_dateOf 60 = .ok (.getfield 13, 3) := dk_180 (dq_lk dX4_dateOf_v3 (r := 12) (x := 180) rfl) (dq_lk dX4_dateOf_v3 (r := 13) (x := 0) rfl) (dq_lk dX4_dateOf_v3 (r := 14) (x := 13) rfl)
theorem dX4_dateOf_63 : decode cX4_dateOf 63 = .ok (.iload_n 2, 1) := dk_28 (dq_lk dX4_dateOf_v3 (r := 15) (x := 28) rfl)
theorem dX4_dateOf_64 : decode cX4_dateOf 64 = .ok (.laload, 1) := dk_47 (dq_lk dX4_dateOf_v4 (r := 0) (x := 47) rfl)
theorem dX4_dateOf_65 : decode cX4_dateOf 65 = .ok (.ldc2_w 96, 3) := dk_20 (dq_lk dX4_dateOf_v4 (r := 1) (x := 20) rfl) (dq_lk dX4_dateOf_v4 (r := 2) (x := 0) rfl) (dq_lk dX4_dateOf_v4 (r := 3) (x := 96) rfl)
theorem dX4_dateOf_68 : decode cX4_dateOf 68 = .ok (.invokestatic 102, 3) := dk_184 (dq_lk dX4_dateOf_v4 (r := 4) (x := 184) rfl) (dq_lk dX4_dateOf_v4 (r := 5) (x := 0) rfl) (dq_lk dX4_dateOf_v4 (r := 6) (x := 102) rfl)
theorem dX4_dateOf_71 : decode cX4_dateOf 71 = .ok (.aload_n 0, 1) := dk_42 (dq_lk dX4_dateOf_v4 (r := 7) (x := 42) rfl)
theorem dX4_dateOf_72 : decode cX4_dateOf 72 = .ok (.getfield 7, 3) := dk_180 (dq_lk dX4_dateOf_v4 (r := 8) (x := 180) rfl) (dq_lk dX4_dateOf_v4 (r := 9) (x := 0) rfl) (dq_lk dX4_dateOf_v4 (r := 10) (x := 7) rfl)
theorem dX4_dateOf_75 : decode cX4_dateOf 75 = .ok (.iload_n 3, 1) := dk_29 (dq_lk dX4_dateOf_v4 (r := 11) (x := 29) rfl)
theorem dX4_dateOf_76 : decode cX4_dateOf 76 = .ok (.iaload, 1) := dk_46 (dq_lk dX4_dateOf_v4 (r := 12) (x := 46) rfl)
theorem dX4_dateOf_77 : decode cX4_dateOf 77 = .ok (.invokevirtual 167, 3) := dk_182 (dq_lk dX4_dateOf_v4 (r := 13) (x := 182) rfl) (dq_lk dX4_dateOf_v4 (r := 14) (x := 0) rfl) (dq_lk dX4_dateOf_v4 (r := 15) (x := 167) rfl)
theorem dX4_dateOf_80 : decode cX4_dateOf 80 = .ok (.ireturn, 1) := dk_172 (dq_lk dX4_dateOf_v5 (r := 0) (x := 172) rfl)
theorem dX4_moveDate_w0 : (cX4_moveDate.data.toList.drop 0).take 64 = [42, 27, 184, 0, 61, 28, 133, 9, 20, 0, 183, 184, 0, 38, 154, 0, 7, 4, 167, 0, 4, 3, 182, 0, 68, 153, 0, 5, 3, 172, 21, 4, 153, 0, 9, 29, 133, 117, 167, 0, 5, 29, 133, 55, 5, 28, 5, 162, 0, 24, 42, 27, 28, 154, 0, 12, 20, 0, 151, 22, 5, 105, 167, 0] := by decide +kernel
theorem dX4_moveDate_w1 : (cX4_moveDate.data.toList.drop 64).take 64 = [5, 22, 5, 182, 0, 185, 172, 28, 7, 162, 0, 51, 42, 27, 42, 180, 0, 17, 27, 46, 133, 22, 5, 28, 5, 160, 0, 8, 16, 7, 167, 0, 4, 4, 133, 105, 97, 42, 180, 0, 20, 27, 46, 133, 42, 180, 0, 23, 27, 46, 42, 180, 0, 26, 27, 46, 182, 0, 167, 172, 42, 180, 0, 23] := by decide +kernel
theorem dX4_moveDate_w2 : (cX4_moveDate.data.toList.drop 128).take 64 = [27, 46, 133, 28, 16, 7, 160, 0, 8, 22, 5, 167, 0, 4, 9, 97, 55, 7, 42, 27, 42, 180, 0, 17, 27, 46, 133, 42, 180, 0, 20, 27, 46, 133, 22, 5, 28, 184, 0, 188, 133, 105, 97, 22, 7, 20, 0, 96, 184, 0, 92, 97, 22, 7, 20, 0, 96, 184, 0, 102, 42, 180, 0, 26] := by decide +kernel
theorem dX4_moveDate_w3 : (cX4_moveDate.data.toList.drop 192).take 64 = [27, 46, 182, 0, 167, 172] := by decide +kernel
theorem dX4_moveDate_v0 : (cX4_moveDate.data.toList.drop 0).take 16 = [42, 27, 184, 0, 61, 28, 133, 9, 20, 0, 183, 184, 0, 38, 154, 0] := dq_sub (n := 0) (j := 0) dX4_moveDate_w0 (by decide) rfl
theorem dX4_moveDate_v1 : (cX4_moveDate.data.toList.drop 16).take 16 = [7, 4, 167, 0, 4, 3, 182, 0, 68, 153, 0, 5, 3, 172, 21, 4] := dq_sub (n := 0) (j := 16) dX4_moveDate_w0 (by decide) rfl
theorem dX4_moveDate_v2 : (cX4_moveDate.data.toList.drop 32).take 16 = [153, 0, 9, 29, 133, 117, 167, 0, 5, 29, 133, 55, 5, 28, 5, 162] := dq_sub (n := 0) (j := 32) dX4_moveDate_w0 (by decide) rfl
theorem dX4_moveDate_v3 : (cX4_moveDate.data.toList.drop 48).take 16 = [0, 24, 42, 27, 28, 154, 0, 12, 20, 0, 151, 22, 5, 105, 167, 0] := dq_sub (n := 0) (j := 48) dX4_moveDate_w0 (by decide) rfl
theorem dX4_moveDate_v4 : (cX4_moveDate.data.toList.drop 64).take 16 = [5, 22, 5, 182, 0, 185, 172, 28, 7, 162, 0, 51, 42, 27, 42, 180] := dq_sub (n := 64) (j := 0) dX4_moveDate_w1 (by decide) rfl
theorem dX4_moveDate_v5 : (cX4_moveDate.data.toList.drop 80).take 16 = [0, 17, 27, 46, 133, 22, 5, 28, 5, 160, 0, 8, 16, 7, 167, 0] := dq_sub (n := 64) (j := 16) dX4_moveDate_w1 (by decide) rfl
theorem dX4_moveDate_v6 : (cX4_moveDate.data.toList.drop 96).take 16 = [4, 4, 133, 105, 97, 42, 180, 0, 20, 27, 46, 133, 42, 180, 0, 23] := dq_sub (n := 64) (j := 32) dX4_moveDate_w1 (by decide) rfl
theorem dX4_moveDate_v7 : (cX4_moveDate.data.toList.drop 112).take 16 = [27, 46, 42, 180, 0, 26, 27, 46, 182, 0, 167, 172, 42, 180, 0, 23] := dq_sub (n := 64) (j := 48) dX4_moveDate_w1 (by decide) rfl
theorem dX4_moveDate_v8 : (cX4_moveDate.data.toList.drop 128).take 16 = [27, 46, 133, 28, 16, 7, 160, 0, 8, 22, 5, 167, 0, 4, 9, 97] := dq_sub (n := 128) (j := 0) dX4_moveDate_w2 (by decide) rfl
theorem dX4_moveDate_v9 : (cX4_moveDate.data.toList.drop 144).take 16 = [55, 7, 42, 27, 42, 180, 0, 17, 27, 46, 133, 42, 180, 0, 20, 27] := dq_sub (n := 128) (j := 16) dX4_moveDate_w2 (by decide) rfl
theorem dX4_moveDate_v10 : (cX4_moveDate.data.toList.drop 160).take 16 = [46, 133, 22, 5, 28, 184, 0, 188, 133, 105, 97, 22, 7, 20, 0, 96] := dq_sub (n := 128) (j := 32) dX4_moveDate_w2 (by decide) rfl
theorem dX4_moveDate_v11 : (cX4_moveDate.data.toList.drop 176).take 16 = [184, 0, 92, 97, 22, 7, 20, 0, 96, 184, 0, 102, 42, 180, 0, 26] := dq_sub (n := 128) (j := 48) dX4_moveDate_w2 (by decide) rfl
theorem dX4_moveDate_v12 : (cX4_moveDate.data.toList.drop 192).take 16 = [27, 46, 182, 0, 167, 172] := dq_sub (n := 192) (j := 0) dX4_moveDate_w3 (by decide) rfl
theorem dX4_moveDate_0 : decode cX4_moveDate 0 = .ok (.aload_n 0, 1) := dk_42 (dq_lk dX4_moveDate_v0 (r := 0) (x := 42) rfl)
theorem dX4_moveDate_1 : decode cX4_moveDate 1 = .ok (.iload_n 1, 1) := dk_27 (dq_lk dX4_moveDate_v0 (r := 1) (x := 27) rfl)
theorem dX4_moveDate_2 : decode cX4_moveDate 2 = .ok (.invokestatic 61, 3) := dk_184 (dq_lk dX4_moveDate_v0 (r := 2) (x := 184) rfl) (dq_lk dX4_moveDate_v0 (r := 3) (x := 0) rfl) (dq_lk dX4_moveDate_v0 (r := 4) (x := 61) rfl)
theorem dX4_moveDate_5 : decode cX4_moveDate 5 = .ok (.iload_n 2, 1) := dk_28 (dq_lk dX4_moveDate_v0 (r := 5) (x := 28) rfl)
theorem dX4_moveDate_6 : decode cX4_moveDate 6 = .ok (.i2l, 1) := dk_133 (dq_lk dX4_moveDate_v0 (r := 6) (x := 133) rfl)
theorem dX4_moveDate_7 : decode cX4_moveDate 7 = .ok (.lconst 0, 1) := dk_9 (dq_lk dX4_moveDate_v0 (r := 7) (x := 9) rfl)
theorem dX4_moveDate_8 : decode cX4_moveDate 8 = .ok (.ldc2_w 183, 3) := dk_20 (dq_lk dX4_moveDate_v0 (r := 8) (x := 20) rfl) (dq_lk dX4_moveDate_v0 (r := 9) (x := 0) rfl) (dq_lk dX4_moveDate_v0 (r := 10) (x := 183) rfl)
theorem dX4_moveDate_11 : decode cX4_moveDate 11 = .ok (.invokestatic 38, 3) := dk_184 (dq_lk dX4_moveDate_v0 (r := 11) (x := 184) rfl) (dq_lk dX4_moveDate_v0 (r := 12) (x := 0) rfl) (dq_lk dX4_moveDate_v0 (r := 13) (x := 38) rfl)
theorem dX4_moveDate_14 : decode cX4_moveDate 14 = .ok (.ifCond .ne 7, 3) := dk_154 (dq_lk dX4_moveDate_v0 (r := 14) (x := 154) rfl) (dq_lk dX4_moveDate_v0 (r := 15) (x := 0) rfl) (dq_lk dX4_moveDate_v1 (r := 0) (x := 7) rfl) (by decide +kernel)
theorem dX4_moveDate_17 : decode cX4_moveDate 17 = .ok (.iconst 1, 1) := dk_4 (dq_lk dX4_moveDate_v1 (r := 1) (x := 4) rfl)
theorem dX4_moveDate_18 : decode cX4_moveDate 18 = .ok (.goto 4, 3) := dk_167 (dq_lk dX4_moveDate_v1 (r := 2) (x := 167) rfl) (dq_lk dX4_moveDate_v1 (r := 3) (x := 0) rfl) (dq_lk dX4_moveDate_v1 (r := 4) (x := 4) rfl) (by decide +kernel)
theorem dX4_moveDate_21 : decode cX4_moveDate 21 = .ok (.iconst 0, 1) := dk_3 (dq_lk dX4_moveDate_v1 (r := 5) (x := 3) rfl)
theorem dX4_moveDate_22 : decode cX4_moveDate 22 = .ok (.invokevirtual 68, 3) := dk_182 (dq_lk dX4_moveDate_v1 (r := 6) (x := 182) rfl) (dq_lk dX4_moveDate_v1 (r := 7) (x := 0) rfl) (dq_lk dX4_moveDate_v1 (r := 8) (x := 68) rfl)
theorem dX4_moveDate_25 : decode cX4_moveDate 25 = .ok (.ifCond .eq 5, 3) := dk_153 (dq_lk dX4_moveDate_v1 (r := 9) (x := 153) rfl) (dq_lk dX4_moveDate_v1 (r := 10) (x := 0) rfl) (dq_lk dX4_moveDate_v1 (r := 11) (x := 5) rfl) (by decide +kernel)
theorem dX4_moveDate_28 : decode cX4_moveDate 28 = .ok (.iconst 0, 1) := dk_3 (dq_lk dX4_moveDate_v1 (r := 12) (x := 3) rfl)
theorem dX4_moveDate_29 : decode cX4_moveDate 29 = .ok (.ireturn, 1) := dk_172 (dq_lk dX4_moveDate_v1 (r := 13) (x := 172) rfl)
theorem dX4_moveDate_30 : decode cX4_moveDate 30 = .ok (.iload 4, 2) := dk_21 (dq_lk dX4_moveDate_v1 (r := 14) (x := 21) rfl) (dq_lk dX4_moveDate_v1 (r := 15) (x := 4) rfl)
theorem dX4_moveDate_32 : decode cX4_moveDate 32 = .ok (.ifCond .eq 9, 3) := dk_153 (dq_lk dX4_moveDate_v2 (r := 0) (x := 153) rfl) (dq_lk dX4_moveDate_v2 (r := 1) (x := 0) rfl) (dq_lk dX4_moveDate_v2 (r := 2) (x := 9) rfl) (by decide +kernel)
theorem dX4_moveDate_35 : decode cX4_moveDate 35 = .ok (.iload_n 3, 1) := dk_29 (dq_lk dX4_moveDate_v2 (r := 3) (x := 29) rfl)
theorem dX4_moveDate_36 : decode cX4_moveDate 36 = .ok (.i2l, 1) := dk_133 (dq_lk dX4_moveDate_v2 (r := 4) (x := 133) rfl)
theorem dX4_moveDate_37 : decode cX4_moveDate 37 = .ok (.lneg, 1) := dk_117 (dq_lk dX4_moveDate_v2 (r := 5) (x := 117) rfl)
theorem dX4_moveDate_38 : decode cX4_moveDate 38 = .ok (.goto 5, 3) := dk_167 (dq_lk dX4_moveDate_v2 (r := 6) (x := 167) rfl) (dq_lk dX4_moveDate_v2 (r := 7) (x := 0) rfl) (dq_lk dX4_moveDate_v2 (r := 8) (x := 5) rfl) (by decide +kernel)
theorem dX4_moveDate_41 : decode cX4_moveDate 41 = .ok (.iload_n 3, 1) := dk_29 (dq_lk dX4_moveDate_v2 (r := 9) (x := 29) rfl)
theorem dX4_moveDate_42 : decode cX4_moveDate 42 = .ok (.i2l, 1) := dk_133 (dq_lk dX4_moveDate_v2 (r := 10) (x := 133) rfl)
theorem dX4_moveDate_43 : decode cX4_moveDate 43 = .ok (.lstore 5, 2) := dk_55 (dq_lk dX4_moveDate_v2 (r := 11) (x := 55) rfl) (dq_lk dX4_moveDate_v2 (r := 12) (x := 5) rfl)
theorem dX4_moveDate_45 : decode cX4_moveDate 45 = .ok (.iload_n 2, 1) := dk_28 (dq_lk dX4_moveDate_v2 (r := 13) (x := 28) rfl)
theorem dX4_moveDate_46 : decode cX4_moveDate 46 = .ok (.iconst 2, 1) := dk_5 (dq_lk dX4_moveDate_v2 (r := 14) (x := 5) rfl)
theorem dX4_moveDate_47 : decode cX4_moveDate 47 = .ok (.if_icmp .ge 24, 3) := dk_162 (dq_lk dX4_moveDate_v2 (r := 15) (x := 162) rfl) (dq_lk dX4_moveDate_v3 (r := 0) (x := 0) rfl) (dq_lk dX4_moveDate_v3 (r := 1) (x := 24) rfl) (by decide +kernel)
theorem dX4_moveDate_50 : decode cX4_moveDate 50 = .ok (.aload_n 0, 1) := dk_42 (dq_lk dX4_moveDate_v3 (r := 2) (x := 42) rfl)
theorem dX4_moveDate_51 : decode cX4_moveDate 51 = .ok (.iload_n 1, 1) := dk_27 (dq_lk dX4_moveDate_v3 (r := 3) (x := 27) rfl)
theorem dX4_moveDate_52 : decode cX4_moveDate 52 = .ok (.iload_n 2, 1) := dk_28 (dq_lk dX4_moveDate_v3 (r := 4) (x := 28) rfl)
theorem dX4_moveDate_53 : decode cX4_moveDate 53 = .ok (.ifCond .ne 12, 3) := dk_154 (dq_lk dX4_moveDate_v3 (r := 5) (x := 154) rfl) (dq_lk dX4_moveDate_v3 (r := 6) (x := 0) rfl) (dq_lk dX4_moveDate_v3 (r := 7) (x := 12) rfl) (by decide +kernel)
theorem dX4_moveDate_56 : decode cX4_moveDate 56 = .ok (.ldc2_w 151, 3) := dk_20 (dq_lk dX4_moveDate_v3 (r := 8) (x := 20) rfl) (dq_lk dX4_moveDate_v3 (r := 9) (x := 0) rfl) (dq_lk dX4_moveDate_v3 (r := 10) (x := 151) rfl)
theorem dX4_moveDate_59 : decode cX4_moveDate 59 = .ok (.lload 5, 2) := dk_22 (dq_lk dX4_moveDate_v3 (r := 11) (x := 22) rfl) (dq_lk dX4_moveDate_v3 (r := 12) (x := 5) rfl)
theorem dX4_moveDate_61 : decode cX4_moveDate 61 = .ok (.lmul, 1) := dk_105 (dq_lk dX4_moveDate_v3 (r := 13) (x := 105) rfl)
theorem dX4_moveDate_62 : decode cX4_moveDate 62 = .ok (.goto 5, 3) := dk_167 (dq_lk dX4_moveDate_v3 (r := 14) (x := 167) rfl) (dq_lk dX4_moveDate_v3 (r := 15) (x := 0) rfl) (dq_lk dX4_moveDate_v4 (r := 0) (x := 5) rfl) (by decide +kernel)
theorem dX4_moveDate_65 : decode cX4_moveDate 65 = .ok (.lload 5, 2) := dk_22 (dq_lk dX4_moveDate_v4 (r := 1) (x := 22) rfl) (dq_lk dX4_moveDate_v4 (r := 2) (x := 5) rfl)
theorem dX4_moveDate_67 : decode cX4_moveDate 67 = .ok (.invokevirtual 185, 3) := dk_182 (dq_lk dX4_moveDate_v4 (r := 3) (x := 182) rfl) (dq_lk dX4_moveDate_v4 (r := 4) (x := 0) rfl) (dq_lk dX4_moveDate_v4 (r := 5) (x := 185) rfl)
theorem dX4_moveDate_70 : decode cX4_moveDate 70 = .ok (.ireturn, 1) := dk_172 (dq_lk dX4_moveDate_v4 (r := 6) (x := 172) rfl)
theorem dX4_moveDate_71 : decode cX4_moveDate 71 = .ok (.iload_n 2, 1) := dk_28 (dq_lk dX4_moveDate_v4 (r := 7) (x := 28) rfl)
theorem dX4_moveDate_72 : decode cX4_moveDate 72 = .ok (.iconst 4, 1) := dk_7 (dq_lk dX4_moveDate_v4 (r := 8) (x := 7) rfl)
theorem dX4_moveDate_73 : decode cX4_moveDate 73 = .ok (.if_icmp .ge 51, 3) := dk_162 (dq_lk dX4_moveDate_v4 (r := 9) (x := 162) rfl) (dq_lk dX4_moveDate_v4 (r := 10) (x := 0) rfl) (dq_lk dX4_moveDate_v4 (r := 11) (x := 51) rfl) (by decide +kernel)
theorem dX4_moveDate_76 : decode cX4_moveDate 76 = .ok (.aload_n 0, 1) := dk_42 (dq_lk dX4_moveDate_v4 (r := 12) (x := 42) rfl)
theorem dX4_moveDate_77 : decode cX4_moveDate 77 = .ok (.iload_n 1, 1) := dk_27 (dq_lk dX4_moveDate_v4 (r := 13) (x := 27) rfl)
theorem dX4_moveDate_78 : decode cX4_moveDate 78 = .ok (.aload_n 0, 1) := dk_42 (dq_lk dX4_moveDate_v4 (r := 14) (x := 42) rfl)
theorem dX4_moveDate_79 : decode cX4_moveDate 79 = .ok (.getfield 17, 3) := dk_180 (dq_lk dX4_moveDate_v4 (r := 15) (x := 180) rfl) (dq_lk dX4_moveDate_v5 (r := 0) (x := 0) rfl) (dq_lk dX4_moveDate_v5 (r := 1) (x := 17) rfl)
theorem dX4_moveDate_82 : decode cX4_moveDate 82 = .ok (.iload_n 1, 1) := dk_27 (dq_lk dX4_moveDate_v5 (r := 2) (x := 27) rfl)
theorem dX4_moveDate_83 : decode cX4_moveDate 83 = .ok (.iaload, 1) := dk_46 (dq_lk dX4_moveDate_v5 (r := 3) (x := 46) rfl)
theorem dX4_moveDate_84 : decode cX4_moveDate 84 = .ok (.i2l, 1) := dk_133 (dq_lk dX4_moveDate_v5 (r := 4) (x := 133) rfl)
theorem dX4_moveDate_85 : decode cX4_moveDate 85 = .ok (.lload 5, 2) := dk_22 (dq_lk dX4_moveDate_v5 (r := 5) (x := 22) rfl) (dq_lk dX4_moveDate_v5 (r := 6) (x := 5) rfl)
theorem dX4_moveDate_87 : decode cX4_moveDate 87 = .ok (.iload_n 2, 1) := dk_28 (dq_lk dX4_moveDate_v5 (r := 7) (x := 28) rfl)
theorem dX4_moveDate_88 : decode cX4_moveDate 88 = .ok (.iconst 2, 1) := dk_5 (dq_lk dX4_moveDate_v5 (r := 8) (x := 5) rfl)
theorem dX4_moveDate_89 : decode cX4_moveDate 89 = .ok (.if_icmp .ne 8, 3) := dk_160 (dq_lk dX4_moveDate_v5 (r := 9) (x := 160) rfl) (dq_lk dX4_moveDate_v5 (r := 10) (x := 0) rfl) (dq_lk dX4_moveDate_v5 (r := 11) (x := 8) rfl) (by decide +kernel)
theorem dX4_moveDate_92 : decode cX4_moveDate 92 = .ok (.bipush 7, 2) := dk_16 (dq_lk dX4_moveDate_v5 (r := 12) (x := 16) rfl) (dq_lk dX4_moveDate_v5 (r := 13) (x := 7) rfl) (by decide +kernel)
theorem dX4_moveDate_94 : decode cX4_moveDate 94 = .ok (.goto 4, 3) := dk_167 (dq_lk dX4_moveDate_v5 (r := 14) (x := 167) rfl) (dq_lk dX4_moveDate_v5 (r := 15) (x := 0) rfl) (dq_lk dX4_moveDate_v6 (r := 0) (x := 4) rfl) (by decide +kernel)
theorem dX4_moveDate_97 : decode cX4_moveDate 97 = .ok (.iconst 1, 1) := dk_4 (dq_lk dX4_moveDate_v6 (r := 1) (x := 4) rfl)
theorem dX4_moveDate_98 : decode cX4_moveDate 98 = .ok (.i2l, 1) := dk_133 (dq_lk dX4_moveDate_v6 (r := 2) (x := 133) rfl)
theorem dX4_moveDate_99 : decode cX4_moveDate 99 = .ok (.lmul, 1) := dk_105 (dq_lk dX4_moveDate_v6 (r := 3) (x := 105) rfl)
theorem dX4_moveDate_100 : decode cX4_moveDate 100 = .ok (.ladd, 1) := dk_97 (dq_lk dX4_moveDate_v6 (r := 4) (x := 97) rfl)
theorem dX4_moveDate_101 : decode cX4_moveDate 101 = .ok (.aload_n 0, 1) := dk_42 (dq_lk dX4_moveDate_v6 (r := 5) (x := 42) rfl)
theorem dX4_moveDate_102 : decode cX4_moveDate 102 = .ok (.getfield 20, 3) := dk_180 (dq_lk dX4_moveDate_v6 (r := 6) (x := 180) rfl) (dq_lk dX4_moveDate_v6 (r := 7) (x := 0) rfl) (dq_lk dX4_moveDate_v6 (r := 8) (x := 20) rfl)
theorem dX4_moveDate_105 : decode cX4_moveDate 105 = .ok (.iload_n 1, 1) := dk_27 (dq_lk dX4_moveDate_v6 (r := 9) (x := 27) rfl)
theorem dX4_moveDate_106 : decode cX4_moveDate 106 = .ok (.iaload, 1) := dk_46 (dq_lk dX4_moveDate_v6 (r := 10) (x := 46) rfl)
theorem dX4_moveDate_107 : decode cX4_moveDate 107 = .ok (.i2l, 1) := dk_133 (dq_lk dX4_moveDate_v6 (r := 11) (x := 133) rfl)
theorem dX4_moveDate_108 : decode cX4_moveDate 108 = .ok (.aload_n 0, 1) := dk_42 (dq_lk dX4_moveDate_v6 (r := 12) (x := 42) rfl)
theorem dX4_moveDate_109 : decode cX4_moveDate 109 = .ok (.getfield 23, 3) := dk_180 (dq_lk dX4_moveDate_v6 (r := 13) (x := 180) rfl) (dq_lk dX4_moveDate_v6 (r := 14) (x := 0) rfl) (dq_lk dX4_moveDate_v6 (r := 15) (x := 23) rfl)
theorem dX4_moveDate_112 : decode cX4_moveDate 112 = .ok (.iload_n 1, 1) := dk_27 (dq_lk dX4_moveDate_v7 (r := 0) (x := 27) rfl)
theorem dX4_moveDate_113 : decode cX4_moveDate 113 = .ok (.iaload, 1) := dk_46 (dq_lk dX4_moveDate_v7 (r := 1) (x := 46) rfl)
theorem dX4_moveDate_114 : decode cX4_moveDate 114 = .ok (.aload_n 0, 1) := dk_42 (dq_lk dX4_moveDate_v7 (r := 2) (x := 42) rfl)
theorem dX4_moveDate_115 : decode cX4_moveDate 115 = .ok (.getfield 26, 3) := dk_180 (dq_lk dX4_moveDate_v7 (r := 3) (x := 180) rfl) (dq_lk dX4_moveDate_v7 (r := 4) (x := 0) rfl) (dq_lk dX4_moveDate_v7 (r := 5) (x := 26) rfl)
theorem dX4_moveDate_118 : decode cX4_moveDate 118 = .ok (.iload_n 1, 1) := dk_27 (dq_lk dX4_moveDate_v7 (r := 6) (x := 27) rfl)
theorem dX4_moveDate_119 : decode cX4_moveDate 119 = .ok (.iaload, 1) := dk_46 (dq_lk dX4_moveDate_v7 (r := 7) (x := 46) rfl)
theorem dX4_moveDate_120 : decode cX4_moveDate 120 = .ok (.invokevirtual 167, 3) := dk_182 (dq_lk dX4_moveDate_v7 (r := 8) (x := 182) rfl) (dq_lk dX4_moveDate_v7 (r := 9) (x := 0) rfl) (dq_lk dX4_moveDate_v7 (r := 10) (x := 167) rfl)
theorem dX4_moveDate_123 : decode cX4_moveDate 123 = .ok (.ireturn, 1) := dk_172 (dq_lk dX4_moveDate_v7 (r := 11) (x := 172) rfl)
theorem dX4_moveDate_124 : decode cX4_moveDate 124 = .ok (.aload_n 0, 1) := dk_42 (dq_lk dX4_moveDate_v7 (r := 12) (x := 42) rfl)
theorem dX4_moveDate_125 : decode cX4_moveDate 125 = .ok (.getfield 23, 3) := dk_180 (dq_lk dX4_moveDate_v7 (r := 13) (x := 180) rfl) (dq_lk dX4_moveDate_v7 (r := 14) (x := 0) rfl) (dq_lk dX4_moveDate_v7 (r := 15) (x := 23) rfl)
theorem dX4_moveDate_128 : decode cX4_moveDate 128 = .ok (.iload_n 1, 1) := dk_27 (dq_lk dX4_moveDate_v8 (r := 0) (x := 27) rfl)
theorem dX4_moveDate_129 : decode cX4_moveDate 129 = .ok (.iaload, 1) := dk_46 (dq_lk dX4_moveDate_v8 (r := 1) (x := 46) rfl)
theorem dX4_moveDate_130 : decode cX4_moveDate 130 = .ok (.i2l, 1) := dk_133 (dq_lk dX4_moveDate_v8 (r := 2) (x := 133) rfl)
theorem dX4_moveDate_131 : decode cX4_moveDate 131 = .ok (.iload_n 2, 1) := dk_28 (dq_lk dX4_moveDate_v8 (r := 3) (x := 28) rfl)
theorem dX4_moveDate_132 : decode cX4_moveDate 132 = .ok (.bipush 7, 2) := dk_16 (dq_lk dX4_moveDate_v8 (r := 4) (x := 16) rfl) (dq_lk dX4_moveDate_v8 (r := 5) (x := 7) rfl) (by decide +kernel)
theorem dX4_moveDate_134 : decode cX4_moveDate 134 = .ok (.if_icmp .ne 8, 3) := dk_160 (dq_lk dX4_moveDate_v8 (r := 6) (x := 160) rfl) (dq_lk dX4_moveDate_v8 (r := 7) (x := 0) rfl) (dq_lk dX4_moveDate_v8 (r := 8) (x := 8) rfl) (by decide +kernel)
theorem dX4_moveDate_137 : decode cX4_moveDate 137 = .ok (.lload 5, 2) := dk_22 (dq_lk dX4_moveDate_v8 (r := 9) (x := 22) rfl) (dq_lk dX4_moveDate_v8 (r := 10) (x := 5) rfl)
theorem dX4_moveDate_139 : decode cX4_moveDate 139 = .ok (.goto 4, 3) := dk_167 (dq_lk dX4_moveDate_v8 (r := 11) (x := 167) rfl) (dq_lk dX4_moveDate_v8 (r := 12) (x := 0) rfl) (dq_lk dX4_moveDate_v8 (r := 13) (x := 4) rfl) (by decide +kernel)
theorem dX4_moveDate_142 : decode cX4_moveDate 142 = .ok (.lconst 0, 1) := dk_9 (dq_lk dX4_moveDate_v8 (r := 14) (x := 9) rfl)
theorem dX4_moveDate_143 : decode cX4_moveDate 143 = .ok (.ladd, 1) := dk_97 (dq_lk dX4_moveDate_v8 (r := 15) (x := 97) rfl)
theorem dX4_moveDate_144 : decode cX4_moveDate 144 = .ok (.lstore 7, 2) := dk_55 (dq_lk dX4_moveDate_v9 (r := 0) (x := 55) rfl) (dq_lk dX4_moveDate_v9 (r := 1) (x := 7) rfl)
theorem dX4_moveDate_146 : decode cX4_moveDate 146 = .ok (.aload_n 0, 1) := dk_42 (dq_lk dX4_moveDate_v9 (r := 2) (x := 42) rfl)
theorem dX4_moveDate_147 : decode cX4_moveDate 147 = .ok (.iload_n 1, 1) := dk_27 (dq_lk dX4_moveDate_v9 (r := 3) (x := 27) rfl)
theorem dX4_moveDate_148 : decode cX4_moveDate 148 = .ok (.aload_n 0, 1) := dk_42 (dq_lk dX4_moveDate_v9 (r := 4) (x := 42) rfl)
theorem dX4_moveDate_149 : decode cX4_moveDate 149 = .ok (.getfield 17, 3) := dk_180 (dq_lk dX4_moveDate_v9 (r := 5) (x := 180) rfl) (dq_lk dX4_moveDate_v9 (r := 6) (x := 0) rfl) (dq_lk dX4_moveDate_v9 (r := 7) (x := 17) rfl)
theorem dX4_moveDate_152 : decode cX4_moveDate 152 = .ok (.iload_n 1, 1) := dk_27 (dq_lk dX4_moveDate_v9 (r := 8) (x := 27) rfl)
theorem dX4_moveDate_153 : decode cX4_moveDate 153 = .ok (.iaload, 1) := dk_46 (dq_lk dX4_moveDate_v9 (r := 9) (x := 46) rfl)
theorem dX4_moveDate_154 : decode cX4_moveDate 154 = .ok (.i2l, 1) := dk_133 (dq_lk dX4_moveDate_v9 (r := 10) (x := 133) rfl)
theorem dX4_moveDate_155 : decode cX4_moveDate 155 = .ok (.aload_n 0, 1) := dk_42 (dq_lk dX4_moveDate_v9 (r := 11) (x := 42) rfl)
theorem dX4_moveDate_156 : decode cX4_moveDate 156 = .ok (.getfield 20, 3) := dk_180 (dq_lk dX4_moveDate_v9 (r := 12) (x := 180) rfl) (dq_lk dX4_moveDate_v9 (r := 13) (x := 0) rfl) (dq_lk dX4_moveDate_v9 (r := 14) (x := 20) rfl)
theorem dX4_moveDate_159 : decode cX4_moveDate 159 = .ok (.iload_n 1, 1) := dk_27 (dq_lk dX4_moveDate_v9 (r := 15) (x := 27) rfl)
theorem dX4_moveDate_160 : decode cX4_moveDate 160 = .ok (.iaload, 1) := dk_46 (dq_lk dX4_moveDate_v10 (r := 0) (x := 46) rfl)
theorem dX4_moveDate_161 : decode cX4_moveDate 161 = .ok (.i2l, 1) := dk_133 (dq_lk dX4_moveDate_v10 (r := 1) (x := 133) rfl)
theorem dX4_moveDate_162 : decode cX4_moveDate 162 = .ok (.lload 5, 2) := dk_22 (dq_lk dX4_moveDate_v10 (r := 2) (x := 22) rfl) (dq_lk dX4_moveDate_v10 (r := 3) (x := 5) rfl)
theorem dX4_moveDate_164 : decode cX4_moveDate 164 = .ok (.iload_n 2, 1) := dk_28 (dq_lk dX4_moveDate_v10 (r := 4) (x := 28) rfl)
theorem dX4_moveDate_165 : decode cX4_moveDate 165 = .ok (.invokestatic 188, 3) := dk_184 (dq_lk dX4_moveDate_v10 (r := 5) (x := 184) rfl) (dq_lk dX4_moveDate_v10 (r := 6) (x := 0) rfl) (dq_lk dX4_moveDate_v10 (r := 7) (x := 188) rfl)
theorem dX4_moveDate_168 : decode cX4_moveDate 168 = .ok (.i2l, 1) := dk_133 (dq_lk dX4_moveDate_v10 (r := 8) (x := 133) rfl)
theorem dX4_moveDate_169 : decode cX4_moveDate 169 = .ok (.lmul, 1) := dk_105 (dq_lk dX4_moveDate_v10 (r := 9) (x := 105) rfl)
theorem dX4_moveDate_170 : decode cX4_moveDate 170 = .ok (.ladd, 1) := dk_97 (dq_lk dX4_moveDate_v10 (r := 10) (x := 97) rfl)
theorem dX4_moveDate_171 : decode cX4_moveDate 171 = .ok (.lload 7, 2) := dk_22 (dq_lk dX4_moveDate_v10 (r := 11) (x := 22) rfl) (dq_lk dX4_moveDate_v10 (r := 12) (x := 7) rfl)
theorem dX4_moveDate_173 : decode cX4_moveDate 173 = .ok (.ldc2_w 96, 3) := dk_20 (dq_lk dX4_moveDate_v10 (r := 13) (x := 20) rfl) (dq_lk dX4_moveDate_v10 (r := 14) (x := 0) rfl) (dq_lk dX4_moveDate_v10 (r := 15) (x := 96) rfl)
theorem dX4_moveDate_176 : decode cX4_moveDate 176 = .ok (.invokestatic 92, 3) := dk_184 (dq_lk dX4_moveDate_v11 (r := 0) (x := 184) rfl) (dq_lk dX4_moveDate_v11 (r := 1) (x := 0) rfl) (dq_lk dX4_moveDate_v11 (r := 2) (x := 92) rfl)
theorem dX4_moveDate_179 : decode cX4_moveDate 179 = .ok (.ladd, 1) := dk_97 (dq_lk dX4_moveDate_v11 (r := 3) (x := 97) rfl)
theorem dX4_moveDate_180 : decode cX4_moveDate 180 = .ok (.lload 7, 2) := dk_22 (dq_lk dX4_moveDate_v11 (r := 4) (x := 22) rfl) (dq_lk dX4_moveDate_v11 (r := 5) (x := 7) rfl)
theorem dX4_moveDate_182 : decode cX4_moveDate 182 = .ok (.ldc2_w 96, 3) := dk_20 (dq_lk dX4_moveDate_v11 (r := 6) (x := 20) rfl) (dq_lk dX4_moveDate_v11 (r := 7) (x := 0) rfl) (dq_lk dX4_moveDate_v11 (r := 8) (x := 96) rfl)
theorem dX4_moveDate_185 : decode cX4_moveDate 185 = .ok (.invokestatic 102, 3) := dk_184 (dq_lk dX4_moveDate_v11 (r := 9) (x := 184) rfl) (dq_lk dX4_moveDate_v11 (r := 10) (x := 0) rfl) (dq_lk dX4_moveDate_v11 (r := 11) (x := 102) rfl)
theorem dX4_moveDate_188 : decode cX4_moveDate 188 = .ok (.aload_n 0, 1) := dk_42 (dq_lk dX4_moveDate_v11 (r := 12) (x := 42) rfl)
theorem dX4_moveDate_189 : decode cX4_moveDate 189 = .ok (.getfield 26, 3) := dk_180 (dq_lk dX4_moveDate_v11 (r := 13) (x := 180) rfl) (dq_lk dX4_moveDate_v11 (r := 14) (x := 0) rfl) (dq_lk dX4_moveDate_v11 (r := 15) (x := 26) rfl)
theorem dX4_moveDate_192 : decode cX4_moveDate 192 = .ok (.iload_n 1, 1) := dk_27 (dq_lk dX4_moveDate_v12 (r := 0) (x := 27) rfl)
theorem dX4_moveDate_193 : decode cX4_moveDate 193 = .ok (.iaload, 1) := dk_46 (dq_lk dX4_moveDate_v12 (r := 1) (x := 46) rfl)
theorem dX4_moveDate_194 : decode cX4_moveDate 194 = .ok (.invokevirtual 167, 3) := dk_182 (dq_lk dX4_moveDate_v12 (r := 2) (x := 182) rfl) (dq_lk dX4_moveDate_v12 (r := 3) (x := 0) rfl) (dq_lk dX4_moveDate_v12 (r := 4) (x := 167) rfl)
theorem dX4_moveDate_197 : decode cX4_moveDate 197 = .ok (.ireturn, 1) := dk_172 (dq_lk dX4_moveDate_v12 (r := 5) (x := 172) rfl)
theorem dX4_anew_w0 : (cX4_anew.data.toList.drop 0).take 64 = [42, 27, 184, 0, 61, 154, 0, 10, 28, 184, 0, 61, 153, 0, 7, 4, 167, 0, 4, 3, 3, 182, 0, 68, 153, 0, 5, 3, 172, 29, 153, 0, 7, 3, 167, 0, 16, 42, 180, 0, 7, 28, 46, 42, 180, 0, 26, 27, 46, 100, 54, 4, 42, 27, 42, 180, 0, 17, 27, 46, 133, 42, 180, 0] := by decide +kernel
theorem dX4_anew_w1 : (cX4_anew.data.toList.drop 64).take 64 = [20, 27, 46, 133, 21, 4, 133, 97, 42, 180, 0, 23, 27, 46, 42, 180, 0, 7, 28, 46, 182, 0, 167, 172] := by decide +kernel
theorem dX4_anew_v0 : (cX4_anew.data.toList.drop 0).take 16 = [42, 27, 184, 0, 61, 154, 0, 10, 28, 184, 0, 61, 153, 0, 7, 4] := dq_sub (n := 0) (j := 0) dX4_anew_w0 (by decide) rfl
theorem dX4_anew_v1 : (cX4_anew.data.toList.drop 16).take 16 = [167, 0, 4, 3, 3, 182, 0, 68, 153, 0, 5, 3, 172, 29, 153, 0] := dq_sub (n := 0) (j := 16) dX4_anew_w0 (by decide) rfl
theorem dX4_anew_v2 : (cX4_anew.data.toList.drop 32).take 16 = [7, 3, 167, 0, 16, 42, 180, 0, 7, 28, 46, 42, 180, 0, 26, 27] := dq_sub (n := 0) (j := 32) dX4_anew_w0 (by decide) rfl
theorem dX4_anew_v3 : (cX4_anew.data.toList.drop 48).take 16 = [46, 100, 54, 4, 42, 27, 42, 180, 0, 17, 27, 46, 133, 42, 180, 0] := dq_sub (n := 0) (j := 48) dX4_anew_w0 (by decide) rfl
theorem dX4_anew_v4 : (cX4_anew.data.toList.drop 64).take 16 = [20, 27, 46, 133, 21, 4, 133, 97, 42, 180, 0, 23, 27, 46, 42, 180] := dq_sub (n := 64) (j := 0) dX4_anew_w1 (by decide) rfl
theorem dX4_anew_v5 : (cX4_anew.data.toList.drop 80).take 16 = [0, 7, 28, 46, 182, 0, 167, 172] := dq_sub (n := 64) (j := 16) dX4_anew_w1 (by decide) rfl
theorem dX4_anew_0 : decode cX4_anew 0 = .ok (.aload_n 0, 1) := dk_42 (dq_lk dX4_anew_v0 (r := 0) (x := 42) rfl)
theorem dX4_anew_1 : decode cX4_anew 1 = .ok (.iload_n 1, 1) := dk_27 (dq_lk dX4_anew_v0 (r := 1) (x := 27) rfl)
theorem dX4_anew_2 : decode cX4_anew 2 = .ok (.invokestatic 61, 3) := dk_184 (dq_lk dX4_anew_v0 (r := 2) (x := 184) rfl) (dq_lk dX4_anew_v0 (r := 3) (x := 0) rfl) (dq_lk dX4_anew_v0 (r := 4) (x := 61) rfl)
theorem dX4_anew_5 : decode cX4_anew 5 = .ok (.ifCond .ne 10, 3) := dk_154 (dq_lk dX4_anew_v0 (r := 5) (x := 154) rfl) (dq_lk dX4_anew_v0 (r := 6) (x := 0) rfl) (dq_lk dX4_anew_v0 (r := 7) (x := 10) rfl) (by decide +kernel)
theorem dX4_anew_8 : decode cX4_anew 8 = .ok (.iload_n 2, 1) := dk_28 (dq_lk dX4_anew_v0 (r := 8) (x := 28) rfl)
theorem dX4_anew_9 : decode cX4_anew 9 = .ok (.invokestatic 61, 3) := dk_184 (dq_lk dX4_anew_v0 (r := 9) (x := 184) rfl) (dq_lk dX4_anew_v0 (r := 10) (x := 0) rfl) (dq_lk dX4_anew_v0 (r := 11) (x := 61) rfl)
theorem dX4_anew_12 : decode cX4_anew 12 = .ok (.ifCond .eq 7, 3) := dk_153 (dq_lk dX4_anew_v0 (r := 12) (x := 153) rfl) (dq_lk dX4_anew_v0 (r := 13) (x := 0) rfl) (dq_lk dX4_anew_v0 (r := 14) (x := 7) rfl) (by decide +kernel)
theorem dX4_anew_15 : decode cX4_anew 15 = .ok (.iconst 1, 1) := dk_4 (dq_lk dX4_anew_v0 (r := 15) (x := 4) rfl)
theorem dX4_anew_16 : decode cX4_anew 16 = .ok (.goto 4, 3) := dk_167 (dq_lk dX4_anew_v1 (r := 0) (x := 167) rfl) (dq_lk dX4_anew_v1 (r := 1) (x := 0) rfl) (dq_lk dX4_anew_v1 (r := 2) (x := 4) rfl) (by decide +kernel)
theorem dX4_anew_19 : decode cX4_anew 19 = .ok (.iconst 0, 1) := dk_3 (dq_lk dX4_anew_v1 (r := 3) (x := 3) rfl)
theorem dX4_anew_20 : decode cX4_anew 20 = .ok (.iconst 0, 1) := dk_3 (dq_lk dX4_anew_v1 (r := 4) (x := 3) rfl)
theorem dX4_anew_21 : decode cX4_anew 21 = .ok (.invokevirtual 68, 3) := dk_182 (dq_lk dX4_anew_v1 (r := 5) (x := 182) rfl) (dq_lk dX4_anew_v1 (r := 6) (x := 0) rfl) (dq_lk dX4_anew_v1 (r := 7) (x := 68) rfl)
theorem dX4_anew_24 : decode cX4_anew 24 = .ok (.ifCond .eq 5, 3) := dk_153 (dq_lk dX4_anew_v1 (r := 8) (x := 153) rfl) (dq_lk dX4_anew_v1 (r := 9) (x := 0) rfl) (dq_lk dX4_anew_v1 (r := 10) (x := 5) rfl) (by decide +kernel)
theorem dX4_anew_27 : decode cX4_anew 27 = .ok (.iconst 0, 1) := dk_3 (dq_lk dX4_anew_v1 (r := 11) (x := 3) rfl)
theorem dX4_anew_28 : decode cX4_anew 28 = .ok (.ireturn, 1) := dk_172 (dq_lk dX4_anew_v1 (r := 12) (x := 172) rfl)
theorem dX4_anew_29 : decode cX4_anew 29 = .ok (.iload_n 3, 1) := dk_29 (dq_lk dX4_anew_v1 (r := 13) (x := 29) rfl)
theorem dX4_anew_30 : decode cX4_anew 30 = .ok (.ifCond .eq 7, 3) := dk_153 (dq_lk dX4_anew_v1 (r := 14) (x := 153) rfl) (dq_lk dX4_anew_v1 (r := 15) (x := 0) rfl) (dq_lk dX4_anew_v2 (r := 0) (x := 7) rfl) (by decide +kernel)
theorem dX4_anew_33 : decode cX4_anew 33 = .ok (.iconst 0, 1) := dk_3 (dq_lk dX4_anew_v2 (r := 1) (x := 3) rfl)
theorem dX4_anew_34 : decode cX4_anew 34 = .ok (.goto 16, 3) := dk_167 (dq_lk dX4_anew_v2 (r := 2) (x := 167) rfl) (dq_lk dX4_anew_v2 (r := 3) (x := 0) rfl) (dq_lk dX4_anew_v2 (r := 4) (x := 16) rfl) (by decide +kernel)
theorem dX4_anew_37 : decode cX4_anew 37 = .ok (.aload_n 0, 1) := dk_42 (dq_lk dX4_anew_v2 (r := 5) (x := 42) rfl)
theorem dX4_anew_38 : decode cX4_anew 38 = .ok (.getfield 7, 3) := dk_180 (dq_lk dX4_anew_v2 (r := 6) (x := 180) rfl) (dq_lk dX4_anew_v2 (r := 7) (x := 0) rfl) (dq_lk dX4_anew_v2 (r := 8) (x := 7) rfl)
theorem dX4_anew_41 : decode cX4_anew 41 = .ok (.iload_n 2, 1) := dk_28 (dq_lk dX4_anew_v2 (r := 9) (x := 28) rfl)
theorem dX4_anew_42 : decode cX4_anew 42 = .ok (.iaload, 1) := dk_46 (dq_lk dX4_anew_v2 (r := 10) (x := 46) rfl)
theorem dX4_anew_43 : decode cX4_anew 43 = .ok (.aload_n 0, 1) := dk_42 (dq_lk dX4_anew_v2 (r := 11) (x := 42) rfl)
theorem dX4_anew_44 : decode cX4_anew 44 = .ok (.getfield 26, 3) := dk_180 (dq_lk dX4_anew_v2 (r := 12) (x := 180) rfl) (dq_lk dX4_anew_v2 (r := 13) (x := 0) rfl) (dq_lk dX4_anew_v2 (r := 14) (x := 26) rfl)
theorem dX4_anew_47 : decode cX4_anew 47 = .ok (.iload_n 1, 1) := dk_27 (dq_lk dX4_anew_v2 (r := 15) (x := 27) rfl)
theorem dX4_anew_48 : decode cX4_anew 48 = .ok (.iaload, 1) := dk_46 (dq_lk dX4_anew_v3 (r := 0) (x := 46) rfl)
theorem dX4_anew_49 : decode cX4_anew 49 = .ok (.isub, 1) := dk_100 (dq_lk dX4_anew_v3 (r := 1) (x := 100) rfl)
theorem dX4_anew_50 : decode cX4_anew 50 = .ok (.istore 4, 2) := dk_54 (dq_lk dX4_anew_v3 (r := 2) (x := 54) rfl) (dq_lk dX4_anew_v3 (r := 3) (x := 4) rfl)
theorem dX4_anew_52 : decode cX4_anew 52 = .ok (.aload_n 0, 1) := dk_42 (dq_lk dX4_anew_v3 (r := 4) (x := 42) rfl)
theorem dX4_anew_53 : decode cX4_anew 53 = .ok (.iload_n 1, 1) := dk_27 (dq_lk dX4_anew_v3 (r := 5) (x := 27) rfl)
theorem dX4_anew_54 : decode cX4_anew 54 = .ok (.aload_n 0, 1) := dk_42 (dq_lk dX4_anew_v3 (r := 6) (x := 42) rfl)
theorem dX4_anew_55 : decode cX4_anew 55 = .ok (.getfield 17, 3) := dk_180 (dq_lk dX4_anew_v3 (r := 7) (x := 180) rfl) (dq_lk dX4_anew_v3 (r := 8) (x := 0) rfl) (dq_lk dX4_anew_v3 (r := 9) (x := 17) rfl)
theorem dX4_anew_58 : decode cX4_anew 58 = .ok (.iload_n 1, 1) := dk_27 (dq_lk dX4_anew_v3 (r := 10) (x := 27) rfl)
theorem dX4_anew_59 : decode cX4_anew 59 = .ok (.iaload, 1) := dk_46 (dq_lk dX4_anew_v3 (r := 11) (x := 46) rfl)
theorem dX4_anew_60 : decode cX4_anew 60 = .ok (.i2l, 1) := dk_133 (dq_lk dX4_anew_v3 (r := 12) (x := 133) rfl)
theorem dX4_anew_61 : decode cX4_anew 61 = .ok (.aload_n 0, 1) := dk_42 (dq_lk dX4_anew_v3 (r := 13) (x := 42) rfl)
theorem dX4_anew_62 : decode cX4_anew 62 = .ok (.getfield 20, 3) := dk_180 (dq_lk dX4_anew_v3 (r := 14) (x := 180) rfl) (dq_lk dX4_anew_v3 (r := 15) (x := 0) rfl) (dq_lk dX4_anew_v4 (r := 0) (x := 20) rfl)
theorem dX4_anew_65 : decode cX4_anew 65 = .ok (.iload_n 1, 1) := dk_27 (dq_lk dX4_anew_v4 (r := 1) (x := 27) rfl)
theorem dX4_anew_66 : decode cX4_anew 66 = .ok (.iaload, 1) := dk_46 (dq_lk dX4_anew_v4 (r := 2) (x := 46) rfl)
theorem dX4_anew_67 : decode cX4_anew 67 = .ok (.i2l, 1) := dk_133 (dq_lk dX4_anew_v4 (r := 3) (x := 133) rfl)
theorem dX4_anew_68 : decode cX4_anew 68 = .ok (.iload 4, 2) := dk_21 (dq_lk dX4_anew_v4 (r := 4) (x := 21) rfl) (dq_lk dX4_anew_v4 (r := 5) (x := 4) rfl)
theorem dX4_anew_70 : decode cX4_anew 70 = .ok (.i2l, 1) := dk_133 (dq_lk dX4_anew_v4 (r := 6) (x := 133) rfl)
theorem dX4_anew_71 : decode cX4_anew 71 = .ok (.ladd, 1) := dk_97 (dq_lk dX4_anew_v4 (r := 7) (x := 97) rfl)
theorem dX4_anew_72 : decode cX4_anew 72 = .ok (.aload_n 0, 1) := dk_42 (dq_lk dX4_anew_v4 (r := 8) (x := 42) rfl)
theorem dX4_anew_73 : decode cX4_anew 73 = .ok (.getfield 23, 3) := dk_180 (dq_lk dX4_anew_v4 (r := 9) (x := 180) rfl) (dq_lk dX4_anew_v4 (r := 10) (x := 0) rfl) (dq_lk dX4_anew_v4 (r := 11) (x := 23) rfl)
theorem dX4_anew_76 : decode cX4_anew 76 = .ok (.iload_n 1, 1) := dk_27 (dq_lk dX4_anew_v4 (r := 12) (x := 27) rfl)
theorem dX4_anew_77 : decode cX4_anew 77 = .ok (.iaload, 1) := dk_46 (dq_lk dX4_anew_v4 (r := 13) (x := 46) rfl)
theorem dX4_anew_78 : decode cX4_anew 78 = .ok (.aload_n 0, 1) := dk_42 (dq_lk dX4_anew_v4 (r := 14) (x := 42) rfl)
theorem dX4_anew_79 : decode cX4_anew 79 = .ok (.getfield 7, 3) := dk_180 (dq_lk dX4_anew_v4 (r := 15) (x := 180) rfl) (dq_lk dX4_anew_v5 (r := 0) (x := 0) rfl) (dq_lk dX4_anew_v5 (r := 1) (x := 7) rfl)
theorem dX4_anew_82 : decode cX4_anew 82 = .ok (.iload_n 2, 1) := dk_28 (dq_lk dX4_anew_v5 (r := 2) (x := 28) rfl)
theorem dX4_anew_83 : decode cX4_anew 83 = .ok (.iaload, 1) := dk_46 (dq_lk dX4_anew_v5 (r := 3) (x := 46) rfl)
theorem dX4_anew_84 : decode cX4_anew 84 = .ok (.invokevirtual 167, 3) := dk_182 (dq_lk dX4_anew_v5 (r := 4) (x := 182) rfl) (dq_lk dX4_anew_v5 (r := 5) (x := 0) rfl) (dq_lk dX4_anew_v5 (r := 6) (x := 167) rfl)
theorem dX4_anew_87 : decode cX4_anew 87 = .ok (.ireturn, 1) := dk_172 (dq_lk dX4_anew_v5 (r := 7) (x := 172) rfl)
theorem dX4_copy_v0 : (cX4_copy.data.toList.drop 0).take 16 = [42, 27, 184, 0, 61, 154, 0, 10, 28, 184, 0, 61, 153, 0, 7, 4] := by decide +kernel
theorem dX4_copy_v1 : (cX4_copy.data.toList.drop 16).take 16 = [167, 0, 4, 3, 3, 182, 0, 68, 153, 0, 7, 3, 167, 0, 32, 42] := by decide +kernel
theorem dX4_copy_v2 : (cX4_copy.data.toList.drop 32).take 16 = [27, 42, 180, 0, 17, 28, 46, 42, 180, 0, 20, 28, 46, 42, 180, 0] := by decide +kernel
theorem dX4_copy_v3 : (cX4_copy.data.toList.drop 48).take 16 = [23, 28, 46, 42, 180, 0, 26, 28, 46, 182, 0, 139, 172] := by decide +kernel
theorem dX4_copy_0 : decode cX4_copy 0 = .ok (.aload_n 0, 1) := dk_42 (dq_lk dX4_copy_v0 (r := 0) (x := 42) rfl)
theorem dX4_copy_1 : decode cX4_copy 1 = .ok (.iload_n 1, 1) := dk_27 (dq_lk dX4_copy_v0 (r := 1) (x := 27) rfl)
theorem dX4_copy_2 : decode cX4_copy 2 = .ok (.invokestatic 61, 3) := dk_184 (dq_lk dX4_copy_v0 (r := 2) (x := 184) rfl) (dq_lk dX4_copy_v0 (r := 3) (x := 0) rfl) (dq_lk dX4_copy_v0 (r := 4) (x := 61) rfl)
theorem dX4_copy_5 : decode cX4_copy 5 = .ok (.ifCond .ne 10, 3) := dk_154 (dq_lk dX4_copy_v0 (r := 5) (x := 154) rfl) (dq_lk dX4_copy_v0 (r := 6) (x := 0) rfl) (dq_lk dX4_copy_v0 (r := 7) (x := 10) rfl) (by decide +kernel)
theorem dX4_copy_8 : decode cX4_copy 8 = .ok (.iload_n 2, 1) := dk_28 (dq_lk dX4_copy_v0 (r := 8) (x := 28) rfl)
theorem dX4_copy_9 : decode cX4_copy 9 = .ok (.invokestatic 61, 3) := dk_184 (dq_lk dX4_copy_v0 (r := 9) (x := 184) rfl) (dq_lk dX4_copy_v0 (r := 10) (x := 0) rfl) (dq_lk dX4_copy_v0 (r := 11) (x := 61) rfl)
theorem dX4_copy_12 : decode cX4_copy 12 = .ok (.ifCond .eq 7, 3) := dk_153 (dq_lk dX4_copy_v0 (r := 12) (x := 153) rfl) (dq_lk dX4_copy_v0 (r := 13) (x := 0) rfl) (dq_lk dX4_copy_v0 (r := 14) (x := 7) rfl) (by decide +kernel)
theorem dX4_copy_15 : decode cX4_copy 15 = .ok (.iconst 1, 1) := dk_4 (dq_lk dX4_copy_v0 (r := 15) (x := 4) rfl)
theorem dX4_copy_16 : decode cX4_copy 16 = .ok (.goto 4, 3) := dk_167 (dq_lk dX4_copy_v1 (r := 0) (x := 167) rfl) (dq_lk dX4_copy_v1 (r := 1) (x := 0) rfl) (dq_lk dX4_copy_v1 (r := 2) (x := 4) rfl) (by decide +kernel)
theorem dX4_copy_19 : decode cX4_copy 19 = .ok (.iconst 0, 1) := dk_3 (dq_lk dX4_copy_v1 (r := 3) (x := 3) rfl)
theorem dX4_copy_20 : decode cX4_copy 20 = .ok (.iconst 0, 1) := dk_3 (dq_lk dX4_copy_v1 (r := 4) (x := 3) rfl)
theorem dX4_copy_21 : decode cX4_copy 21 = .ok (.invokevirtual 68, 3) := dk_182 (dq_lk dX4_copy_v1 (r := 5) (x := 182) rfl) (dq_lk dX4_copy_v1 (r := 6) (x := 0) rfl) (dq_lk dX4_copy_v1 (r := 7) (x := 68) rfl)
theorem dX4_copy_24 : decode cX4_copy 24 = .ok (.ifCond .eq 7, 3) := dk_153 (dq_lk dX4_copy_v1 (r := 8) (x := 153) rfl) (dq_lk dX4_copy_v1 (r := 9) (x := 0) rfl) (dq_lk dX4_copy_v1 (r := 10) (x := 7) rfl) (by decide +kernel)
theorem dX4_copy_27 : decode cX4_copy 27 = .ok (.iconst 0, 1) := dk_3 (dq_lk dX4_copy_v1 (r := 11) (x := 3) rfl)
theorem dX4_copy_28 : decode cX4_copy 28 = .ok (.goto 32, 3) := dk_167 (dq_lk dX4_copy_v1 (r := 12) (x := 167) rfl) (dq_lk dX4_copy_v1 (r := 13) (x := 0) rfl) (dq_lk dX4_copy_v1 (r := 14) (x := 32) rfl) (by decide +kernel)
theorem dX4_copy_31 : decode cX4_copy 31 = .ok (.aload_n 0, 1) := dk_42 (dq_lk dX4_copy_v1 (r := 15) (x := 42) rfl)
theorem dX4_copy_32 : decode cX4_copy 32 = .ok (.iload_n 1, 1) := dk_27 (dq_lk dX4_copy_v2 (r := 0) (x := 27) rfl)
theorem dX4_copy_33 : decode cX4_copy 33 = .ok (.aload_n 0, 1) := dk_42 (dq_lk dX4_copy_v2 (r := 1) (x := 42) rfl)
theorem dX4_copy_34 : decode cX4_copy 34 = .ok (.getfield 17, 3) := dk_180 (dq_lk dX4_copy_v2 (r := 2) (x := 180) rfl) (dq_lk dX4_copy_v2 (r := 3) (x := 0) rfl) (dq_lk dX4_copy_v2 (r := 4) (x := 17) rfl)
theorem dX4_copy_37 : decode cX4_copy 37 = .ok (.iload_n 2, 1) := dk_28 (dq_lk dX4_copy_v2 (r := 5) (x := 28) rfl)
theorem dX4_copy_38 : decode cX4_copy 38 = .ok (.iaload, 1) := dk_46 (dq_lk dX4_copy_v2 (r := 6) (x := 46) rfl)
theorem dX4_copy_39 : decode cX4_copy 39 = .ok (.aload_n 0, 1) := dk_42 (dq_lk dX4_copy_v2 (r := 7) (x := 42) rfl)
theorem dX4_copy_40 : decode cX4_copy 40 = .ok (.getfield 20, 3) := dk_180 (dq_lk dX4_copy_v2 (r := 8) (x := 180) rfl) (dq_lk dX4_copy_v2 (r := 9) (x := 0) rfl) (dq_lk dX4_copy_v2 (r := 10) (x := 20) rfl)
theorem dX4_copy_43 : decode cX4_copy 43 = .ok (.iload_n 2, 1) := dk_28 (dq_lk dX4_copy_v2 (r := 11) (x := 28) rfl)
theorem dX4_copy_44 : decode cX4_copy 44 = .ok (.iaload, 1) := dk_46 (dq_lk dX4_copy_v2 (r := 12) (x := 46) rfl)
theorem dX4_copy_45 : decode cX4_copy 45 = .ok (.aload_n 0, 1) := dk_42 (dq_lk dX4_copy_v2 (r := 13) (x := 42) rfl)
theorem dX4_copy_46 : decode cX4_copy 46 = .ok (.getfield 23, 3) := dk_180 (dq_lk dX4_copy_v2 (r := 14) (x := 180) rfl) (dq_lk dX4_copy_v2 (r := 15) (x := 0) rfl) (dq_lk dX4_copy_v3 (r := 0) (x := 23) rfl)
theorem dX4_copy_49 : decode cX4_copy 49 = .ok (.iload_n 2, 1) := dk_28 (dq_lk dX4_copy_v3 (r := 1) (x := 28) rfl)
theorem dX4_copy_50 : decode cX4_copy 50 = .ok (.iaload, 1) := dk_46 (dq_lk dX4_copy_v3 (r := 2) (x := 46) rfl)
theorem dX4_copy_51 : decode cX4_copy 51 = .ok (.aload_n 0, 1) := dk_42 (dq_lk dX4_copy_v3 (r := 3) (x := 42) rfl)
theorem dX4_copy_52 : decode cX4_copy 52 = .ok (.getfield 26, 3) := dk_180 (dq_lk dX4_copy_v3 (r := 4) (x := 180) rfl) (dq_lk dX4_copy_v3 (r := 5) (x := 0) rfl) (dq_lk dX4_copy_v3 (r := 6) (x := 26) rfl)
theorem dX4_copy_55 : decode cX4_copy 55 = .ok (.iload_n 2, 1) := dk_28 (dq_lk dX4_copy_v3 (r := 7) (x := 28) rfl)
theorem dX4_copy_56 : decode cX4_copy 56 = .ok (.iaload, 1) := dk_46 (dq_lk dX4_copy_v3 (r := 8) (x := 46) rfl)
theorem dX4_copy_57 : decode cX4_copy 57 = .ok (.invokevirtual 139, 3) := dk_182 (dq_lk dX4_copy_v3 (r := 9) (x := 182) rfl) (dq_lk dX4_copy_v3 (r := 10) (x := 0) rfl) (dq_lk dX4_copy_v3 (r := 11) (x := 139) rfl)
theorem dX4_copy_60 : decode cX4_copy 60 = .ok (.ireturn, 1) := dk_172 (dq_lk dX4_copy_v3 (r := 12) (x := 172) rfl)
theorem dX4_ofDate_v0 : (cX4_ofDate.data.toList.drop 0).take 16 = [42, 27, 184, 0, 61, 28, 133, 9, 20, 0, 151, 184, 0, 38, 154, 0] := by decide +kernel
theorem dX4_ofDate_v1 : (cX4_ofDate.data.toList.drop 16).take 16 = [7, 4, 167, 0, 4, 3, 182, 0, 68, 153, 0, 7, 3, 167, 0, 9] := by decide +kernel
theorem dX4_ofDate_v2 : (cX4_ofDate.data.toList.drop 32).take 16 = [42, 27, 28, 182, 0, 193, 172] := by decide +kernel
theorem dX4_ofDate_0 : decode cX4_ofDate 0 = .ok (.aload_n 0, 1) := dk_42 (dq_lk dX4_ofDate_v0 (r := 0) (x := 42) rfl)
theorem dX4_ofDate_1 : decode cX4_ofDate 1 = .ok (.iload_n 1, 1) := dk_27 (dq_lk dX4_ofDate_v0 (r := 1) (x := 27) rfl)
theorem dX4_ofDate_2 : decode cX4_ofDate 2 = .ok (.invokestatic 61, 3) := dk_184 (dq_lk dX4_ofDate_v0 (r := 2) (x := 184) rfl) (dq_lk dX4_ofDate_v0 (r := 3) (x := 0) rfl) (dq_lk dX4_ofDate_v0 (r := 4) (x := 61) rfl)
theorem dX4_ofDate_5 : decode cX4_ofDate 5 = .ok (.iload_n 2, 1) := dk_28 (dq_lk dX4_ofDate_v0 (r := 5) (x := 28) rfl)
theorem dX4_ofDate_6 : decode cX4_ofDate 6 = .ok (.i2l, 1) := dk_133 (dq_lk dX4_ofDate_v0 (r := 6) (x := 133) rfl)
theorem dX4_ofDate_7 : decode cX4_ofDate 7 = .ok (.lconst 0, 1) := dk_9 (dq_lk dX4_ofDate_v0 (r := 7) (x := 9) rfl)
theorem dX4_ofDate_8 : decode cX4_ofDate 8 = .ok (.ldc2_w 151, 3) := dk_20 (dq_lk dX4_ofDate_v0 (r := 8) (x := 20) rfl) (dq_lk dX4_ofDate_v0 (r := 9) (x := 0) rfl) (dq_lk dX4_ofDate_v0 (r := 10) (x := 151) rfl)
theorem dX4_ofDate_11 : decode cX4_ofDate 11 = .ok (.invokestatic 38, 3) := dk_184 (dq_lk dX4_ofDate_v0 (r := 11) (x := 184) rfl) (dq_lk dX4_ofDate_v0 (r := 12) (x := 0) rfl) (dq_lk dX4_ofDate_v0 (r := 13) (x := 38) rfl)
theorem dX4_ofDate_14 : decode cX4_ofDate 14 = .ok (.ifCond .ne 7, 3) := dk_154 (dq_lk dX4_ofDate_v0 (r := 14) (x := 154) rfl) (dq_lk dX4_ofDate_v0 (r := 15) (x := 0) rfl) (dq_lk dX4_ofDate_v1 (r := 0) (x := 7) rfl) (by decide +kernel)
theorem dX4_ofDate_17 : decode cX4_ofDate 17 = .ok (.iconst 1, 1) := dk_4 (dq_lk dX4_ofDate_v1 (r := 1) (x := 4) rfl)
theorem dX4_ofDate_18 : decode cX4_ofDate 18 = .ok (.goto 4, 3) := dk_167 (dq_lk dX4_ofDate_v1 (r := 2) (x := 167) rfl) (dq_lk dX4_ofDate_v1 (r := 3) (x := 0) rfl) (dq_lk dX4_ofDate_v1 (r := 4) (x := 4) rfl) (by decide +kernel)
theorem dX4_ofDate_21 : decode cX4_ofDate 21 = .ok (.iconst 0, 1) := dk_3 (dq_lk dX4_ofDate_v1 (r := 5) (x := 3) rfl)
theorem dX4_ofDate_22 : decode cX4_ofDate 22 = .ok (.invokevirtual 68, 3) := dk_182 (dq_lk dX4_ofDate_v1 (r := 6) (x := 182) rfl) (dq_lk dX4_ofDate_v1 (r := 7) (x := 0) rfl) (dq_lk dX4_ofDate_v1 (r := 8) (x := 68) rfl)
theorem dX4_ofDate_25 : decode cX4_ofDate 25 = .ok (.ifCond .eq 7, 3) := dk_153 (dq_lk dX4_ofDate_v1 (r := 9) (x := 153) rfl) (dq_lk dX4_ofDate_v1 (r := 10) (x := 0) rfl) (dq_lk dX4_ofDate_v1 (r := 11) (x := 7) rfl) (by decide +kernel)
theorem dX4_ofDate_28 : decode cX4_ofDate 28 = .ok (.iconst 0, 1) := dk_3 (dq_lk dX4_ofDate_v1 (r := 12) (x := 3) rfl)
theorem dX4_ofDate_29 : decode cX4_ofDate 29 = .ok (.goto 9, 3) := dk_167 (dq_lk dX4_ofDate_v1 (r := 13) (x := 167) rfl) (dq_lk dX4_ofDate_v1 (r := 14) (x := 0) rfl) (dq_lk dX4_ofDate_v1 (r := 15) (x := 9) rfl) (by decide +kernel)
theorem dX4_ofDate_32 : decode cX4_ofDate 32 = .ok (.aload_n 0, 1) := dk_42 (dq_lk dX4_ofDate_v2 (r := 0) (x := 42) rfl)
theorem dX4_ofDate_33 : decode cX4_ofDate 33 = .ok (.iload_n 1, 1) := dk_27 (dq_lk dX4_ofDate_v2 (r := 1) (x := 27) rfl)
theorem dX4_ofDate_34 : decode cX4_ofDate 34 = .ok (.iload_n 2, 1) := dk_28 (dq_lk dX4_ofDate_v2 (r := 2) (x := 28) rfl)
theorem dX4_ofDate_35 : decode cX4_ofDate 35 = .ok (.invokevirtual 193, 3) := dk_182 (dq_lk dX4_ofDate_v2 (r := 3) (x := 182) rfl) (dq_lk dX4_ofDate_v2 (r := 4) (x := 0) rfl) (dq_lk dX4_ofDate_v2 (r := 5) (x := 193) rfl)
theorem dX4_ofDate_38 : decode cX4_ofDate 38 = .ok (.ireturn, 1) := dk_172 (dq_lk dX4_ofDate_v2 (r := 6) (x := 172) rfl)
theorem dX4_ordered_w0 : (cX4_ordered.data.toList.drop 0).take 64 = [42, 27, 182, 0, 115, 42, 28, 182, 0, 115, 148, 153, 0, 17, 42, 27, 182, 0, 115, 42, 28, 182, 0, 115, 184, 0, 88, 172, 42, 180, 0, 17, 27, 46, 42, 180, 0, 17, 28, 46, 159, 0, 23, 42, 180, 0, 17, 27, 46, 133, 42, 180, 0, 17, 28, 46, 133, 184, 0, 88, 167, 0, 20, 42] := by decide +kernel
theorem dX4_ordered_w1 : (cX4_ordered.data.toList.drop 64).take 64 = [180, 0, 20, 27, 46, 133, 42, 180, 0, 20, 28, 46, 133, 184, 0, 88, 172] := by decide +kernel
theorem dX4_ordered_v0 : (cX4_ordered.data.toList.drop 0).take 16 = [42, 27, 182, 0, 115, 42, 28, 182, 0, 115, 148, 153, 0, 17, 42, 27] := dq_sub (n := 0) (j := 0) dX4_ordered_w0 (by decide) rfl
theorem dX4_ordered_v1 : (cX4_ordered.data.toList.drop 16).take 16 = [182, 0, 115, 42, 28, 182, 0, 115, 184, 0, 88, 172, 42, 180, 0, 17] := dq_sub (n := 0) (j := 16) dX4_ordered_w0 (by decide) rfl
theorem dX4_ordered_v2 : (cX4_ordered.data.toList.drop 32).take 16 = [27, 46, 42, 180, 0, 17, 28, 46, 159, 0, 23, 42, 180, 0, 17, 27] := dq_sub (n := 0) (j := 32) dX4_ordered_w0 (by decide) rfl
theorem dX4_ordered_v3 : (cX4_ordered.data.toList.drop 48).take 16 = [46, 133, 42, 180, 0, 17, 28, 46, 133, 184, 0, 88, 167, 0, 20, 42] := dq_sub (n := 0) (j := 48) dX4_ordered_w0 (by decide) rfl
theorem dX4_ordered_v4 : (cX4_ordered.data.toList.drop 64).take 16 = [180, 0, 20, 27, 46, 133, 42, 180, 0, 20, 28, 46, 133, 184, 0, 88] := dq_sub (n := 64) (j := 0) dX4_ordered_w1 (by decide) rfl
theorem dX4_ordered_v5 : (cX4_ordered.data.toList.drop 80).take 16 = [172] := dq_sub (n := 64) (j := 16) dX4_ordered_w1 (by decide) rfl
theorem dX4_ordered_0 : decode cX4_ordered 0 = .ok (.aload_n 0, 1) := dk_42 (dq_lk dX4_ordered_v0 (r := 0) (x := 42) rfl)
theorem dX4_ordered_1 : decode cX4_ordered 1 = .ok (.iload_n 1, 1) := dk_27 (dq_lk dX4_ordered_v0 (r := 1) (x := 27) rfl)
theorem dX4_ordered_2 : decode cX4_ordered 2 = .ok (.invokevirtual 115, 3) := dk_182 (dq_lk dX4_ordered_v0 (r := 2) (x := 182) rfl) (dq_lk dX4_ordered_v0 (r := 3) (x := 0) rfl) (dq_lk dX4_ordered_v0 (r := 4) (x := 115) rfl)
theorem dX4_ordered_5 : decode cX4_ordered 5 = .ok (.aload_n 0, 1) := dk_42 (dq_lk dX4_ordered_v0 (r := 5) (x := 42) rfl)
theorem dX4_ordered_6 : decode cX4_ordered 6 = .ok (.iload_n 2, 1) := dk_28 (dq_lk dX4_ordered_v0 (r := 6) (x := 28) rfl)
theorem dX4_ordered_7 : decode cX4_ordered 7 = .ok (.invokevirtual 115, 3) := dk_182 (dq_lk dX4_ordered_v0 (r := 7) (x := 182) rfl) (dq_lk dX4_ordered_v0 (r := 8) (x := 0) rfl) (dq_lk dX4_ordered_v0 (r := 9) (x := 115) rfl)
theorem dX4_ordered_10 : decode cX4_ordered 10 = .ok (.lcmp, 1) := dk_148 (dq_lk dX4_ordered_v0 (r := 10) (x := 148) rfl)
theorem dX4_ordered_11 : decode cX4_ordered 11 = .ok (.ifCond .eq 17, 3) := dk_153 (dq_lk dX4_ordered_v0 (r := 11) (x := 153) rfl) (dq_lk dX4_ordered_v0 (r := 12) (x := 0) rfl) (dq_lk dX4_ordered_v0 (r := 13) (x := 17) rfl) (by decide +kernel)
theorem dX4_ordered_14 : decode cX4_ordered 14 = .ok (.aload_n 0, 1) := dk_42 (dq_lk dX4_ordered_v0 (r := 14) (x := 42) rfl)
theorem dX4_ordered_15 : decode cX4_ordered 15 = .ok (.iload_n 1, 1) := dk_27 (dq_lk dX4_ordered_v0 (r := 15) (x := 27) rfl)
theorem dX4_ordered_16 : decode cX4_ordered 16 = .ok (.invokevirtual 115, 3) := dk_182 (dq_lk dX4_ordered_v1 (r := 0) (x := 182) rfl) (dq_lk dX4_ordered_v1 (r := 1) (x := 0) rfl) (dq_lk dX4_ordered_v1 (r := 2) (x := 115) rfl)
theorem dX4_ordered_19 : decode cX4_ordered 19 = .ok (.aload_n 0, 1) := dk_42 (dq_lk dX4_ordered_v1 (r := 3) (x := 42) rfl)
theorem dX4_ordered_20 : decode cX4_ordered 20 = .ok (.iload_n 2, 1) := dk_28 (dq_lk dX4_ordered_v1 (r := 4) (x := 28) rfl)
theorem dX4_ordered_21 : decode cX4_ordered 21 = .ok (.invokevirtual 115, 3) := dk_182 (dq_lk dX4_ordered_v1 (r := 5) (x := 182) rfl) (dq_lk dX4_ordered_v1 (r := 6) (x := 0) rfl) (dq_lk dX4_ordered_v1 (r := 7) (x := 115) rfl)
theorem dX4_ordered_24 : decode cX4_ordered 24 = .ok (.invokestatic 88, 3) := dk_184 (dq_lk dX4_ordered_v1 (r := 8) (x := 184) rfl) (dq_lk dX4_ordered_v1 (r := 9) (x := 0) rfl) (dq_lk dX4_ordered_v1 (r := 10) (x := 88) rfl)
theorem dX4_ordered_27 : decode cX4_ordered 27 = .ok (.ireturn, 1) := dk_172 (dq_lk dX4_ordered_v1 (r := 11) (x := 172) rfl)
theorem dX4_ordered_28 : decode cX4_ordered 28 = .ok (.aload_n 0, 1) := dk_42 (dq_lk dX4_ordered_v1 (r := 12) (x := 42) rfl)
theorem dX4_ordered_29 : decode cX4_ordered 29 = .ok (.getfield 17, 3) := dk_180 (dq_lk dX4_ordered_v1 (r := 13) (x := 180) rfl) (dq_lk dX4_ordered_v1 (r := 14) (x := 0) rfl) (dq_lk dX4_ordered_v1 (r := 15) (x := 17) rfl)
theorem dX4_ordered_32 : decode cX4_ordered 32 = .ok (.iload_n 1, 1) := dk_27 (dq_lk dX4_ordered_v2 (r := 0) (x := 27) rfl)
theorem dX4_ordered_33 : decode cX4_ordered 33 = .ok (.iaload, 1) := dk_46 (dq_lk dX4_ordered_v2 (r := 1) (x := 46) rfl)
theorem dX4_ordered_34 : decode cX4_ordered 34 = .ok (.aload_n 0, 1) := dk_42 (dq_lk dX4_ordered_v2 (r := 2) (x := 42) rfl)
theorem dX4_ordered_35 : decode cX4_ordered 35 = .ok (.getfield 17, 3) := dk_180 (dq_lk dX4_ordered_v2 (r := 3) (x := 180) rfl) (dq_lk dX4_ordered_v2 (r := 4) (x := 0) rfl) (dq_lk dX4_ordered_v2 (r := 5) (x := 17) rfl)
theorem dX4_ordered_38 : decode cX4_ordered 38 = .ok (.iload_n 2, 1) := dk_28 (dq_lk dX4_ordered_v2 (r := 6) (x := 28) rfl)
theorem dX4_ordered_39 : decode cX4_ordered 39 = .ok (.iaload, 1) := dk_46 (dq_lk dX4_ordered_v2 (r := 7) (x := 46) rfl)
theorem dX4_ordered_40 : decode cX4_ordered 40 = .ok (.if_icmp .eq 23, 3) := dk_159 (dq_lk dX4_ordered_v2 (r := 8) (x := 159) rfl) (dq_lk dX4_ordered_v2 (r := 9) (x := 0) rfl) (dq_lk dX4_ordered_v2 (r := 10) (x := 23) rfl) (by decide +kernel)
theorem dX4_ordered_43 : decode cX4_ordered 43 = .ok (.aload_n 0, 1) := dk_42 (dq_lk dX4_ordered_v2 (r := 11) (x := 42) rfl)
theorem dX4_ordered_44 : decode cX4_ordered 44 = .ok (.getfield 17, 3) := dk_180 (dq_lk dX4_ordered_v2 (r := 12) (x := 180) rfl) (dq_lk dX4_ordered_v2 (r := 13) (x := 0) rfl) (dq_lk dX4_ordered_v2 (r := 14) (x := 17) rfl)
theorem dX4_ordered_47 : decode cX4_ordered 47 = .ok (.iload_n 1, 1) := dk_27 (dq_lk dX4_ordered_v2 (r := 15) (x := 27) rfl)
theorem dX4_ordered_48 : decode cX4_ordered 48 = .ok (.iaload, 1) := dk_46 (dq_lk dX4_ordered_v3 (r := 0) (x := 46) rfl)
theorem dX4_ordered_49 : decode cX4_ordered 49 = .ok (.i2l, 1) := dk_133 (dq_lk dX4_ordered_v3 (r := 1) (x := 133) rfl)
theorem dX4_ordered_50 : decode cX4_ordered 50 = .ok (.aload_n 0, 1) := dk_42 (dq_lk dX4_ordered_v3 (r := 2) (x := 42) rfl)
theorem dX4_ordered_51 : decode cX4_ordered 51 = .ok (.getfield 17, 3) := dk_180 (dq_lk dX4_ordered_v3 (r := 3) (x := 180) rfl) (dq_lk dX4_ordered_v3 (r := 4) (x := 0) rfl) (dq_lk dX4_ordered_v3 (r := 5) (x := 17) rfl)
theorem dX4_ordered_54 : decode cX4_ordered 54 = .ok (.iload_n 2, 1) := dk_28 (dq_lk dX4_ordered_v3 (r := 6) (x := 28) rfl)
theorem dX4_ordered_55 : decode cX4_ordered 55 = .ok (.iaload, 1) := dk_46 (dq_lk dX4_ordered_v3 (r := 7) (x := 46) rfl)
theorem dX4_ordered_56 : decode cX4_ordered 56 = .ok (.i2l, 1) := dk_133 (dq_lk dX4_ordered_v3 (r := 8) (x := 133) rfl)
theorem dX4_ordered_57 : decode cX4_ordered 57 = .ok (.invokestatic 88, 3) := dk_184 (dq_lk dX4_ordered_v3 (r := 9) (x := 184) rfl) (dq_lk dX4_ordered_v3 (r := 10) (x := 0) rfl) (dq_lk dX4_ordered_v3 (r := 11) (x := 88) rfl)
theorem dX4_ordered_60 : decode cX4_ordered 60 = .ok (.goto 20, 3) := dk_167 (dq_lk dX4_ordered_v3 (r := 12) (x := 167) rfl) (dq_lk dX4_ordered_v3 (r := 13) (x := 0) rfl) (dq_lk dX4_ordered_v3 (r := 14) (x := 20) rfl) (by decide +kernel)
theorem dX4_ordered_63 : decode cX4_ordered 63 = .ok (.aload_n 0, 1) := dk_42 (dq_lk dX4_ordered_v3 (r := 15) (x := 42) rfl)
theorem dX4_ordered_64 : decode cX4_ordered 64 = .ok (.getfield 20, 3) := dk_180 (dq_lk dX4_ordered_v4 (r := 0) (x := 180) rfl) (dq_lk dX4_ordered_v4 (r := 1) (x := 0) rfl) (dq_lk dX4_ordered_v4 (r := 2) (x := 20) rfl)
theorem dX4_ordered_67 : decode cX4_ordered 67 = .ok (.iload_n 1, 1) := dk_27 (dq_lk dX4_ordered_v4 (r := 3) (x := 27) rfl)
theorem dX4_ordered_68 : decode cX4_ordered 68 = .ok (.iaload, 1) := dk_46 (dq_lk dX4_ordered_v4 (r := 4) (x := 46) rfl)
theorem dX4_ordered_69 : decode cX4_ordered 69 = .ok (.i2l, 1) := dk_133 (dq_lk dX4_ordered_v4 (r := 5) (x := 133) rfl)
theorem dX4_ordered_70 : decode cX4_ordered 70 = .ok (.aload_n 0, 1) := dk_42 (dq_lk dX4_ordered_v4 (r := 6) (x := 42) rfl)
theorem dX4_ordered_71 : decode cX4_ordered 71 = .ok (.getfield 20, 3) := dk_180 (dq_lk dX4_ordered_v4 (r := 7) (x := 180) rfl) (dq_lk dX4_ordered_v4 (r := 8) (x := 0) rfl) (dq_lk dX4_ordered_v4 (r := 9) (x := 20) rfl)
theorem dX4_ordered_74 : decode cX4_ordered 74 = .ok (.iload_n 2, 1) := dk_28 (dq_lk dX4_ordered_v4 (r := 10) (x := 28) rfl)
theorem dX4_ordered_75 : decode cX4_ordered 75 = .ok (.iaload, 1) := dk_46 (dq_lk dX4_ordered_v4 (r := 11) (x := 46) rfl)
theorem dX4_ordered_76 : decode cX4_ordered 76 = .ok (.i2l, 1) := dk_133 (dq_lk dX4_ordered_v4 (r := 12) (x := 133) rfl)
theorem dX4_ordered_77 : decode cX4_ordered 77 = .ok (.invokestatic 88, 3) := dk_184 (dq_lk dX4_ordered_v4 (r := 13) (x := 184) rfl) (dq_lk dX4_ordered_v4 (r := 14) (x := 0) rfl) (dq_lk dX4_ordered_v4 (r := 15) (x := 88) rfl)
theorem dX4_ordered_80 : decode cX4_ordered 80 = .ok (.ireturn, 1) := dk_172 (dq_lk dX4_ordered_v5 (r := 0) (x := 172) rfl)
theorem dX4_is_w0 : (cX4_is.data.toList.drop 0).take 64 = [29, 6, 160, 0, 69, 42, 180, 0, 17, 27, 46, 42, 180, 0, 17, 28, 46, 160, 0, 52, 42, 180, 0, 20, 27, 46, 42, 180, 0, 20, 28, 46, 160, 0, 37, 42, 180, 0, 23, 27, 46, 42, 180, 0, 23, 28, 46, 160, 0, 22, 42, 180, 0, 26, 27, 46, 42, 180, 0, 26, 28, 46, 160, 0] := by decide +kernel
theorem dX4_is_w1 : (cX4_is.data.toList.drop 64).take 64 = [7, 4, 167, 0, 4, 3, 172, 42, 27, 182, 0, 115, 42, 28, 182, 0, 115, 184, 0, 88, 29, 154, 0, 7, 2, 167, 0, 13, 29, 4, 160, 0, 7, 4, 167, 0, 4, 3, 160, 0, 7, 4, 167, 0, 4, 3, 172] := by decide +kernel
theorem dX4_is_v0 : (cX4_is.data.toList.drop 0).take 16 = [29, 6, 160, 0, 69, 42, 180, 0, 17, 27, 46, 42, 180, 0, 17, 28] := dq_sub (n := 0) (j := 0) dX4_is_w0 (by decide) rfl
theorem dX4_is_v1 : (cX4_is.data.toList.drop 16).take 16 = [46, 160, 0, 52, 42, 180, 0, 20, 27, 46, 42, 180, 0, 20, 28, 46] := dq_sub (n := 0) (j := 16) dX4_is_w0 (by decide) rfl
theorem dX4_is_v2 : (cX4_is.data.toList.drop 32).take 16 = [160, 0, 37, 42, 180, 0, 23, 27, 46, 42, 180, 0, 23, 28, 46, 160] := dq_sub (n := 0) (j := 32) dX4_is_w0 (by decide) rfl
theorem dX4_is_v3 : (cX4_is.data.toList.drop 48).take 16 = [0, 22, 42, 180, 0, 26, 27, 46, 42, 180, 0, 26, 28, 46, 160, 0] := dq_sub (n := 0) (j := 48) dX4_is_w0 (by decide) rfl
theorem dX4_is_v4 : (cX4_is.data.toList.drop 64).take 16 = [7, 4, 167, 0, 4, 3, 172, 42, 27, 182, 0, 115, 42, 28, 182, 0] := dq_sub (n := 64) (j := 0) dX4_is_w1 (by decide) rfl
theorem dX4_is_v5 : (cX4_is.data.toList.drop 80).take 16 = [115, 184, 0, 88, 29, 154, 0, 7, 2, 167, 0, 13, 29, 4, 160, 0] := dq_sub (n := 64) (j := 16) dX4_is_w1 (by decide) rfl
theorem dX4_is_v6 : (cX4_is.data.toList.drop 96).take 16 = [7, 4, 167, 0, 4, 3, 160, 0, 7, 4, 167, 0, 4, 3, 172] := dq_sub (n := 64) (j := 32) dX4_is_w1 (by decide) rfl
theorem dX4_is_0 : decode cX4_is 0 = .ok (.iload_n 3, 1) := dk_29 (dq_lk dX4_is_v0 (r := 0) (x := 29) rfl)
theorem dX4_is_1 : decode cX4_is 1 = .ok (.iconst 3, 1) := dk_6 (dq_lk dX4_is_v0 (r := 1) (x := 6) rfl)
theorem dX4_is_2 : decode cX4_is 2 = .ok (.if_icmp .ne 69, 3) := dk_160 (dq_lk dX4_is_v0 (r := 2) (x := 160) rfl) (dq_lk dX4_is_v0 (r := 3) (x := 0) rfl) (dq_lk dX4_is_v0 (r := 4) (x := 69) rfl) (by decide +kernel)
theorem dX4_is_5 : decode cX4_is 5 = .ok (.aload_n 0, 1) := dk_42 (dq_lk dX4_is_v0 (r := 5) (x := 42) rfl)
theorem dX4_is_6 : decode cX4_is 6 = .ok (.getfield 17, 3) := dk_180 (dq_lk dX4_is_v0 (r := 6) (x := 180) rfl) (dq_lk dX4_is_v0 (r := 7) (x := 0) rfl) (dq_lk dX4_is_v0 (r := 8) (x := 17) rfl)
theorem dX4_is_9 : decode cX4_is 9 = .ok (.iload_n 1, 1) := dk_27 (dq_lk dX4_is_v0 (r := 9) (x := 27) rfl)
theorem dX4_is_10 : decode cX4_is 10 = .ok (.iaload, 1) := dk_46 (dq_lk dX4_is_v0 (r := 10) (x := 46) rfl)
theorem dX4_is_11 : decode cX4_is 11 = .ok (.aload_n 0, 1) := dk_42 (dq_lk dX4_is_v0 (r := 11) (x := 42) rfl)
theorem dX4_is_12 : decode cX4_is 12 = .ok (.getfield 17, 3) := dk_180 (dq_lk dX4_is_v0 (r := 12) (x := 180) rfl) (dq_lk dX4_is_v0 (r := 13) (x := 0) rfl) (dq_lk dX4_is_v0 (r := 14) (x := 17) rfl)
theorem dX4_is_15 : decode cX4_is 15 = .ok (.iload_n 2, 1) := dk_28 (dq_lk dX4_is_v0 (r := 15) (x := 28) rfl)
theorem dX4_is_16 : decode cX4_is 16 = .ok (.iaload, 1) := dk_46 (dq_lk dX4_is_v1 (r := 0) (x := 46) rfl)
theorem dX4_is_17 : decode cX4_is 17 = .ok (.if_icmp .ne 52, 3) := dk_160 (dq_lk dX4_is_v1 (r := 1) (x := 160) rfl) (dq_lk dX4_is_v1 (r := 2) (x := 0) rfl) (dq_lk dX4_is_v1 (r := 3) (x := 52) rfl) (by decide +kernel)
theorem dX4_is_20 : decode cX4_is 20 = .ok (.aload_n 0, 1) := dk_42 (dq_lk dX4_is_v1 (r := 4) (x := 42) rfl)
theorem dX4_is_21 : decode cX4_is 21 = .ok (.getfield 20, 3) := dk_180 (dq_lk dX4_is_v1 (r := 5) (x := 180) rfl) (dq_lk dX4_is_v1 (r := 6) (x := 0) rfl) (dq_lk dX4_is_v1 (r := 7) (x := 20) rfl)
theorem dX4_is_24 : decode cX4_is 24 = .ok (.iload_n 1, 1) := dk_27 (dq_lk dX4_is_v1 (r := 8) (x := 27) rfl)
theorem dX4_is_25 : decode cX4_is 25 = .ok (.iaload, 1) := dk_46 (dq_lk dX4_is_v1 (r := 9) (x := 46) rfl)
theorem dX4_is_26 : decode cX4_is 26 = .ok (.aload_n 0, 1) := dk_42 (dq_lk dX4_is_v1 (r := 10) (x := 42) rfl)
theorem dX4_is_27 : decode cX4_is 27 = .ok (.getfield 20, 3) := dk_180 (dq_lk dX4_is_v1 (r := 11) (x := 180) rfl) (dq_lk dX4_is_v1 (r := 12) (x := 0) rfl) (dq_lk dX4_is_v1 (r := 13) (x := 20) rfl)
theorem dX4_is_30 : decode cX4_is 30 = .ok (.iload_n 2, 1) := dk_28 (dq_lk dX4_is_v1 (r := 14) (x := 28) rfl)
theorem dX4_is_31 : decode cX4_is 31 = .ok (.iaload, 1) := dk_46 (dq_lk dX4_is_v1 (r := 15) (x := 46) rfl)
theorem dX4_is_32 : decode cX4_is 32 = .ok (.if_icmp .ne 37, 3) := dk_160 (dq_lk dX4_is_v2 (r := 0) (x := 160) rfl) (dq_lk dX4_is_v2 (r := 1) (x := 0) rfl) (dq_lk dX4_is_v2 (r := 2) (x := 37) rfl) (by decide +kernel)
theorem dX4_is_35 : decode cX4_is 35 = .ok (.aload_n 0, 1) := dk_42 (dq_lk dX4_is_v2 (r := 3) (x := 42) rfl)
theorem dX4_is_36 : decode cX4_is 36 = .ok (.getfield 23, 3) := dk_180 (dq_lk dX4_is_v2 (r := 4) (x := 180) rfl) (dq_lk dX4_is_v2 (r := 5) (x := 0) rfl) (dq_lk dX4_is_v2 (r := 6) (x := 23) rfl)
theorem dX4_is_39 : decode cX4_is 39 = .ok (.iload_n 1, 1) := dk_27 (dq_lk dX4_is_v2 (r := 7) (x := 27) rfl)
theorem dX4_is_40 : decode cX4_is 40 = .ok (.iaload, 1) := dk_46 (dq_lk dX4_is_v2 (r := 8) (x := 46) rfl)
theorem dX4_is_41 : decode cX4_is 41 = .ok (.aload_n 0, 1) := dk_42 (dq_lk dX4_is_v2 (r := 9) (x := 42) rfl)
theorem dX4_is_42 : decode cX4_is 42 = .ok (.getfield 23, 3) := dk_180 (dq_lk dX4_is_v2 (r := 10) (x := 180) rfl) (dq_lk dX4_is_v2 (r := 11) (x := 0) rfl) (dq_lk dX4_is_v2 (r := 12) (x := 23) rfl)
theorem dX4_is_45 : decode cX4_is 45 = .ok (.iload_n 2, 1) := dk_28 (dq_lk dX4_is_v2 (r := 13) (x := 28) rfl)
theorem dX4_is_46 : decode cX4_is 46 = .ok (.iaload, 1) := dk_46 (dq_lk dX4_is_v2 (r := 14) (x := 46) rfl)
theorem dX4_is_47 : decode cX4_is 47 = .ok (.if_icmp .ne 22, 3) := dk_160 (dq_lk dX4_is_v2 (r := 15) (x := 160) rfl) (dq_lk dX4_is_v3 (r := 0) (x := 0) rfl) (dq_lk dX4_is_v3 (r := 1) (x := 22) rfl) (by decide +kernel)
theorem dX4_is_50 : decode cX4_is 50 = .ok (.aload_n 0, 1) := dk_42 (dq_lk dX4_is_v3 (r := 2) (x := 42) rfl)
theorem dX4_is_51 : decode cX4_is 51 = .ok (.getfield 26, 3) := dk_180 (dq_lk dX4_is_v3 (r := 3) (x := 180) rfl) (dq_lk dX4_is_v3 (r := 4) (x := 0) rfl) (dq_lk dX4_is_v3 (r := 5) (x := 26) rfl)
theorem dX4_is_54 : decode cX4_is 54 = .ok (.iload_n 1, 1) := dk_27 (dq_lk dX4_is_v3 (r := 6) (x := 27) rfl)
theorem dX4_is_55 : decode cX4_is 55 = .ok (.iaload, 1) := dk_46 (dq_lk dX4_is_v3 (r := 7) (x := 46) rfl)
theorem dX4_is_56 : decode cX4_is 56 = .ok (.aload_n 0, 1) := dk_42 (dq_lk dX4_is_v3 (r := 8) (x := 42) rfl)
theorem dX4_is_57 : decode cX4_is 57 = .ok (.getfield 26, 3) := dk_180 (dq_lk dX4_is_v3 (r := 9) (x := 180) rfl) (dq_lk dX4_is_v3 (r := 10) (x := 0) rfl) (dq_lk dX4_is_v3 (r := 11) (x := 26) rfl)
theorem dX4_is_60 : decode cX4_is 60 = .ok (.iload_n 2, 1) := dk_28 (dq_lk dX4_is_v3 (r := 12) (x := 28) rfl)
theorem dX4_is_61 : decode cX4_is 61 = .ok (.iaload, 1) := dk_46 (dq_lk dX4_is_v3 (r := 13) (x := 46) rfl)
theorem dX4_is_62 : decode cX4_is 62 = .ok (.if_icmp .ne 7, 3) := dk_160 (dq_lk dX4_is_v3 (r := 14) (x := 160) rfl) (dq_lk dX4_is_v3 (r := 15) (x := 0) rfl) (dq_lk dX4_is_v4 (r := 0) (x := 7) rfl) (by decide +kernel)
theorem dX4_is_65 : decode cX4_is 65 = .ok (.iconst 1, 1) := dk_4 (dq_lk dX4_is_v4 (r := 1) (x := 4) rfl)
theorem dX4_is_66 : decode cX4_is 66 = .ok (.goto 4, 3) := dk_167 (dq_lk dX4_is_v4 (r := 2) (x := 167) rfl) (dq_lk dX4_is_v4 (r := 3) (x := 0) rfl) (dq_lk dX4_is_v4 (r := 4) (x := 4) rfl) (by decide +kernel)
theorem dX4_is_69 : decode cX4_is 69 = .ok (.iconst 0, 1) := dk_3 (dq_lk dX4_is_v4 (r := 5) (x := 3) rfl)
theorem dX4_is_70 : decode cX4_is 70 = .ok (.ireturn, 1) := dk_172 (dq_lk dX4_is_v4 (r := 6) (x := 172) rfl)
theorem dX4_is_71 : decode cX4_is 71 = .ok (.aload_n 0, 1) := dk_42 (dq_lk dX4_is_v4 (r := 7) (x := 42) rfl)
theorem dX4_is_72 : decode cX4_is 72 = .ok (.iload_n 1, 1) := dk_27 (dq_lk dX4_is_v4 (r := 8) (x := 27) rfl)
theorem dX4_is_73 : decode cX4_is 73 = .ok (.invokevirtual 115, 3) := dk_182 (dq_lk dX4_is_v4 (r := 9) (x := 182) rfl) (dq_lk dX4_is_v4 (r := 10) (x := 0) rfl) (dq_lk dX4_is_v4 (r := 11) (x := 115) rfl)
theorem dX4_is_76 : decode cX4_is 76 = .ok (.aload_n 0, 1) := dk_42 (dq_lk dX4_is_v4 (r := 12) (x := 42) rfl)
theorem dX4_is_77 : decode cX4_is 77 = .ok (.iload_n 2, 1) := dk_28 (dq_lk dX4_is_v4 (r := 13) (x := 28) rfl)
theorem dX4_is_78 : decode cX4_is 78 = .ok (.invokevirtual 115, 3) := dk_182 (dq_lk dX4_is_v4 (r := 14) (x := 182) rfl) (dq_lk dX4_is_v4 (r := 15) (x := 0) rfl) (dq_lk dX4_is_v5 (r := 0) (x := 115) rfl)
theorem dX4_is_81 : decode cX4_is 81 = .ok (.invokestatic 88, 3) := dk_184 (dq_lk dX4_is_v5 (r := 1) (x := 184) rfl) (dq_lk dX4_is_v5 (r := 2) (x := 0) rfl) (dq_lk dX4_is_v5 (r := 3) (x := 88) rfl)
theorem dX4_is_84 : decode cX4_is 84 = .ok (.iload_n 3, 1) := dk_29 (dq_lk dX4_is_v5 (r := 4) (x := 29) rfl)
theorem dX4_is_85 : decode cX4_is 85 = .ok (.ifCond .ne 7, 3) := dk_154 (dq_lk dX4_is_v5 (r := 5) (x := 154) rfl) (dq_lk dX4_is_v5 (r := 6) (x := 0) rfl) (dq_lk dX4_is_v5 (r := 7) (x := 7) rfl) (by decide +kernel)
theorem dX4_is_88 : decode cX4_is 88 = .ok (.iconst (-1), 1) := dk_2 (dq_lk dX4_is_v5 (r := 8) (x := 2) rfl)
theorem dX4_is_89 : decode cX4_is 89 = .ok (.goto 13, 3) := dk_167 (dq_lk dX4_is_v5 (r := 9) (x := 167) rfl) (dq_lk dX4_is_v5 (r := 10) (x := 0) rfl) (dq_lk dX4_is_v5 (r := 11) (x := 13) rfl) (by decide +kernel)
theorem dX4_is_92 : decode cX4_is 92 = .ok (.iload_n 3, 1) := dk_29 (dq_lk dX4_is_v5 (r := 12) (x := 29) rfl)
theorem dX4_is_93 : decode cX4_is 93 = .ok (.iconst 1, 1) := dk_4 (dq_lk dX4_is_v5 (r := 13) (x := 4) rfl)
theorem dX4_is_94 : decode cX4_is 94 = .ok (.if_icmp .ne 7, 3) := dk_160 (dq_lk dX4_is_v5 (r := 14) (x := 160) rfl) (dq_lk dX4_is_v5 (r := 15) (x := 0) rfl) (dq_lk dX4_is_v6 (r := 0) (x := 7) rfl) (by decide +kernel)
theorem dX4_is_97 : decode cX4_is 97 = .ok (.iconst 1, 1) := dk_4 (dq_lk dX4_is_v6 (r := 1) (x := 4) rfl)
theorem dX4_is_98 : decode cX4_is 98 = .ok (.goto 4, 3) := dk_167 (dq_lk dX4_is_v6 (r := 2) (x := 167) rfl) (dq_lk dX4_is_v6 (r := 3) (x := 0) rfl) (dq_lk dX4_is_v6 (r := 4) (x := 4) rfl) (by decide +kernel)
theorem dX4_is_101 : decode cX4_is 101 = .ok (.iconst 0, 1) := dk_3 (dq_lk dX4_is_v6 (r := 5) (x := 3) rfl)
theorem dX4_is_102 : decode cX4_is 102 = .ok (.if_icmp .ne 7, 3) := dk_160 (dq_lk dX4_is_v6 (r := 6) (x := 160) rfl) (dq_lk dX4_is_v6 (r := 7) (x := 0) rfl) (dq_lk dX4_is_v6 (r := 8) (x := 7) rfl) (by decide +kernel)
theorem dX4_is_105 : decode cX4_is 105 = .ok (.iconst 1, 1) := dk_4 (dq_lk dX4_is_v6 (r := 9) (x := 4) rfl)
theorem dX4_is_106 : decode cX4_is 106 = .ok (.goto 4, 3) := dk_167 (dq_lk dX4_is_v6 (r := 10) (x := 167) rfl) (dq_lk dX4_is_v6 (r := 11) (x := 0) rfl) (dq_lk dX4_is_v6 (r := 12) (x := 4) rfl) (by decide +kernel)
theorem dX4_is_109 : decode cX4_is 109 = .ok (.iconst 0, 1) := dk_3 (dq_lk dX4_is_v6 (r := 13) (x := 3) rfl)
theorem dX4_is_110 : decode cX4_is 110 = .ok (.ireturn, 1) := dk_172 (dq_lk dX4_is_v6 (r := 14) (x := 172) rfl)
theorem dX4_orderDate_v0 : (cX4_orderDate.data.toList.drop 0).take 16 = [42, 27, 184, 0, 61, 154, 0, 10, 28, 184, 0, 61, 153, 0, 7, 4] := by decide +kernel
theorem dX4_orderDate_v1 : (cX4_orderDate.data.toList.drop 16).take 16 = [167, 0, 4, 3, 3, 182, 0, 68, 153, 0, 7, 3, 167, 0, 9, 42] := by decide +kernel
theorem dX4_orderDate_v2 : (cX4_orderDate.data.toList.drop 32).take 16 = [27, 28, 182, 0, 196, 172] := by decide +kernel
theorem dX4_orderDate_0 : decode cX4_orderDate 0 = .ok (.aload_n 0, 1) := dk_42 (dq_lk dX4_orderDate_v0 (r := 0) (x := 42) rfl)
theorem dX4_orderDate_1 : decode cX4_orderDate 1 = .ok (.iload_n 1, 1) := dk_27 (dq_lk dX4_orderDate_v0 (r := 1) (x := 27) rfl)
theorem dX4_orderDate_2 : decode cX4_orderDate 2 = .ok (.invokestatic 61, 3) := dk_184 (dq_lk dX4_orderDate_v0 (r := 2) (x := 184) rfl) (dq_lk dX4_orderDate_v0 (r := 3) (x := 0) rfl) (dq_lk dX4_orderDate_v0 (r := 4) (x := 61) rfl)
theorem dX4_orderDate_5 : decode cX4_orderDate 5 = .ok (.ifCond .ne 10, 3) := dk_154 (dq_lk dX4_orderDate_v0 (r := 5) (x := 154) rfl) (dq_lk dX4_orderDate_v0 (r := 6) (x := 0) rfl) (dq_lk dX4_orderDate_v0 (r := 7) (x := 10) rfl) (by decide +kernel)
theorem dX4_orderDate_8 : decode cX4_orderDate 8 = .ok (.iload_n 2, 1) := dk_28 (dq_lk dX4_orderDate_v0 (r := 8) (x := 28) rfl)
theorem dX4_orderDate_9 : decode cX4_orderDate 9 = .ok (.invokestatic 61, 3) := dk_184 (dq_lk dX4_orderDate_v0 (r := 9) (x := 184) rfl) (dq_lk dX4_orderDate_v0 (r := 10) (x := 0) rfl) (dq_lk dX4_orderDate_v0 (r := 11) (x := 61) rfl)
theorem dX4_orderDate_12 : decode cX4_orderDate 12 = .ok (.ifCond .eq 7, 3) := dk_153 (dq_lk dX4_orderDate_v0 (r := 12) (x := 153) rfl) (dq_lk dX4_orderDate_v0 (r := 13) (x := 0) rfl) (dq_lk dX4_orderDate_v0 (r := 14) (x := 7) rfl) (by decide +kernel)
theorem dX4_orderDate_15 : decode cX4_orderDate 15 = .ok (.iconst 1, 1) := dk_4 (dq_lk dX4_orderDate_v0 (r := 15) (x := 4) rfl)
theorem dX4_orderDate_16 : decode cX4_orderDate 16 = .ok (.goto 4, 3) := dk_167 (dq_lk dX4_orderDate_v1 (r := 0) (x := 167) rfl) (dq_lk dX4_orderDate_v1 (r := 1) (x := 0) rfl) (dq_lk dX4_orderDate_v1 (r := 2) (x := 4) rfl) (by decide +kernel)
theorem dX4_orderDate_19 : decode cX4_orderDate 19 = .ok (.iconst 0, 1) := dk_3 (dq_lk dX4_orderDate_v1 (r := 3) (x := 3) rfl)
theorem dX4_orderDate_20 : decode cX4_orderDate 20 = .ok (.iconst 0, 1) := dk_3 (dq_lk dX4_orderDate_v1 (r := 4) (x := 3) rfl)
theorem dX4_orderDate_21 : decode cX4_orderDate 21 = .ok (.invokevirtual 68, 3) := dk_182 (dq_lk dX4_orderDate_v1 (r := 5) (x := 182) rfl) (dq_lk dX4_orderDate_v1 (r := 6) (x := 0) rfl) (dq_lk dX4_orderDate_v1 (r := 7) (x := 68) rfl)
theorem dX4_orderDate_24 : decode cX4_orderDate 24 = .ok (.ifCond .eq 7, 3) := dk_153 (dq_lk dX4_orderDate_v1 (r := 8) (x := 153) rfl) (dq_lk dX4_orderDate_v1 (r := 9) (x := 0) rfl) (dq_lk dX4_orderDate_v1 (r := 10) (x := 7) rfl) (by decide +kernel)
theorem dX4_orderDate_27 : decode cX4_orderDate 27 = .ok (.iconst 0, 1) := dk_3 (dq_lk dX4_orderDate_v1 (r := 11) (x := 3) rfl)
theorem dX4_orderDate_28 : decode cX4_orderDate 28 = .ok (.goto 9, 3) := dk_167 (dq_lk dX4_orderDate_v1 (r := 12) (x := 167) rfl) (dq_lk dX4_orderDate_v1 (r := 13) (x := 0) rfl) (dq_lk dX4_orderDate_v1 (r := 14) (x := 9) rfl) (by decide +kernel)
theorem dX4_orderDate_31 : decode cX4_orderDate 31 = .ok (.aload_n 0, 1) := dk_42 (dq_lk dX4_orderDate_v1 (r := 15) (x := 42) rfl)
theorem dX4_orderDate_32 : decode cX4_orderDate 32 = .ok (.iload_n 1, 1) := dk_27 (dq_lk dX4_orderDate_v2 (r := 0) (x := 27) rfl)
theorem dX4_orderDate_33 : decode cX4_orderDate 33 = .ok (.iload_n 2, 1) := dk_28 (dq_lk dX4_orderDate_v2 (r := 1) (x := 28) rfl)
theorem dX4_orderDate_34 : decode cX4_orderDate 34 = .ok (.invokevirtual 196, 3) := dk_182 (dq_lk dX4_orderDate_v2 (r := 2) (x := 182) rfl) (dq_lk dX4_orderDate_v2 (r := 3) (x := 0) rfl) (dq_lk dX4_orderDate_v2 (r := 4) (x := 196) rfl)
theorem dX4_orderDate_37 : decode cX4_orderDate 37 = .ok (.ireturn, 1) := dk_172 (dq_lk dX4_orderDate_v2 (r := 5) (x := 172) rfl)
theorem dX4_isDate_v0 : (cX4_isDate.data.toList.drop 0).take 16 = [42, 27, 184, 0, 61, 154, 0, 10, 28, 184, 0, 61, 153, 0, 7, 4] := by decide +kernel
theorem dX4_isDate_v1 : (cX4_isDate.data.toList.drop 16).take 16 = [167, 0, 4, 3, 29, 133, 9, 20, 0, 36, 184, 0, 38, 154, 0, 7] := by decide +kernel
theorem dX4_isDate_v2 : (cX4_isDate.data.toList.drop 32).take 16 = [4, 167, 0, 4, 3, 182, 0, 68, 154, 0, 17, 42, 27, 28, 29, 182] := by decide +kernel
theorem dX4_isDate_v3 : (cX4_isDate.data.toList.drop 48).take 16 = [0, 199, 153, 0, 7, 4, 167, 0, 4, 3, 172] := by decide +kernel
theorem dX4_isDate_0 : decode cX4_isDate 0 = .ok (.aload_n 0, 1) := dk_42 (dq_lk dX4_isDate_v0 (r := 0) (x := 42) rfl)
theorem dX4_isDate_1 : decode cX4_isDate 1 = .ok (.iload_n 1, 1) := dk_27 (dq_lk dX4_isDate_v0 (r := 1) (x := 27) rfl)
theorem dX4_isDate_2 : decode cX4_isDate 2 = .ok (.invokestatic 61, 3) := dk_184 (dq_lk dX4_isDate_v0 (r := 2) (x := 184) rfl) (dq_lk dX4_isDate_v0 (r := 3) (x := 0) rfl) (dq_lk dX4_isDate_v0 (r := 4) (x := 61) rfl)
theorem dX4_isDate_5 : decode cX4_isDate 5 = .ok (.ifCond .ne 10, 3) := dk_154 (dq_lk dX4_isDate_v0 (r := 5) (x := 154) rfl) (dq_lk dX4_isDate_v0 (r := 6) (x := 0) rfl) (dq_lk dX4_isDate_v0 (r := 7) (x := 10) rfl) (by decide +kernel)
theorem dX4_isDate_8 : decode cX4_isDate 8 = .ok (.iload_n 2, 1) := dk_28 (dq_lk dX4_isDate_v0 (r := 8) (x := 28) rfl)
theorem dX4_isDate_9 : decode cX4_isDate 9 = .ok (.invokestatic 61, 3) := dk_184 (dq_lk dX4_isDate_v0 (r := 9) (x := 184) rfl) (dq_lk dX4_isDate_v0 (r := 10) (x := 0) rfl) (dq_lk dX4_isDate_v0 (r := 11) (x := 61) rfl)
theorem dX4_isDate_12 : decode cX4_isDate 12 = .ok (.ifCond .eq 7, 3) := dk_153 (dq_lk dX4_isDate_v0 (r := 12) (x := 153) rfl) (dq_lk dX4_isDate_v0 (r := 13) (x := 0) rfl) (dq_lk dX4_isDate_v0 (r := 14) (x := 7) rfl) (by decide +kernel)
theorem dX4_isDate_15 : decode cX4_isDate 15 = .ok (.iconst 1, 1) := dk_4 (dq_lk dX4_isDate_v0 (r := 15) (x := 4) rfl)
theorem dX4_isDate_16 : decode cX4_isDate 16 = .ok (.goto 4, 3) := dk_167 (dq_lk dX4_isDate_v1 (r := 0) (x := 167) rfl) (dq_lk dX4_isDate_v1 (r := 1) (x := 0) rfl) (dq_lk dX4_isDate_v1 (r := 2) (x := 4) rfl) (by decide +kernel)
theorem dX4_isDate_19 : decode cX4_isDate 19 = .ok (.iconst 0, 1) := dk_3 (dq_lk dX4_isDate_v1 (r := 3) (x := 3) rfl)
theorem dX4_isDate_20 : decode cX4_isDate 20 = .ok (.iload_n 3, 1) := dk_29 (dq_lk dX4_isDate_v1 (r := 4) (x := 29) rfl)
theorem dX4_isDate_21 : decode cX4_isDate 21 = .ok (.i2l, 1) := dk_133 (dq_lk dX4_isDate_v1 (r := 5) (x := 133) rfl)
theorem dX4_isDate_22 : decode cX4_isDate 22 = .ok (.lconst 0, 1) := dk_9 (dq_lk dX4_isDate_v1 (r := 6) (x := 9) rfl)
theorem dX4_isDate_23 : decode cX4_isDate 23 = .ok (.ldc2_w 36, 3) := dk_20 (dq_lk dX4_isDate_v1 (r := 7) (x := 20) rfl) (dq_lk dX4_isDate_v1 (r := 8) (x := 0) rfl) (dq_lk dX4_isDate_v1 (r := 9) (x := 36) rfl)
theorem dX4_isDate_26 : decode cX4_isDate 26 = .ok (.invokestatic 38, 3) := dk_184 (dq_lk dX4_isDate_v1 (r := 10) (x := 184) rfl) (dq_lk dX4_isDate_v1 (r := 11) (x := 0) rfl) (dq_lk dX4_isDate_v1 (r := 12) (x := 38) rfl)
theorem dX4_isDate_29 : decode cX4_isDate 29 = .ok (.ifCond .ne 7, 3) := dk_154 (dq_lk dX4_isDate_v1 (r := 13) (x := 154) rfl) (dq_lk dX4_isDate_v1 (r := 14) (x := 0) rfl) (dq_lk dX4_isDate_v1 (r := 15) (x := 7) rfl) (by decide +kernel)
theorem dX4_isDate_32 : decode cX4_isDate 32 = .ok (.iconst 1, 1) := dk_4 (dq_lk dX4_isDate_v2 (r := 0) (x := 4) rfl)
theorem dX4_isDate_33 : decode cX4_isDate 33 = .ok (.goto 4, 3) := dk_167 (dq_lk dX4_isDate_v2 (r := 1) (x := 167) rfl) (dq_lk dX4_isDate_v2 (r := 2) (x := 0) rfl) (dq_lk dX4_isDate_v2 (r := 3) (x := 4) rfl) (by decide +kernel)
theorem dX4_isDate_36 : decode cX4_isDate 36 = .ok (.iconst 0, 1) := dk_3 (dq_lk dX4_isDate_v2 (r := 4) (x := 3) rfl)
theorem dX4_isDate_37 : decode cX4_isDate 37 = .ok (.invokevirtual 68, 3) := dk_182 (dq_lk dX4_isDate_v2 (r := 5) (x := 182) rfl) (dq_lk dX4_isDate_v2 (r := 6) (x := 0) rfl) (dq_lk dX4_isDate_v2 (r := 7) (x := 68) rfl)
theorem dX4_isDate_40 : decode cX4_isDate 40 = .ok (.ifCond .ne 17, 3) := dk_154 (dq_lk dX4_isDate_v2 (r := 8) (x := 154) rfl) (dq_lk dX4_isDate_v2 (r := 9) (x := 0) rfl) (dq_lk dX4_isDate_v2 (r := 10) (x := 17) rfl) (by decide +kernel)
theorem dX4_isDate_43 : decode cX4_isDate 43 = .ok (.aload_n 0, 1) := dk_42 (dq_lk dX4_isDate_v2 (r := 11) (x := 42) rfl)
theorem dX4_isDate_44 : decode cX4_isDate 44 = .ok (.iload_n 1, 1) := dk_27 (dq_lk dX4_isDate_v2 (r := 12) (x := 27) rfl)
theorem dX4_isDate_45 : decode cX4_isDate 45 = .ok (.iload_n 2, 1) := dk_28 (dq_lk dX4_isDate_v2 (r := 13) (x := 28) rfl)
theorem dX4_isDate_46 : decode cX4_isDate 46 = .ok (.iload_n 3, 1) := dk_29 (dq_lk dX4_isDate_v2 (r := 14) (x := 29) rfl)
theorem dX4_isDate_47 : decode cX4_isDate 47 = .ok (.invokevirtual 199, 3) := dk_182 (dq_lk dX4_isDate_v2 (r := 15) (x := 182) rfl) (dq_lk dX4_isDate_v3 (r := 0) (x := 0) rfl) (dq_lk dX4_isDate_v3 (r := 1) (x := 199) rfl)
theorem dX4_isDate_50 : decode cX4_isDate 50 = .ok (.ifCond .eq 7, 3) := dk_153 (dq_lk dX4_isDate_v3 (r := 2) (x := 153) rfl) (dq_lk dX4_isDate_v3 (r := 3) (x := 0) rfl) (dq_lk dX4_isDate_v3 (r := 4) (x := 7) rfl) (by decide +kernel)
theorem dX4_isDate_53 : decode cX4_isDate 53 = .ok (.iconst 1, 1) := dk_4 (dq_lk dX4_isDate_v3 (r := 5) (x := 4) rfl)
theorem dX4_isDate_54 : decode cX4_isDate 54 = .ok (.goto 4, 3) := dk_167 (dq_lk dX4_isDate_v3 (r := 6) (x := 167) rfl) (dq_lk dX4_isDate_v3 (r := 7) (x := 0) rfl) (dq_lk dX4_isDate_v3 (r := 8) (x := 4) rfl) (by decide +kernel)
theorem dX4_isDate_57 : decode cX4_isDate 57 = .ok (.iconst 0, 1) := dk_3 (dq_lk dX4_isDate_v3 (r := 9) (x := 3) rfl)
theorem dX4_isDate_58 : decode cX4_isDate 58 = .ok (.ireturn, 1) := dk_172 (dq_lk dX4_isDate_v3 (r := 10) (x := 172) rfl)
theorem dX4_ofSecond_v0 : (cX4_ofSecond.data.toList.drop 0).take 16 = [42, 180, 0, 20, 7, 27, 96, 46, 42, 180, 0, 26, 7, 27, 96, 46] := by decide +kernel
theorem dX4_ofSecond_v1 : (cX4_ofSecond.data.toList.drop 16).take 16 = [100, 172] := by decide +kernel
theorem dX4_ofSecond_0 : decode cX4_ofSecond 0 = .ok (.aload_n 0, 1) := dk_42 (dq_lk dX4_ofSecond_v0 (r := 0) (x := 42) rfl)
theorem dX4_ofSecond_1 : decode cX4_ofSecond 1 = .ok (.getfield 20, 3) := dk_180 (dq_lk dX4_ofSecond_v0 (r := 1) (x := 180) rfl) (dq_lk dX4_ofSecond_v0 (r := 2) (x := 0) rfl) (dq_lk dX4_ofSecond_v0 (r := 3) (x := 20) rfl)
theorem dX4_ofSecond_4 : decode cX4_ofSecond 4 = .ok (.iconst 4, 1) := dk_7 (dq_lk dX4_ofSecond_v0 (r := 4) (x := 7) rfl)
theorem dX4_ofSecond_5 : decode cX4_ofSecond 5 = .ok (.iload_n 1, 1) := dk_27 (dq_lk dX4_ofSecond_v0 (r := 5) (x := 27) rfl)
theorem dX4_ofSecond_6 : decode cX4_ofSecond 6 = .ok (.iadd, 1) := dk_96 (dq_lk dX4_ofSecond_v0 (r := 6) (x := 96) rfl)
theorem dX4_ofSecond_7 : decode cX4_ofSecond 7 = .ok (.iaload, 1) := dk_46 (dq_lk dX4_ofSecond_v0 (r := 7) (x := 46) rfl)
theorem dX4_ofSecond_8 : decode cX4_ofSecond 8 = .ok (.aload_n 0, 1) := dk_42 (dq_lk dX4_ofSecond_v0 (r := 8) (x := 42) rfl)
theorem dX4_ofSecond_9 : decode cX4_ofSecond 9 = .ok (.getfield 26, 3) := dk_180 (dq_lk dX4_ofSecond_v0 (r := 9) (x := 180) rfl) (dq_lk dX4_ofSecond_v0 (r := 10) (x := 0) rfl) (dq_lk dX4_ofSecond_v0 (r := 11) (x := 26) rfl)
theorem dX4_ofSecond_12 : decode cX4_ofSecond 12 = .ok (.iconst 4, 1) := dk_7 (dq_lk dX4_ofSecond_v0 (r := 12) (x := 7) rfl)
theorem dX4_ofSecond_13 : decode cX4_ofSecond 13 = .ok (.iload_n 1, 1) := dk_27 (dq_lk dX4_ofSecond_v0 (r := 13) (x := 27) rfl)
theorem dX4_ofSecond_14 : decode cX4_ofSecond 14 = .ok (.iadd, 1) := dk_96 (dq_lk dX4_ofSecond_v0 (r := 14) (x := 96) rfl)
theorem dX4_ofSecond_15 : decode cX4_ofSecond 15 = .ok (.iaload, 1) := dk_46 (dq_lk dX4_ofSecond_v0 (r := 15) (x := 46) rfl)
theorem dX4_ofSecond_16 : decode cX4_ofSecond 16 = .ok (.isub, 1) := dk_100 (dq_lk dX4_ofSecond_v1 (r := 0) (x := 100) rfl)
theorem dX4_ofSecond_17 : decode cX4_ofSecond 17 = .ok (.ireturn, 1) := dk_172 (dq_lk dX4_ofSecond_v1 (r := 1) (x := 172) rfl)
theorem dX4_turn_v0 : (cX4_turn.data.toList.drop 0).take 16 = [42, 7, 27, 96, 3, 32, 20, 0, 113, 184, 0, 102, 21, 4, 21, 5] := by decide +kernel
theorem dX4_turn_v1 : (cX4_turn.data.toList.drop 16).take 16 = [182, 0, 139, 87, 42, 27, 182, 0, 202, 172] := by decide +kernel
theorem dX4_turn_0 : decode cX4_turn 0 = .ok (.aload_n 0, 1) := dk_42 (dq_lk dX4_turn_v0 (r := 0) (x := 42) rfl)
theorem dX4_turn_1 : decode cX4_turn 1 = .ok (.iconst 4, 1) := dk_7 (dq_lk dX4_turn_v0 (r := 1) (x := 7) rfl)
theorem dX4_turn_2 : decode cX4_turn 2 = .ok (.iload_n 1, 1) := dk_27 (dq_lk dX4_turn_v0 (r := 2) (x := 27) rfl)
theorem dX4_turn_3 : decode cX4_turn 3 = .ok (.iadd, 1) := dk_96 (dq_lk dX4_turn_v0 (r := 3) (x := 96) rfl)
theorem dX4_turn_4 : decode cX4_turn 4 = .ok (.iconst 0, 1) := dk_3 (dq_lk dX4_turn_v0 (r := 4) (x := 3) rfl)
theorem dX4_turn_5 : decode cX4_turn 5 = .ok (.lload_n 2, 1) := dk_32 (dq_lk dX4_turn_v0 (r := 5) (x := 32) rfl)
theorem dX4_turn_6 : decode cX4_turn 6 = .ok (.ldc2_w 113, 3) := dk_20 (dq_lk dX4_turn_v0 (r := 6) (x := 20) rfl) (dq_lk dX4_turn_v0 (r := 7) (x := 0) rfl) (dq_lk dX4_turn_v0 (r := 8) (x := 113) rfl)
theorem dX4_turn_9 : decode cX4_turn 9 = .ok (.invokestatic 102, 3) := dk_184 (dq_lk dX4_turn_v0 (r := 9) (x := 184) rfl) (dq_lk dX4_turn_v0 (r := 10) (x := 0) rfl) (dq_lk dX4_turn_v0 (r := 11) (x := 102) rfl)
theorem dX4_turn_12 : decode cX4_turn 12 = .ok (.iload 4, 2) := dk_21 (dq_lk dX4_turn_v0 (r := 12) (x := 21) rfl) (dq_lk dX4_turn_v0 (r := 13) (x := 4) rfl)
theorem dX4_turn_14 : decode cX4_turn 14 = .ok (.iload 5, 2) := dk_21 (dq_lk dX4_turn_v0 (r := 14) (x := 21) rfl) (dq_lk dX4_turn_v0 (r := 15) (x := 5) rfl)
theorem dX4_turn_16 : decode cX4_turn 16 = .ok (.invokevirtual 139, 3) := dk_182 (dq_lk dX4_turn_v1 (r := 0) (x := 182) rfl) (dq_lk dX4_turn_v1 (r := 1) (x := 0) rfl) (dq_lk dX4_turn_v1 (r := 2) (x := 139) rfl)
theorem dX4_turn_19 : decode cX4_turn 19 = .ok (.pop, 1) := dk_87 (dq_lk dX4_turn_v1 (r := 3) (x := 87) rfl)
theorem dX4_turn_20 : decode cX4_turn 20 = .ok (.aload_n 0, 1) := dk_42 (dq_lk dX4_turn_v1 (r := 4) (x := 42) rfl)
theorem dX4_turn_21 : decode cX4_turn 21 = .ok (.iload_n 1, 1) := dk_27 (dq_lk dX4_turn_v1 (r := 5) (x := 27) rfl)
theorem dX4_turn_22 : decode cX4_turn 22 = .ok (.invokevirtual 202, 3) := dk_182 (dq_lk dX4_turn_v1 (r := 6) (x := 182) rfl) (dq_lk dX4_turn_v1 (r := 7) (x := 0) rfl) (dq_lk dX4_turn_v1 (r := 8) (x := 202) rfl)
theorem dX4_turn_25 : decode cX4_turn 25 = .ok (.ireturn, 1) := dk_172 (dq_lk dX4_turn_v1 (r := 9) (x := 172) rfl)
theorem dX4_clock_v0 : (cX4_clock.data.toList.drop 0).take 16 = [42, 27, 184, 0, 205, 154, 0, 11, 21, 4, 184, 0, 61, 153, 0, 7] := by decide +kernel
theorem dX4_clock_v1 : (cX4_clock.data.toList.drop 16).take 16 = [4, 167, 0, 4, 3, 28, 29, 184, 0, 155, 154, 0, 7, 4, 167, 0] := by decide +kernel
theorem dX4_clock_v2 : (cX4_clock.data.toList.drop 32).take 16 = [4, 3, 182, 0, 68, 153, 0, 7, 3, 167, 0, 18, 42, 27, 28, 133] := by decide +kernel
theorem dX4_clock_v3 : (cX4_clock.data.toList.drop 48).take 16 = [29, 42, 180, 0, 7, 21, 4, 46, 182, 0, 208, 172] := by decide +kernel
theorem dX4_clock_0 : decode cX4_clock 0 = .ok (.aload_n 0, 1) := dk_42 (dq_lk dX4_clock_v0 (r := 0) (x := 42) rfl)
theorem dX4_clock_1 : decode cX4_clock 1 = .ok (.iload_n 1, 1) := dk_27 (dq_lk dX4_clock_v0 (r := 1) (x := 27) rfl)
theorem dX4_clock_2 : decode cX4_clock 2 = .ok (.invokestatic 205, 3) := dk_184 (dq_lk dX4_clock_v0 (r := 2) (x := 184) rfl) (dq_lk dX4_clock_v0 (r := 3) (x := 0) rfl) (dq_lk dX4_clock_v0 (r := 4) (x := 205) rfl)
theorem dX4_clock_5 : decode cX4_clock 5 = .ok (.ifCond .ne 11, 3) := dk_154 (dq_lk dX4_clock_v0 (r := 5) (x := 154) rfl) (dq_lk dX4_clock_v0 (r := 6) (x := 0) rfl) (dq_lk dX4_clock_v0 (r := 7) (x := 11) rfl) (by decide +kernel)
theorem dX4_clock_8 : decode cX4_clock 8 = .ok (.iload 4, 2) := dk_21 (dq_lk dX4_clock_v0 (r := 8) (x := 21) rfl) (dq_lk dX4_clock_v0 (r := 9) (x := 4) rfl)
theorem dX4_clock_10 : decode cX4_clock 10 = .ok (.invokestatic 61, 3) := dk_184 (dq_lk dX4_clock_v0 (r := 10) (x := 184) rfl) (dq_lk dX4_clock_v0 (r := 11) (x := 0) rfl) (dq_lk dX4_clock_v0 (r := 12) (x := 61) rfl)
theorem dX4_clock_13 : decode cX4_clock 13 = .ok (.ifCond .eq 7, 3) := dk_153 (dq_lk dX4_clock_v0 (r := 13) (x := 153) rfl) (dq_lk dX4_clock_v0 (r := 14) (x := 0) rfl) (dq_lk dX4_clock_v0 (r := 15) (x := 7) rfl) (by decide +kernel)
theorem dX4_clock_16 : decode cX4_clock 16 = .ok (.iconst 1, 1) := dk_4 (dq_lk dX4_clock_v1 (r := 0) (x := 4) rfl)
theorem dX4_clock_17 : decode cX4_clock 17 = .ok (.goto 4, 3) := dk_167 (dq_lk dX4_clock_v1 (r := 1) (x := 167) rfl) (dq_lk dX4_clock_v1 (r := 2) (x := 0) rfl) (dq_lk dX4_clock_v1 (r := 3) (x := 4) rfl) (by decide +kernel)
theorem dX4_clock_20 : decode cX4_clock 20 = .ok (.iconst 0, 1) := dk_3 (dq_lk dX4_clock_v1 (r := 4) (x := 3) rfl)
theorem dX4_clock_21 : decode cX4_clock 21 = .ok (.iload_n 2, 1) := dk_28 (dq_lk dX4_clock_v1 (r := 5) (x := 28) rfl)
theorem dX4_clock_22 : decode cX4_clock 22 = .ok (.iload_n 3, 1) := dk_29 (dq_lk dX4_clock_v1 (r := 6) (x := 29) rfl)
theorem dX4_clock_23 : decode cX4_clock 23 = .ok (.invokestatic 155, 3) := dk_184 (dq_lk dX4_clock_v1 (r := 7) (x := 184) rfl) (dq_lk dX4_clock_v1 (r := 8) (x := 0) rfl) (dq_lk dX4_clock_v1 (r := 9) (x := 155) rfl)
theorem dX4_clock_26 : decode cX4_clock 26 = .ok (.ifCond .ne 7, 3) := dk_154 (dq_lk dX4_clock_v1 (r := 10) (x := 154) rfl) (dq_lk dX4_clock_v1 (r := 11) (x := 0) rfl) (dq_lk dX4_clock_v1 (r := 12) (x := 7) rfl) (by decide +kernel)
theorem dX4_clock_29 : decode cX4_clock 29 = .ok (.iconst 1, 1) := dk_4 (dq_lk dX4_clock_v1 (r := 13) (x := 4) rfl)
theorem dX4_clock_30 : decode cX4_clock 30 = .ok (.goto 4, 3) := dk_167 (dq_lk dX4_clock_v1 (r := 14) (x := 167) rfl) (dq_lk dX4_clock_v1 (r := 15) (x := 0) rfl) (dq_lk dX4_clock_v2 (r := 0) (x := 4) rfl) (by decide +kernel)
theorem dX4_clock_33 : decode cX4_clock 33 = .ok (.iconst 0, 1) := dk_3 (dq_lk dX4_clock_v2 (r := 1) (x := 3) rfl)
theorem dX4_clock_34 : decode cX4_clock 34 = .ok (.invokevirtual 68, 3) := dk_182 (dq_lk dX4_clock_v2 (r := 2) (x := 182) rfl) (dq_lk dX4_clock_v2 (r := 3) (x := 0) rfl) (dq_lk dX4_clock_v2 (r := 4) (x := 68) rfl)
theorem dX4_clock_37 : decode cX4_clock 37 = .ok (.ifCond .eq 7, 3) := dk_153 (dq_lk dX4_clock_v2 (r := 5) (x := 153) rfl) (dq_lk dX4_clock_v2 (r := 6) (x := 0) rfl) (dq_lk dX4_clock_v2 (r := 7) (x := 7) rfl) (by decide +kernel)
theorem dX4_clock_40 : decode cX4_clock 40 = .ok (.iconst 0, 1) := dk_3 (dq_lk dX4_clock_v2 (r := 8) (x := 3) rfl)
theorem dX4_clock_41 : decode cX4_clock 41 = .ok (.goto 18, 3) := dk_167 (dq_lk dX4_clock_v2 (r := 9) (x := 167) rfl) (dq_lk dX4_clock_v2 (r := 10) (x := 0) rfl) (dq_lk dX4_clock_v2 (r := 11) (x := 18) rfl) (by decide +kernel)
theorem dX4_clock_44 : decode cX4_clock 44 = .ok (.aload_n 0, 1) := dk_42 (dq_lk dX4_clock_v2 (r := 12) (x := 42) rfl)
theorem dX4_clock_45 : decode cX4_clock 45 = .ok (.iload_n 1, 1) := dk_27 (dq_lk dX4_clock_v2 (r := 13) (x := 27) rfl)
theorem dX4_clock_46 : decode cX4_clock 46 = .ok (.iload_n 2, 1) := dk_28 (dq_lk dX4_clock_v2 (r := 14) (x := 28) rfl)
theorem dX4_clock_47 : decode cX4_clock 47 = .ok (.i2l, 1) := dk_133 (dq_lk dX4_clock_v2 (r := 15) (x := 133) rfl)
theorem dX4_clock_48 : decode cX4_clock 48 = .ok (.iload_n 3, 1) := dk_29 (dq_lk dX4_clock_v3 (r := 0) (x := 29) rfl)
theorem dX4_clock_49 : decode cX4_clock 49 = .ok (.aload_n 0, 1) := dk_42 (dq_lk dX4_clock_v3 (r := 1) (x := 42) rfl)
theorem dX4_clock_50 : decode cX4_clock 50 = .ok (.getfield 7, 3) := dk_180 (dq_lk dX4_clock_v3 (r := 2) (x := 180) rfl) (dq_lk dX4_clock_v3 (r := 3) (x := 0) rfl) (dq_lk dX4_clock_v3 (r := 4) (x := 7) rfl)
theorem dX4_clock_53 : decode cX4_clock 53 = .ok (.iload 4, 2) := dk_21 (dq_lk dX4_clock_v3 (r := 5) (x := 21) rfl) (dq_lk dX4_clock_v3 (r := 6) (x := 4) rfl)
theorem dX4_clock_55 : decode cX4_clock 55 = .ok (.iaload, 1) := dk_46 (dq_lk dX4_clock_v3 (r := 7) (x := 46) rfl)
theorem dX4_clock_56 : decode cX4_clock 56 = .ok (.invokevirtual 208, 3) := dk_182 (dq_lk dX4_clock_v3 (r := 8) (x := 182) rfl) (dq_lk dX4_clock_v3 (r := 9) (x := 0) rfl) (dq_lk dX4_clock_v3 (r := 10) (x := 208) rfl)
theorem dX4_clock_59 : decode cX4_clock 59 = .ok (.ireturn, 1) := dk_172 (dq_lk dX4_clock_v3 (r := 11) (x := 172) rfl)
theorem dX4_clockOf_v0 : (cX4_clockOf.data.toList.drop 0).take 16 = [42, 27, 184, 0, 205, 154, 0, 10, 28, 184, 0, 61, 153, 0, 7, 4] := by decide +kernel
theorem dX4_clockOf_v1 : (cX4_clockOf.data.toList.drop 16).take 16 = [167, 0, 4, 3, 3, 182, 0, 68, 153, 0, 7, 3, 167, 0, 27, 42] := by decide +kernel
theorem dX4_clockOf_v2 : (cX4_clockOf.data.toList.drop 32).take 16 = [27, 42, 180, 0, 20, 28, 46, 133, 42, 180, 0, 23, 28, 46, 42, 180] := by decide +kernel
theorem dX4_clockOf_v3 : (cX4_clockOf.data.toList.drop 48).take 16 = [0, 26, 28, 46, 182, 0, 208, 172] := by decide +kernel
theorem dX4_clockOf_0 : decode cX4_clockOf 0 = .ok (.aload_n 0, 1) := dk_42 (dq_lk dX4_clockOf_v0 (r := 0) (x := 42) rfl)
theorem dX4_clockOf_1 : decode cX4_clockOf 1 = .ok (.iload_n 1, 1) := dk_27 (dq_lk dX4_clockOf_v0 (r := 1) (x := 27) rfl)
theorem dX4_clockOf_2 : decode cX4_clockOf 2 = .ok (.invokestatic 205, 3) := dk_184 (dq_lk dX4_clockOf_v0 (r := 2) (x := 184) rfl) (dq_lk dX4_clockOf_v0 (r := 3) (x := 0) rfl) (dq_lk dX4_clockOf_v0 (r := 4) (x := 205) rfl)
theorem dX4_clockOf_5 : decode cX4_clockOf 5 = .ok (.ifCond .ne 10, 3) := dk_154 (dq_lk dX4_clockOf_v0 (r := 5) (x := 154) rfl) (dq_lk dX4_clockOf_v0 (r := 6) (x := 0) rfl) (dq_lk dX4_clockOf_v0 (r := 7) (x := 10) rfl) (by decide +kernel)
theorem dX4_clockOf_8 : decode cX4_clockOf 8 = .ok (.iload_n 2, 1) := dk_28 (dq_lk dX4_clockOf_v0 (r := 8) (x := 28) rfl)
theorem dX4_clockOf_9 : decode cX4_clockOf 9 = .ok (.invokestatic 61, 3) := dk_184 (dq_lk dX4_clockOf_v0 (r := 9) (x := 184) rfl) (dq_lk dX4_clockOf_v0 (r := 10) (x := 0) rfl) (dq_lk dX4_clockOf_v0 (r := 11) (x := 61) rfl)
theorem dX4_clockOf_12 : decode cX4_clockOf 12 = .ok (.ifCond .eq 7, 3) := dk_153 (dq_lk dX4_clockOf_v0 (r := 12) (x := 153) rfl) (dq_lk dX4_clockOf_v0 (r := 13) (x := 0) rfl) (dq_lk dX4_clockOf_v0 (r := 14) (x := 7) rfl) (by decide +kernel)
theorem dX4_clockOf_15 : decode cX4_clockOf 15 = .ok (.iconst 1, 1) := dk_4 (dq_lk dX4_clockOf_v0 (r := 15) (x := 4) rfl)
theorem dX4_clockOf_16 : decode cX4_clockOf 16 = .ok (.goto 4, 3) := dk_167 (dq_lk dX4_clockOf_v1 (r := 0) (x := 167) rfl) (dq_lk dX4_clockOf_v1 (r := 1) (x := 0) rfl) (dq_lk dX4_clockOf_v1 (r := 2) (x := 4) rfl) (by decide +kernel)
theorem dX4_clockOf_19 : decode cX4_clockOf 19 = .ok (.iconst 0, 1) := dk_3 (dq_lk dX4_clockOf_v1 (r := 3) (x := 3) rfl)
theorem dX4_clockOf_20 : decode cX4_clockOf 20 = .ok (.iconst 0, 1) := dk_3 (dq_lk dX4_clockOf_v1 (r := 4) (x := 3) rfl)
theorem dX4_clockOf_21 : decode cX4_clockOf 21 = .ok (.invokevirtual 68, 3) := dk_182 (dq_lk dX4_clockOf_v1 (r := 5) (x := 182) rfl) (dq_lk dX4_clockOf_v1 (r := 6) (x := 0) rfl) (dq_lk dX4_clockOf_v1 (r := 7) (x := 68) rfl)
theorem dX4_clockOf_24 : decode cX4_clockOf 24 = .ok (.ifCond .eq 7, 3) := dk_153 (dq_lk dX4_clockOf_v1 (r := 8) (x := 153) rfl) (dq_lk dX4_clockOf_v1 (r := 9) (x := 0) rfl) (dq_lk dX4_clockOf_v1 (r := 10) (x := 7) rfl) (by decide +kernel)
theorem dX4_clockOf_27 : decode cX4_clockOf 27 = .ok (.iconst 0, 1) := dk_3 (dq_lk dX4_clockOf_v1 (r := 11) (x := 3) rfl)
theorem dX4_clockOf_28 : decode cX4_clockOf 28 = .ok (.goto 27, 3) := dk_167 (dq_lk dX4_clockOf_v1 (r := 12) (x := 167) rfl) (dq_lk dX4_clockOf_v1 (r := 13) (x := 0) rfl) (dq_lk dX4_clockOf_v1 (r := 14) (x := 27) rfl) (by decide +kernel)
theorem dX4_clockOf_31 : decode cX4_clockOf 31 = .ok (.aload_n 0, 1) := dk_42 (dq_lk dX4_clockOf_v1 (r := 15) (x := 42) rfl)
theorem dX4_clockOf_32 : decode cX4_clockOf 32 = .ok (.iload_n 1, 1) := dk_27 (dq_lk dX4_clockOf_v2 (r := 0) (x := 27) rfl)
theorem dX4_clockOf_33 : decode cX4_clockOf 33 = .ok (.aload_n 0, 1) := dk_42 (dq_lk dX4_clockOf_v2 (r := 1) (x := 42) rfl)
theorem dX4_clockOf_34 : decode cX4_clockOf 34 = .ok (.getfield 20, 3) := dk_180 (dq_lk dX4_clockOf_v2 (r := 2) (x := 180) rfl) (dq_lk dX4_clockOf_v2 (r := 3) (x := 0) rfl) (dq_lk dX4_clockOf_v2 (r := 4) (x := 20) rfl)
theorem dX4_clockOf_37 : decode cX4_clockOf 37 = .ok (.iload_n 2, 1) := dk_28 (dq_lk dX4_clockOf_v2 (r := 5) (x := 28) rfl)
theorem dX4_clockOf_38 : decode cX4_clockOf 38 = .ok (.iaload, 1) := dk_46 (dq_lk dX4_clockOf_v2 (r := 6) (x := 46) rfl)
theorem dX4_clockOf_39 : decode cX4_clockOf 39 = .ok (.i2l, 1) := dk_133 (dq_lk dX4_clockOf_v2 (r := 7) (x := 133) rfl)
theorem dX4_clockOf_40 : decode cX4_clockOf 40 = .ok (.aload_n 0, 1) := dk_42 (dq_lk dX4_clockOf_v2 (r := 8) (x := 42) rfl)
theorem dX4_clockOf_41 : decode cX4_clockOf 41 = .ok (.getfield 23, 3) := dk_180 (dq_lk dX4_clockOf_v2 (r := 9) (x := 180) rfl) (dq_lk dX4_clockOf_v2 (r := 10) (x := 0) rfl) (dq_lk dX4_clockOf_v2 (r := 11) (x := 23) rfl)
theorem dX4_clockOf_44 : decode cX4_clockOf 44 = .ok (.iload_n 2, 1) := dk_28 (dq_lk dX4_clockOf_v2 (r := 12) (x := 28) rfl)
theorem dX4_clockOf_45 : decode cX4_clockOf 45 = .ok (.iaload, 1) := dk_46 (dq_lk dX4_clockOf_v2 (r := 13) (x := 46) rfl)
theorem dX4_clockOf_46 : decode cX4_clockOf 46 = .ok (.aload_n 0, 1) := dk_42 (dq_lk dX4_clockOf_v2 (r := 14) (x := 42) rfl)
theorem dX4_clockOf_47 : decode cX4_clockOf 47 = .ok (.getfield 26, 3) := dk_180 (dq_lk dX4_clockOf_v2 (r := 15) (x := 180) rfl) (dq_lk dX4_clockOf_v3 (r := 0) (x := 0) rfl) (dq_lk dX4_clockOf_v3 (r := 1) (x := 26) rfl)
theorem dX4_clockOf_50 : decode cX4_clockOf 50 = .ok (.iload_n 2, 1) := dk_28 (dq_lk dX4_clockOf_v3 (r := 2) (x := 28) rfl)
theorem dX4_clockOf_51 : decode cX4_clockOf 51 = .ok (.iaload, 1) := dk_46 (dq_lk dX4_clockOf_v3 (r := 3) (x := 46) rfl)
theorem dX4_clockOf_52 : decode cX4_clockOf 52 = .ok (.invokevirtual 208, 3) := dk_182 (dq_lk dX4_clockOf_v3 (r := 4) (x := 182) rfl) (dq_lk dX4_clockOf_v3 (r := 5) (x := 0) rfl) (dq_lk dX4_clockOf_v3 (r := 6) (x := 208) rfl)
theorem dX4_clockOf_55 : decode cX4_clockOf 55 = .ok (.ireturn, 1) := dk_172 (dq_lk dX4_clockOf_v3 (r := 7) (x := 172) rfl)
theorem dX4_copyClock_v0 : (cX4_copyClock.data.toList.drop 0).take 16 = [42, 27, 184, 0, 205, 154, 0, 10, 28, 184, 0, 205, 153, 0, 7, 4] := by decide +kernel
theorem dX4_copyClock_v1 : (cX4_copyClock.data.toList.drop 16).take 16 = [167, 0, 4, 3, 3, 182, 0, 68, 153, 0, 7, 3, 167, 0, 33, 42] := by decide +kernel
theorem dX4_copyClock_v2 : (cX4_copyClock.data.toList.drop 32).take 16 = [27, 42, 180, 0, 20, 7, 28, 96, 46, 133, 42, 180, 0, 23, 7, 28] := by decide +kernel
theorem dX4_copyClock_v3 : (cX4_copyClock.data.toList.drop 48).take 16 = [96, 46, 42, 180, 0, 26, 7, 28, 96, 46, 182, 0, 208, 172] := by decide +kernel
theorem dX4_copyClock_0 : decode cX4_copyClock 0 = .ok (.aload_n 0, 1) := dk_42 (dq_lk dX4_copyClock_v0 (r := 0) (x := 42) rfl)
theorem dX4_copyClock_1 : decode cX4_copyClock 1 = .ok (.iload_n 1, 1) := dk_27 (dq_lk dX4_copyClock_v0 (r := 1) (x := 27) rfl)
theorem dX4_copyClock_2 : decode cX4_copyClock 2 = .ok (.invokestatic 205, 3) := dk_184 (dq_lk dX4_copyClock_v0 (r := 2) (x := 184) rfl) (dq_lk dX4_copyClock_v0 (r := 3) (x := 0) rfl) (dq_lk dX4_copyClock_v0 (r := 4) (x := 205) rfl)
theorem dX4_copyClock_5 : decode cX4_copyClock 5 = .ok (.ifCond .ne 10, 3) := dk_154 (dq_lk dX4_copyClock_v0 (r := 5) (x := 154) rfl) (dq_lk dX4_copyClock_v0 (r := 6) (x := 0) rfl) (dq_lk dX4_copyClock_v0 (r := 7) (x := 10) rfl) (by decide +kernel)
theorem dX4_copyClock_8 : decode cX4_copyClock 8 = .ok (.iload_n 2, 1) := dk_28 (dq_lk dX4_copyClock_v0 (r := 8) (x := 28) rfl)
theorem dX4_copyClock_9 : decode cX4_copyClock 9 = .ok (.invokestatic 205, 3) := dk_184 (dq_lk dX4_copyClock_v0 (r := 9) (x := 184) rfl) (dq_lk dX4_copyClock_v0 (r := 10) (x := 0) rfl) (dq_lk dX4_copyClock_v0 (r := 11) (x := 205) rfl)
theorem dX4_copyClock_12 : decode cX4_copyClock 12 = .ok (.ifCond .eq 7, 3) := dk_153 (dq_lk dX4_copyClock_v0 (r := 12) (x := 153) rfl) (dq_lk dX4_copyClock_v0 (r := 13) (x := 0) rfl) (dq_lk dX4_copyClock_v0 (r := 14) (x := 7) rfl) (by decide +kernel)
theorem dX4_copyClock_15 : decode cX4_copyClock 15 = .ok (.iconst 1, 1) := dk_4 (dq_lk dX4_copyClock_v0 (r := 15) (x := 4) rfl)
theorem dX4_copyClock_16 : decode cX4_copyClock 16 = .ok (.goto 4, 3) := dk_167 (dq_lk dX4_copyClock_v1 (r := 0) (x := 167) rfl) (dq_lk dX4_copyClock_v1 (r := 1) (x := 0) rfl) (dq_lk dX4_copyClock_v1 (r := 2) (x := 4) rfl) (by decide +kernel)
theorem dX4_copyClock_19 : decode cX4_copyClock 19 = .ok (.iconst 0, 1) := dk_3 (dq_lk dX4_copyClock_v1 (r := 3) (x := 3) rfl)
theorem dX4_copyClock_20 : decode cX4_copyClock 20 = .ok (.iconst 0, 1) := dk_3 (dq_lk dX4_copyClock_v1 (r := 4) (x := 3) rfl)
theorem dX4_copyClock_21 : decode cX4_copyClock 21 = .ok (.invokevirtual 68, 3) := dk_182 (dq_lk dX4_copyClock_v1 (r := 5) (x := 182) rfl) (dq_lk dX4_copyClock_v1 (r := 6) (x := 0) rfl) (dq_lk dX4_copyClock_v1 (r := 7) (x := 68) rfl)
theorem dX4_copyClock_24 : decode cX4_copyClock 24 = .ok (.ifCond .eq 7, 3) := dk_153 (dq_lk dX4_copyClock_v1 (r := 8) (x := 153) rfl) (dq_lk dX4_copyClock_v1 (r := 9) (x := 0) rfl) (dq_lk dX4_copyClock_v1 (r := 10) (x := 7) rfl) (by decide +kernel)
theorem dX4_copyClock_27 : decode cX4_copyClock 27 = .ok (.iconst 0, 1) := dk_3 (dq_lk dX4_copyClock_v1 (r := 11) (x := 3) rfl)
theorem dX4_copyClock_28 : decode cX4_copyClock 28 = .ok (.goto 33, 3) := dk_167 (dq_lk dX4_copyClock_v1 (r := 12) (x := 167) rfl) (dq_lk dX4_copyClock_v1 (r := 13) (x := 0) rfl) (dq_lk dX4_copyClock_v1 (r := 14) (x := 33) rfl) (by decide +kernel)
theorem dX4_copyClock_31 : decode cX4_copyClock 31 = .ok (.aload_n 0, 1) := dk_42 (dq_lk dX4_copyClock_v1 (r := 15) (x := 42) rfl)
theorem dX4_copyClock_32 : decode cX4_copyClock 32 = .ok (.iload_n 1, 1) := dk_27 (dq_lk dX4_copyClock_v2 (r := 0) (x := 27) rfl)
theorem dX4_copyClock_33 : decode cX4_copyClock 33 = .ok (.aload_n 0, 1) := dk_42 (dq_lk dX4_copyClock_v2 (r := 1) (x := 42) rfl)
theorem dX4_copyClock_34 : decode cX4_copyClock 34 = .ok (.getfield 20, 3) := dk_180 (dq_lk dX4_copyClock_v2 (r := 2) (x := 180) rfl) (dq_lk dX4_copyClock_v2 (r := 3) (x := 0) rfl) (dq_lk dX4_copyClock_v2 (r := 4) (x := 20) rfl)
theorem dX4_copyClock_37 : decode cX4_copyClock 37 = .ok (.iconst 4, 1) := dk_7 (dq_lk dX4_copyClock_v2 (r := 5) (x := 7) rfl)
theorem dX4_copyClock_38 : decode cX4_copyClock 38 = .ok (.iload_n 2, 1) := dk_28 (dq_lk dX4_copyClock_v2 (r := 6) (x := 28) rfl)
theorem dX4_copyClock_39 : decode cX4_copyClock 39 = .ok (.iadd, 1) := dk_96 (dq_lk dX4_copyClock_v2 (r := 7) (x := 96) rfl)
theorem dX4_copyClock_40 : decode cX4_copyClock 40 = .ok (.iaload, 1) := dk_46 (dq_lk dX4_copyClock_v2 (r := 8) (x := 46) rfl)
theorem dX4_copyClock_41 : decode cX4_copyClock 41 = .ok (.i2l, 1) := dk_133 (dq_lk dX4_copyClock_v2 (r := 9) (x := 133) rfl)
theorem dX4_copyClock_42 : decode cX4_copyClock 42 = .ok (.aload_n 0, 1) := dk_42 (dq_lk dX4_copyClock_v2 (r := 10) (x := 42) rfl)
theorem dX4_copyClock_43 : decode cX4_copyClock 43 = .ok (.getfield 23, 3) := dk_180 (dq_lk dX4_copyClock_v2 (r := 11) (x := 180) rfl) (dq_lk dX4_copyClock_v2 (r := 12) (x := 0) rfl) (dq_lk dX4_copyClock_v2 (r := 13) (x := 23) rfl)
theorem dX4_copyClock_46 : decode cX4_copyClock 46 = .ok (.iconst 4, 1) := dk_7 (dq_lk dX4_copyClock_v2 (r := 14) (x := 7) rfl)
theorem dX4_copyClock_47 : decode cX4_copyClock 47 = .ok (.iload_n 2, 1) := dk_28 (dq_lk dX4_copyClock_v2 (r := 15) (x := 28) rfl)
theorem dX4_copyClock_48 : decode cX4_copyClock 48 = .ok (.iadd, 1) := dk_96 (dq_lk dX4_copyClock_v3 (r := 0) (x := 96) rfl)
theorem dX4_copyClock_49 : decode cX4_copyClock 49 = .ok (.iaload, 1) := dk_46 (dq_lk dX4_copyClock_v3 (r := 1) (x := 46) rfl)
theorem dX4_copyClock_50 : decode cX4_copyClock 50 = .ok (.aload_n 0, 1) := dk_42 (dq_lk dX4_copyClock_v3 (r := 2) (x := 42) rfl)
theorem dX4_copyClock_51 : decode cX4_copyClock 51 = .ok (.getfield 26, 3) := dk_180 (dq_lk dX4_copyClock_v3 (r := 3) (x := 180) rfl) (dq_lk dX4_copyClock_v3 (r := 4) (x := 0) rfl) (dq_lk dX4_copyClock_v3 (r := 5) (x := 26) rfl)
theorem dX4_copyClock_54 : decode cX4_copyClock 54 = .ok (.iconst 4, 1) := dk_7 (dq_lk dX4_copyClock_v3 (r := 6) (x := 7) rfl)
theorem dX4_copyClock_55 : decode cX4_copyClock 55 = .ok (.iload_n 2, 1) := dk_28 (dq_lk dX4_copyClock_v3 (r := 7) (x := 28) rfl)
theorem dX4_copyClock_56 : decode cX4_copyClock 56 = .ok (.iadd, 1) := dk_96 (dq_lk dX4_copyClock_v3 (r := 8) (x := 96) rfl)
theorem dX4_copyClock_57 : decode cX4_copyClock 57 = .ok (.iaload, 1) := dk_46 (dq_lk dX4_copyClock_v3 (r := 9) (x := 46) rfl)
theorem dX4_copyClock_58 : decode cX4_copyClock 58 = .ok (.invokevirtual 208, 3) := dk_182 (dq_lk dX4_copyClock_v3 (r := 10) (x := 182) rfl) (dq_lk dX4_copyClock_v3 (r := 11) (x := 0) rfl) (dq_lk dX4_copyClock_v3 (r := 12) (x := 208) rfl)
theorem dX4_copyClock_61 : decode cX4_copyClock 61 = .ok (.ireturn, 1) := dk_172 (dq_lk dX4_copyClock_v3 (r := 13) (x := 172) rfl)
theorem dX4_strike_w0 : (cX4_strike.data.toList.drop 0).take 64 = [42, 27, 184, 0, 61, 154, 0, 10, 28, 184, 0, 205, 153, 0, 7, 4, 167, 0, 4, 3, 3, 182, 0, 68, 153, 0, 7, 3, 167, 0, 38, 42, 27, 42, 180, 0, 17, 27, 46, 42, 180, 0, 20, 7, 28, 96, 46, 42, 180, 0, 23, 7, 28, 96, 46, 42, 180, 0, 26, 7, 28, 96, 46, 182] := by decide +kernel
theorem dX4_strike_w1 : (cX4_strike.data.toList.drop 64).take 64 = [0, 139, 172] := by decide +kernel
theorem dX4_strike_v0 : (cX4_strike.data.toList.drop 0).take 16 = [42, 27, 184, 0, 61, 154, 0, 10, 28, 184, 0, 205, 153, 0, 7, 4] := dq_sub (n := 0) (j := 0) dX4_strike_w0 (by decide) rfl
theorem dX4_strike_v1 : (cX4_strike.data.toList.drop 16).take 16 = [167, 0, 4, 3, 3, 182, 0, 68, 153, 0, 7, 3, 167, 0, 38, 42] := dq_sub (n := 0) (j := 16) dX4_strike_w0 (by decide) rfl
theorem dX4_strike_v2 : (cX4_strike.data.toList.drop 32).take 16 = [27, 42, 180, 0, 17, 27, 46, 42, 180, 0, 20, 7, 28, 96, 46, 42] := dq_sub (n := 0) (j := 32) dX4_strike_w0 (by decide) rfl
theorem dX4_strike_v3 : (cX4_strike.data.toList.drop 48).take 16 = [180, 0, 23, 7, 28, 96, 46, 42, 180, 0, 26, 7, 28, 96, 46, 182] := dq_sub (n := 0) (j := 48) dX4_strike_w0 (by decide) rfl
theorem dX4_strike_v4 : (cX4_strike.data.toList.drop 64).take 16 = [0, 139, 172] := dq_sub (n := 64) (j := 0) dX4_strike_w1 (by decide) rfl
theorem dX4_strike_0 : decode cX4_strike 0 = .ok (.aload_n 0, 1) := dk_42 (dq_lk dX4_strike_v0 (r := 0) (x := 42) rfl)
theorem dX4_strike_1 : decode cX4_strike 1 = .ok (.iload_n 1, 1) := dk_27 (dq_lk dX4_strike_v0 (r := 1) (x := 27) rfl)
theorem dX4_strike_2 : decode cX4_strike 2 = .ok (.invokestatic 61, 3) := dk_184 (dq_lk dX4_strike_v0 (r := 2) (x := 184) rfl) (dq_lk dX4_strike_v0 (r := 3) (x := 0) rfl) (dq_lk dX4_strike_v0 (r := 4) (x := 61) rfl)
theorem dX4_strike_5 : decode cX4_strike 5 = .ok (.ifCond .ne 10, 3) := dk_154 (dq_lk dX4_strike_v0 (r := 5) (x := 154) rfl) (dq_lk dX4_strike_v0 (r := 6) (x := 0) rfl) (dq_lk dX4_strike_v0 (r := 7) (x := 10) rfl) (by decide +kernel)
theorem dX4_strike_8 : decode cX4_strike 8 = .ok (.iload_n 2, 1) := dk_28 (dq_lk dX4_strike_v0 (r := 8) (x := 28) rfl)
theorem dX4_strike_9 : decode cX4_strike 9 = .ok (.invokestatic 205, 3) := dk_184 (dq_lk dX4_strike_v0 (r := 9) (x := 184) rfl) (dq_lk dX4_strike_v0 (r := 10) (x := 0) rfl) (dq_lk dX4_strike_v0 (r := 11) (x := 205) rfl)
theorem dX4_strike_12 : decode cX4_strike 12 = .ok (.ifCond .eq 7, 3) := dk_153 (dq_lk dX4_strike_v0 (r := 12) (x := 153) rfl) (dq_lk dX4_strike_v0 (r := 13) (x := 0) rfl) (dq_lk dX4_strike_v0 (r := 14) (x := 7) rfl) (by decide +kernel)
theorem dX4_strike_15 : decode cX4_strike 15 = .ok (.iconst 1, 1) := dk_4 (dq_lk dX4_strike_v0 (r := 15) (x := 4) rfl)
theorem dX4_strike_16 : decode cX4_strike 16 = .ok (.goto 4, 3) := dk_167 (dq_lk dX4_strike_v1 (r := 0) (x := 167) rfl) (dq_lk dX4_strike_v1 (r := 1) (x := 0) rfl) (dq_lk dX4_strike_v1 (r := 2) (x := 4) rfl) (by decide +kernel)
theorem dX4_strike_19 : decode cX4_strike 19 = .ok (.iconst 0, 1) := dk_3 (dq_lk dX4_strike_v1 (r := 3) (x := 3) rfl)
theorem dX4_strike_20 : decode cX4_strike 20 = .ok (.iconst 0, 1) := dk_3 (dq_lk dX4_strike_v1 (r := 4) (x := 3) rfl)
theorem dX4_strike_21 : decode cX4_strike 21 = .ok (.invokevirtual 68, 3) := dk_182 (dq_lk dX4_strike_v1 (r := 5) (x := 182) rfl) (dq_lk dX4_strike_v1 (r := 6) (x := 0) rfl) (dq_lk dX4_strike_v1 (r := 7) (x := 68) rfl)
theorem dX4_strike_24 : decode cX4_strike 24 = .ok (.ifCond .eq 7, 3) := dk_153 (dq_lk dX4_strike_v1 (r := 8) (x := 153) rfl) (dq_lk dX4_strike_v1 (r := 9) (x := 0) rfl) (dq_lk dX4_strike_v1 (r := 10) (x := 7) rfl) (by decide +kernel)
theorem dX4_strike_27 : decode cX4_strike 27 = .ok (.iconst 0, 1) := dk_3 (dq_lk dX4_strike_v1 (r := 11) (x := 3) rfl)
theorem dX4_strike_28 : decode cX4_strike 28 = .ok (.goto 38, 3) := dk_167 (dq_lk dX4_strike_v1 (r := 12) (x := 167) rfl) (dq_lk dX4_strike_v1 (r := 13) (x := 0) rfl) (dq_lk dX4_strike_v1 (r := 14) (x := 38) rfl) (by decide +kernel)
theorem dX4_strike_31 : decode cX4_strike 31 = .ok (.aload_n 0, 1) := dk_42 (dq_lk dX4_strike_v1 (r := 15) (x := 42) rfl)
theorem dX4_strike_32 : decode cX4_strike 32 = .ok (.iload_n 1, 1) := dk_27 (dq_lk dX4_strike_v2 (r := 0) (x := 27) rfl)
theorem dX4_strike_33 : decode cX4_strike 33 = .ok (.aload_n 0, 1) := dk_42 (dq_lk dX4_strike_v2 (r := 1) (x := 42) rfl)
theorem dX4_strike_34 : decode cX4_strike 34 = .ok (.getfield 17, 3) := dk_180 (dq_lk dX4_strike_v2 (r := 2) (x := 180) rfl) (dq_lk dX4_strike_v2 (r := 3) (x := 0) rfl) (dq_lk dX4_strike_v2 (r := 4) (x := 17) rfl)
theorem dX4_strike_37 : decode cX4_strike 37 = .ok (.iload_n 1, 1) := dk_27 (dq_lk dX4_strike_v2 (r := 5) (x := 27) rfl)
theorem dX4_strike_38 : decode cX4_strike 38 = .ok (.iaload, 1) := dk_46 (dq_lk dX4_strike_v2 (r := 6) (x := 46) rfl)
theorem dX4_strike_39 : decode cX4_strike 39 = .ok (.aload_n 0, 1) := dk_42 (dq_lk dX4_strike_v2 (r := 7) (x := 42) rfl)
theorem dX4_strike_40 : decode cX4_strike 40 = .ok (.getfield 20, 3) := dk_180 (dq_lk dX4_strike_v2 (r := 8) (x := 180) rfl) (dq_lk dX4_strike_v2 (r := 9) (x := 0) rfl) (dq_lk dX4_strike_v2 (r := 10) (x := 20) rfl)
theorem dX4_strike_43 : decode cX4_strike 43 = .ok (.iconst 4, 1) := dk_7 (dq_lk dX4_strike_v2 (r := 11) (x := 7) rfl)
theorem dX4_strike_44 : decode cX4_strike 44 = .ok (.iload_n 2, 1) := dk_28 (dq_lk dX4_strike_v2 (r := 12) (x := 28) rfl)
theorem dX4_strike_45 : decode cX4_strike 45 = .ok (.iadd, 1) := dk_96 (dq_lk dX4_strike_v2 (r := 13) (x := 96) rfl)
theorem dX4_strike_46 : decode cX4_strike 46 = .ok (.iaload, 1) := dk_46 (dq_lk dX4_strike_v2 (r := 14) (x := 46) rfl)
theorem dX4_strike_47 : decode cX4_strike 47 = .ok (.aload_n 0, 1) := dk_42 (dq_lk dX4_strike_v2 (r := 15) (x := 42) rfl)
theorem dX4_strike_48 : decode cX4_strike 48 = .ok (.getfield 23, 3) := dk_180 (dq_lk dX4_strike_v3 (r := 0) (x := 180) rfl) (dq_lk dX4_strike_v3 (r := 1) (x := 0) rfl) (dq_lk dX4_strike_v3 (r := 2) (x := 23) rfl)
theorem dX4_strike_51 : decode cX4_strike 51 = .ok (.iconst 4, 1) := dk_7 (dq_lk dX4_strike_v3 (r := 3) (x := 7) rfl)
theorem dX4_strike_52 : decode cX4_strike 52 = .ok (.iload_n 2, 1) := dk_28 (dq_lk dX4_strike_v3 (r := 4) (x := 28) rfl)
theorem dX4_strike_53 : decode cX4_strike 53 = .ok (.iadd, 1) := dk_96 (dq_lk dX4_strike_v3 (r := 5) (x := 96) rfl)
theorem dX4_strike_54 : decode cX4_strike 54 = .ok (.iaload, 1) := dk_46 (dq_lk dX4_strike_v3 (r := 6) (x := 46) rfl)
theorem dX4_strike_55 : decode cX4_strike 55 = .ok (.aload_n 0, 1) := dk_42 (dq_lk dX4_strike_v3 (r := 7) (x := 42) rfl)
theorem dX4_strike_56 : decode cX4_strike 56 = .ok (.getfield 26, 3) := dk_180 (dq_lk dX4_strike_v3 (r := 8) (x := 180) rfl) (dq_lk dX4_strike_v3 (r := 9) (x := 0) rfl) (dq_lk dX4_strike_v3 (r := 10) (x := 26) rfl)
theorem dX4_strike_59 : decode cX4_strike 59 = .ok (.iconst 4, 1) := dk_7 (dq_lk dX4_strike_v3 (r := 11) (x := 7) rfl)
theorem dX4_strike_60 : decode cX4_strike 60 = .ok (.iload_n 2, 1) := dk_28 (dq_lk dX4_strike_v3 (r := 12) (x := 28) rfl)
theorem dX4_strike_61 : decode cX4_strike 61 = .ok (.iadd, 1) := dk_96 (dq_lk dX4_strike_v3 (r := 13) (x := 96) rfl)
theorem dX4_strike_62 : decode cX4_strike 62 = .ok (.iaload, 1) := dk_46 (dq_lk dX4_strike_v3 (r := 14) (x := 46) rfl)
theorem dX4_strike_63 : decode cX4_strike 63 = .ok (.invokevirtual 139, 3) := dk_182 (dq_lk dX4_strike_v3 (r := 15) (x := 182) rfl) (dq_lk dX4_strike_v4 (r := 0) (x := 0) rfl) (dq_lk dX4_strike_v4 (r := 1) (x := 139) rfl)
theorem dX4_strike_66 : decode cX4_strike 66 = .ok (.ireturn, 1) := dk_172 (dq_lk dX4_strike_v4 (r := 2) (x := 172) rfl)
theorem dX4_moveClock_w0 : (cX4_moveClock.data.toList.drop 0).take 64 = [42, 27, 184, 0, 205, 28, 133, 20, 0, 212, 20, 0, 183, 184, 0, 38, 154, 0, 7, 4, 167, 0, 4, 3, 182, 0, 68, 153, 0, 5, 3, 172, 21, 4, 153, 0, 9, 29, 133, 117, 167, 0, 5, 29, 133, 55, 5, 42, 180, 0, 23, 7, 27, 96, 46, 133, 28, 16, 7, 160, 0, 8, 22, 5] := by decide +kernel
theorem dX4_moveClock_w1 : (cX4_moveClock.data.toList.drop 64).take 64 = [167, 0, 4, 9, 97, 55, 7, 42, 27, 42, 180, 0, 20, 7, 27, 96, 46, 133, 22, 5, 28, 184, 0, 188, 133, 105, 97, 22, 7, 20, 0, 96, 184, 0, 92, 97, 22, 7, 20, 0, 96, 184, 0, 102, 42, 180, 0, 26, 7, 27, 96, 46, 182, 0, 208, 172] := by decide +kernel
theorem dX4_moveClock_v0 : (cX4_moveClock.data.toList.drop 0).take 16 = [42, 27, 184, 0, 205, 28, 133, 20, 0, 212, 20, 0, 183, 184, 0, 38] := dq_sub (n := 0) (j := 0) dX4_moveClock_w0 (by decide) rfl
theorem dX4_moveClock_v1 : (cX4_moveClock.data.toList.drop 16).take 16 = [154, 0, 7, 4, 167, 0, 4, 3, 182, 0, 68, 153, 0, 5, 3, 172] := dq_sub (n := 0) (j := 16) dX4_moveClock_w0 (by decide) rfl
theorem dX4_moveClock_v2 : (cX4_moveClock.data.toList.drop 32).take 16 = [21, 4, 153, 0, 9, 29, 133, 117, 167, 0, 5, 29, 133, 55, 5, 42] := dq_sub (n := 0) (j := 32) dX4_moveClock_w0 (by decide) rfl
theorem dX4_moveClock_v3 : (cX4_moveClock.data.toList.drop 48).take 16 = [180, 0, 23, 7, 27, 96, 46, 133, 28, 16, 7, 160, 0, 8, 22, 5] := dq_sub (n := 0) (j := 48) dX4_moveClock_w0 (by decide) rfl
theorem dX4_moveClock_v4 : (cX4_moveClock.data.toList.drop 64).take 16 = [167, 0, 4, 9, 97, 55, 7, 42, 27, 42, 180, 0, 20, 7, 27, 96] := dq_sub (n := 64) (j := 0) dX4_moveClock_w1 (by decide) rfl
theorem dX4_moveClock_v5 : (cX4_moveClock.data.toList.drop 80).take 16 = [46, 133, 22, 5, 28, 184, 0, 188, 133, 105, 97, 22, 7, 20, 0, 96] := dq_sub (n := 64) (j := 16) dX4_moveClock_w1 (by decide) rfl
theorem dX4_moveClock_v6 : (cX4_moveClock.data.toList.drop 96).take 16 = [184, 0, 92, 97, 22, 7, 20, 0, 96, 184, 0, 102, 42, 180, 0, 26] := dq_sub (n := 64) (j := 32) dX4_moveClock_w1 (by decide) rfl
theorem dX4_moveClock_v7 : (cX4_moveClock.data.toList.drop 112).take 16 = [7, 27, 96, 46, 182, 0, 208, 172] := dq_sub (n := 64) (j := 48) dX4_moveClock_w1 (by decide) rfl
theorem dX4_moveClock_0 : decode cX4_moveClock 0 = .ok (.aload_n 0, 1) := dk_42 (dq_lk dX4_moveClock_v0 (r := 0) (x := 42) rfl)
theorem dX4_moveClock_1 : decode cX4_moveClock 1 = .ok (.iload_n 1, 1) := dk_27 (dq_lk dX4_moveClock_v0 (r := 1) (x := 27) rfl)
theorem dX4_moveClock_2 : decode cX4_moveClock 2 = .ok (.invokestatic 205, 3) := dk_184 (dq_lk dX4_moveClock_v0 (r := 2) (x := 184) rfl) (dq_lk dX4_moveClock_v0 (r := 3) (x := 0) rfl) (dq_lk dX4_moveClock_v0 (r := 4) (x := 205) rfl)
theorem dX4_moveClock_5 : decode cX4_moveClock 5 = .ok (.iload_n 2, 1) := dk_28 (dq_lk dX4_moveClock_v0 (r := 5) (x := 28) rfl)
theorem dX4_moveClock_6 : decode cX4_moveClock 6 = .ok (.i2l, 1) := dk_133 (dq_lk dX4_moveClock_v0 (r := 6) (x := 133) rfl)
theorem dX4_moveClock_7 : decode cX4_moveClock 7 = .ok (.ldc2_w 212, 3) := dk_20 (dq_lk dX4_moveClock_v0 (r := 7) (x := 20) rfl) (dq_lk dX4_moveClock_v0 (r := 8) (x := 0) rfl) (dq_lk dX4_moveClock_v0 (r := 9) (x := 212) rfl)
theorem dX4_moveClock_10 : decode cX4_moveClock 10 = .ok (.ldc2_w 183, 3) := dk_20 (dq_lk dX4_moveClock_v0 (r := 10) (x := 20) rfl) (dq_lk dX4_moveClock_v0 (r := 11) (x := 0) rfl) (dq_lk dX4_moveClock_v0 (r := 12) (x := 183) rfl)
theorem dX4_moveClock_13 : decode cX4_moveClock 13 = .ok (.invokestatic 38, 3) := dk_184 (dq_lk dX4_moveClock_v0 (r := 13) (x := 184) rfl) (dq_lk dX4_moveClock_v0 (r := 14) (x := 0) rfl) (dq_lk dX4_moveClock_v0 (r := 15) (x := 38) rfl)
theorem dX4_moveClock_16 : decode cX4_moveClock 16 = .ok (.ifCond .ne 7, 3) := dk_154 (dq_lk dX4_moveClock_v1 (r := 0) (x := 154) rfl) (dq_lk dX4_moveClock_v1 (r := 1) (x := 0) rfl) (dq_lk dX4_moveClock_v1 (r := 2) (x := 7) rfl) (by decide +kernel)
theorem dX4_moveClock_19 : decode cX4_moveClock 19 = .ok (.iconst 1, 1) := dk_4 (dq_lk dX4_moveClock_v1 (r := 3) (x := 4) rfl)
theorem dX4_moveClock_20 : decode cX4_moveClock 20 = .ok (.goto 4, 3) := dk_167 (dq_lk dX4_moveClock_v1 (r := 4) (x := 167) rfl) (dq_lk dX4_moveClock_v1 (r := 5) (x := 0) rfl) (dq_lk dX4_moveClock_v1 (r := 6) (x := 4) rfl) (by decide +kernel)
theorem dX4_moveClock_23 : decode cX4_moveClock 23 = .ok (.iconst 0, 1) := dk_3 (dq_lk dX4_moveClock_v1 (r := 7) (x := 3) rfl)
theorem dX4_moveClock_24 : decode cX4_moveClock 24 = .ok (.invokevirtual 68, 3) := dk_182 (dq_lk dX4_moveClock_v1 (r := 8) (x := 182) rfl) (dq_lk dX4_moveClock_v1 (r := 9) (x := 0) rfl) (dq_lk dX4_moveClock_v1 (r := 10) (x := 68) rfl)
theorem dX4_moveClock_27 : decode cX4_moveClock 27 = .ok (.ifCond .eq 5, 3) := dk_153 (dq_lk dX4_moveClock_v1 (r := 11) (x := 153) rfl) (dq_lk dX4_moveClock_v1 (r := 12) (x := 0) rfl) (dq_lk dX4_moveClock_v1 (r := 13) (x := 5) rfl) (by decide +kernel)
theorem dX4_moveClock_30 : decode cX4_moveClock 30 = .ok (.iconst 0, 1) := dk_3 (dq_lk dX4_moveClock_v1 (r := 14) (x := 3) rfl)
theorem dX4_moveClock_31 : decode cX4_moveClock 31 = .ok (.ireturn, 1) := dk_172 (dq_lk dX4_moveClock_v1 (r := 15) (x := 172) rfl)
theorem dX4_moveClock_32 : decode cX4_moveClock 32 = .ok (.iload 4, 2) := dk_21 (dq_lk dX4_moveClock_v2 (r := 0) (x := 21) rfl) (dq_lk dX4_moveClock_v2 (r := 1) (x := 4) rfl)
theorem dX4_moveClock_34 : decode cX4_moveClock 34 = .ok (.ifCond .eq 9, 3) := dk_153 (dq_lk dX4_moveClock_v2 (r := 2) (x := 153) rfl) (dq_lk dX4_moveClock_v2 (r := 3) (x := 0) rfl) (dq_lk dX4_moveClock_v2 (r := 4) (x := 9) rfl) (by decide +kernel)
theorem dX4_moveClock_37 : decode cX4_moveClock 37 = .ok (.iload_n 3, 1) := dk_29 (dq_lk dX4_moveClock_v2 (r := 5) (x := 29) rfl)
theorem dX4_moveClock_38 : decode cX4_moveClock 38 = .ok (.i2l, 1) := dk_133 (dq_lk dX4_moveClock_v2 (r := 6) (x := 133) rfl)
theorem dX4_moveClock_39 : decode cX4_moveClock 39 = .ok (.lneg, 1) := dk_117 (dq_lk dX4_moveClock_v2 (r := 7) (x := 117) rfl)
theorem dX4_moveClock_40 : decode cX4_moveClock 40 = .ok (.goto 5, 3) := dk_167 (dq_lk dX4_moveClock_v2 (r := 8) (x := 167) rfl) (dq_lk dX4_moveClock_v2 (r := 9) (x := 0) rfl) (dq_lk dX4_moveClock_v2 (r := 10) (x := 5) rfl) (by decide +kernel)
theorem dX4_moveClock_43 : decode cX4_moveClock 43 = .ok (.iload_n 3, 1) := dk_29 (dq_lk dX4_moveClock_v2 (r := 11) (x := 29) rfl)
theorem dX4_moveClock_44 : decode cX4_moveClock 44 = .ok (.i2l, 1) := dk_133 (dq_lk dX4_moveClock_v2 (r := 12) (x := 133) rfl)
theorem dX4_moveClock_45 : decode cX4_moveClock 45 = .ok (.lstore 5, 2) := dk_55 (dq_lk dX4_moveClock_v2 (r := 13) (x := 55) rfl) (dq_lk dX4_moveClock_v2 (r := 14) (x := 5) rfl)
theorem dX4_moveClock_47 : decode cX4_moveClock 47 = .ok (.aload_n 0, 1) := dk_42 (dq_lk dX4_moveClock_v2 (r := 15) (x := 42) rfl)
theorem dX4_moveClock_48 : decode cX4_moveClock 48 = .ok (.getfield 23, 3) := dk_180 (dq_lk dX4_moveClock_v3 (r := 0) (x := 180) rfl) (dq_lk dX4_moveClock_v3 (r := 1) (x := 0) rfl) (dq_lk dX4_moveClock_v3 (r := 2) (x := 23) rfl)
theorem dX4_moveClock_51 : decode cX4_moveClock 51 = .ok (.iconst 4, 1) := dk_7 (dq_lk dX4_moveClock_v3 (r := 3) (x := 7) rfl)
theorem dX4_moveClock_52 : decode cX4_moveClock 52 = .ok (.iload_n 1, 1) := dk_27 (dq_lk dX4_moveClock_v3 (r := 4) (x := 27) rfl)
theorem dX4_moveClock_53 : decode cX4_moveClock 53 = .ok (.iadd, 1) := dk_96 (dq_lk dX4_moveClock_v3 (r := 5) (x := 96) rfl)
theorem dX4_moveClock_54 : decode cX4_moveClock 54 = .ok (.iaload, 1) := dk_46 (dq_lk dX4_moveClock_v3 (r := 6) (x := 46) rfl)
theorem dX4_moveClock_55 : decode cX4_moveClock 55 = .ok (.i2l, 1) := dk_133 (dq_lk dX4_moveClock_v3 (r := 7) (x := 133) rfl)
theorem dX4_moveClock_56 : decode cX4_moveClock 56 = .ok (.iload_n 2, 1) := dk_28 (dq_lk dX4_moveClock_v3 (r := 8) (x := 28) rfl)
theorem dX4_moveClock_57 : decode cX4_moveClock 57 = .ok (.bipush 7, 2) := dk_16 (dq_lk dX4_moveClock_v3 (r := 9) (x := 16) rfl) (dq_lk dX4_moveClock_v3 (r := 10) (x := 7) rfl) (by decide +kernel)
theorem dX4_moveClock_59 : decode cX4_moveClock 59 = .ok (.if_icmp .ne 8, 3) := dk_160 (dq_lk dX4_moveClock_v3 (r := 11) (x := 160) rfl) (dq_lk dX4_moveClock_v3 (r := 12) (x := 0) rfl) (dq_lk dX4_moveClock_v3 (r := 13) (x := 8) rfl) (by decide +kernel)
theorem dX4_moveClock_62 : decode cX4_moveClock 62 = .ok (.lload 5, 2) := dk_22 (dq_lk dX4_moveClock_v3 (r := 14) (x := 22) rfl) (dq_lk dX4_moveClock_v3 (r := 15) (x := 5) rfl)
theorem dX4_moveClock_64 : decode cX4_moveClock 64 = .ok (.goto 4, 3) := dk_167 (dq_lk dX4_moveClock_v4 (r := 0) (x := 167) rfl) (dq_lk dX4_moveClock_v4 (r := 1) (x := 0) rfl) (dq_lk dX4_moveClock_v4 (r := 2) (x := 4) rfl) (by decide +kernel)
theorem dX4_moveClock_67 : decode cX4_moveClock 67 = .ok (.lconst 0, 1) := dk_9 (dq_lk dX4_moveClock_v4 (r := 3) (x := 9) rfl)
theorem dX4_moveClock_68 : decode cX4_moveClock 68 = .ok (.ladd, 1) := dk_97 (dq_lk dX4_moveClock_v4 (r := 4) (x := 97) rfl)
theorem dX4_moveClock_69 : decode cX4_moveClock 69 = .ok (.lstore 7, 2) := dk_55 (dq_lk dX4_moveClock_v4 (r := 5) (x := 55) rfl) (dq_lk dX4_moveClock_v4 (r := 6) (x := 7) rfl)
theorem dX4_moveClock_71 : decode cX4_moveClock 71 = .ok (.aload_n 0, 1) := dk_42 (dq_lk dX4_moveClock_v4 (r := 7) (x := 42) rfl)
theorem dX4_moveClock_72 : decode cX4_moveClock 72 = .ok (.iload_n 1, 1) := dk_27 (dq_lk dX4_moveClock_v4 (r := 8) (x := 27) rfl)
theorem dX4_moveClock_73 : decode cX4_moveClock 73 = .ok (.aload_n 0, 1) := dk_42 (dq_lk dX4_moveClock_v4 (r := 9) (x := 42) rfl)
theorem dX4_moveClock_74 : decode cX4_moveClock 74 = .ok (.getfield 20, 3) := dk_180 (dq_lk dX4_moveClock_v4 (r := 10) (x := 180) rfl) (dq_lk dX4_moveClock_v4 (r := 11) (x := 0) rfl) (dq_lk dX4_moveClock_v4 (r := 12) (x := 20) rfl)
theorem dX4_moveClock_77 : decode cX4_moveClock 77 = .ok (.iconst 4, 1) := dk_7 (dq_lk dX4_moveClock_v4 (r := 13) (x := 7) rfl)
theorem dX4_moveClock_78 : decode cX4_moveClock 78 = .ok (.iload_n 1, 1) := dk_27 (dq_lk dX4_moveClock_v4 (r := 14) (x := 27) rfl)
theorem dX4_moveClock_79 : decode cX4_moveClock 79 = .ok (.iadd, 1) := dk_96 (dq_lk dX4_moveClock_v4 (r := 15) (x := 96) rfl)
theorem dX4_moveClock_80 : decode cX4_moveClock 80 = .ok (.iaload, 1) := dk_46 (dq_lk dX4_moveClock_v5 (r := 0) (x := 46) rfl)
theorem dX4_moveClock_81 : decode cX4_moveClock 81 = .ok (.i2l, 1) := dk_133 (dq_lk dX4_moveClock_v5 (r := 1) (x := 133) rfl)
theorem dX4_moveClock_82 : decode cX4_moveClock 82 = .ok (.lload 5, 2) := dk_22 (dq_lk dX4_moveClock_v5 (r := 2) (x := 22) rfl) (dq_lk dX4_moveClock_v5 (r := 3) (x := 5) rfl)
theorem dX4_moveClock_84 : decode cX4_moveClock 84 = .ok (.iload_n 2, 1) := dk_28 (dq_lk dX4_moveClock_v5 (r := 4) (x := 28) rfl)
theorem dX4_moveClock_85 : decode cX4_moveClock 85 = .ok (.invokestatic 188, 3) := dk_184 (dq_lk dX4_moveClock_v5 (r := 5) (x := 184) rfl) (dq_lk dX4_moveClock_v5 (r := 6) (x := 0) rfl) (dq_lk dX4_moveClock_v5 (r := 7) (x := 188) rfl)
theorem dX4_moveClock_88 : decode cX4_moveClock 88 = .ok (.i2l, 1) := dk_133 (dq_lk dX4_moveClock_v5 (r := 8) (x := 133) rfl)
theorem dX4_moveClock_89 : decode cX4_moveClock 89 = .ok (.lmul, 1) := dk_105 (dq_lk dX4_moveClock_v5 (r := 9) (x := 105) rfl)
theorem dX4_moveClock_90 : decode cX4_moveClock 90 = .ok (.ladd, 1) := dk_97 (dq_lk dX4_moveClock_v5 (r := 10) (x := 97) rfl)
theorem dX4_moveClock_91 : decode cX4_moveClock 91 = .ok (.lload 7, 2) := dk_22 (dq_lk dX4_moveClock_v5 (r := 11) (x := 22) rfl) (dq_lk dX4_moveClock_v5 (r := 12) (x := 7) rfl)
theorem dX4_moveClock_93 : decode cX4_moveClock 93 = .ok (.ldc2_w 96, 3) := dk_20 (dq_lk dX4_moveClock_v5 (r := 13) (x := 20) rfl) (dq_lk dX4_moveClock_v5 (r := 14) (x := 0) rfl) (dq_lk dX4_moveClock_v5 (r := 15) (x := 96) rfl)
theorem dX4_moveClock_96 : decode cX4_moveClock 96 = .ok (.invokestatic 92, 3) := dk_184 (dq_lk dX4_moveClock_v6 (r := 0) (x := 184) rfl) (dq_lk dX4_moveClock_v6 (r := 1) (x := 0) rfl) (dq_lk dX4_moveClock_v6 (r := 2) (x := 92) rfl)
theorem dX4_moveClock_99 : decode cX4_moveClock 99 = .ok (.ladd, 1) := dk_97 (dq_lk dX4_moveClock_v6 (r := 3) (x := 97) rfl)
theorem dX4_moveClock_100 : decode cX4_moveClock 100 = .ok (.lload 7, 2) := dk_22 (dq_lk dX4_moveClock_v6 (r := 4) (x := 22) rfl) (dq_lk dX4_moveClock_v6 (r := 5) (x := 7) rfl)
theorem dX4_moveClock_102 : decode cX4_moveClock 102 = .ok (.ldc2_w 96, 3) := dk_20 (dq_lk dX4_moveClock_v6 (r := 6) (x := 20) rfl) (dq_lk dX4_moveClock_v6 (r := 7) (x := 0) rfl) (dq_lk dX4_moveClock_v6 (r := 8) (x := 96) rfl)
theorem dX4_moveClock_105 : decode cX4_moveClock 105 = .ok (.invokestatic 102, 3) := dk_184 (dq_lk dX4_moveClock_v6 (r := 9) (x := 184) rfl) (dq_lk dX4_moveClock_v6 (r := 10) (x := 0) rfl) (dq_lk dX4_moveClock_v6 (r := 11) (x := 102) rfl)
theorem dX4_moveClock_108 : decode cX4_moveClock 108 = .ok (.aload_n 0, 1) := dk_42 (dq_lk dX4_moveClock_v6 (r := 12) (x := 42) rfl)
theorem dX4_moveClock_109 : decode cX4_moveClock 109 = .ok (.getfield 26, 3) := dk_180 (dq_lk dX4_moveClock_v6 (r := 13) (x := 180) rfl) (dq_lk dX4_moveClock_v6 (r := 14) (x := 0) rfl) (dq_lk dX4_moveClock_v6 (r := 15) (x := 26) rfl)
theorem dX4_moveClock_112 : decode cX4_moveClock 112 = .ok (.iconst 4, 1) := dk_7 (dq_lk dX4_moveClock_v7 (r := 0) (x := 7) rfl)
theorem dX4_moveClock_113 : decode cX4_moveClock 113 = .ok (.iload_n 1, 1) := dk_27 (dq_lk dX4_moveClock_v7 (r := 1) (x := 27) rfl)
theorem dX4_moveClock_114 : decode cX4_moveClock 114 = .ok (.iadd, 1) := dk_96 (dq_lk dX4_moveClock_v7 (r := 2) (x := 96) rfl)
theorem dX4_moveClock_115 : decode cX4_moveClock 115 = .ok (.iaload, 1) := dk_46 (dq_lk dX4_moveClock_v7 (r := 3) (x := 46) rfl)
theorem dX4_moveClock_116 : decode cX4_moveClock 116 = .ok (.invokevirtual 208, 3) := dk_182 (dq_lk dX4_moveClock_v7 (r := 4) (x := 182) rfl) (dq_lk dX4_moveClock_v7 (r := 5) (x := 0) rfl) (dq_lk dX4_moveClock_v7 (r := 6) (x := 208) rfl)
theorem dX4_moveClock_119 : decode cX4_moveClock 119 = .ok (.ireturn, 1) := dk_172 (dq_lk dX4_moveClock_v7 (r := 7) (x := 172) rfl)
theorem dX4_anewClock_w0 : (cX4_anewClock.data.toList.drop 0).take 64 = [42, 27, 184, 0, 205, 154, 0, 10, 28, 184, 0, 61, 153, 0, 7, 4, 167, 0, 4, 3, 3, 182, 0, 68, 153, 0, 5, 3, 172, 29, 153, 0, 7, 3, 167, 0, 18, 42, 180, 0, 7, 28, 46, 42, 180, 0, 26, 7, 27, 96, 46, 100, 54, 4, 42, 27, 42, 180, 0, 20, 7, 27, 96, 46] := by decide +kernel
theorem dX4_anewClock_w1 : (cX4_anewClock.data.toList.drop 64).take 64 = [21, 4, 96, 133, 42, 180, 0, 23, 7, 27, 96, 46, 42, 180, 0, 7, 28, 46, 182, 0, 208, 172] := by decide +kernel
theorem dX4_anewClock_v0 : (cX4_anewClock.data.toList.drop 0).take 16 = [42, 27, 184, 0, 205, 154, 0, 10, 28, 184, 0, 61, 153, 0, 7, 4] := dq_sub (n := 0) (j := 0) dX4_anewClock_w0 (by decide) rfl
theorem dX4_anewClock_v1 : (cX4_anewClock.data.toList.drop 16).take 16 = [167, 0, 4, 3, 3, 182, 0, 68, 153, 0, 5, 3, 172, 29, 153, 0] := dq_sub (n := 0) (j := 16) dX4_anewClock_w0 (by decide) rfl
theorem dX4_anewClock_v2 : (cX4_anewClock.data.toList.drop 32).take 16 = [7, 3, 167, 0, 18, 42, 180, 0, 7, 28, 46, 42, 180, 0, 26, 7] := dq_sub (n := 0) (j := 32) dX4_anewClock_w0 (by decide) rfl
theorem dX4_anewClock_v3 : (cX4_anewClock.data.toList.drop 48).take 16 = [27, 96, 46, 100, 54, 4, 42, 27, 42, 180, 0, 20, 7, 27, 96, 46] := dq_sub (n := 0) (j := 48) dX4_anewClock_w0 (by decide) rfl
theorem dX4_anewClock_v4 : (cX4_anewClock.data.toList.drop 64).take 16 = [21, 4, 96, 133, 42, 180, 0, 23, 7, 27, 96, 46, 42, 180, 0, 7] := dq_sub (n := 64) (j := 0) dX4_anewClock_w1 (by decide) rfl
theorem dX4_anewClock_v5 : (cX4_anewClock.data.toList.drop 80).take 16 = [28, 46, 182, 0, 208, 172] := dq_sub (n := 64) (j := 16) dX4_anewClock_w1 (by decide) rfl
theorem dX4_anewClock_0 : decode cX4_anewClock 0 = .ok (.aload_n 0, 1) := dk_42 (dq_lk dX4_anewClock_v0 (r := 0) (x := 42) rfl)
theorem dX4_anewClock_1 : decode cX4_anewClock 1 = .ok (.iload_n 1, 1) := dk_27 (dq_lk dX4_anewClock_v0 (r := 1) (x := 27) rfl)
theorem dX4_anewClock_2 : decode cX4_anewClock 2 = .ok (.invokestatic 205, 3) := dk_184 (dq_lk dX4_anewClock_v0 (r := 2) (x := 184) rfl) (dq_lk dX4_anewClock_v0 (r := 3) (x := 0) rfl) (dq_lk dX4_anewClock_v0 (r := 4) (x := 205) rfl)
theorem dX4_anewClock_5 : decode cX4_anewClock 5 = .ok (.ifCond .ne 10, 3) := dk_154 (dq_lk dX4_anewClock_v0 (r := 5) (x := 154) rfl) (dq_lk dX4_anewClock_v0 (r := 6) (x := 0) rfl) (dq_lk dX4_anewClock_v0 (r := 7) (x := 10) rfl) (by decide +kernel)
theorem dX4_anewClock_8 : decode cX4_anewClock 8 = .ok (.iload_n 2, 1) := dk_28 (dq_lk dX4_anewClock_v0 (r := 8) (x := 28) rfl)
theorem dX4_anewClock_9 : decode cX4_anewClock 9 = .ok (.invokestatic 61, 3) := dk_184 (dq_lk dX4_anewClock_v0 (r := 9) (x := 184) rfl) (dq_lk dX4_anewClock_v0 (r := 10) (x := 0) rfl) (dq_lk dX4_anewClock_v0 (r := 11) (x := 61) rfl)
theorem dX4_anewClock_12 : decode cX4_anewClock 12 = .ok (.ifCond .eq 7, 3) := dk_153 (dq_lk dX4_anewClock_v0 (r := 12) (x := 153) rfl) (dq_lk dX4_anewClock_v0 (r := 13) (x := 0) rfl) (dq_lk dX4_anewClock_v0 (r := 14) (x := 7) rfl) (by decide +kernel)
theorem dX4_anewClock_15 : decode cX4_anewClock 15 = .ok (.iconst 1, 1) := dk_4 (dq_lk dX4_anewClock_v0 (r := 15) (x := 4) rfl)
theorem dX4_anewClock_16 : decode cX4_anewClock 16 = .ok (.goto 4, 3) := dk_167 (dq_lk dX4_anewClock_v1 (r := 0) (x := 167) rfl) (dq_lk dX4_anewClock_v1 (r := 1) (x := 0) rfl) (dq_lk dX4_anewClock_v1 (r := 2) (x := 4) rfl) (by decide +kernel)
theorem dX4_anewClock_19 : decode cX4_anewClock 19 = .ok (.iconst 0, 1) := dk_3 (dq_lk dX4_anewClock_v1 (r := 3) (x := 3) rfl)
theorem dX4_anewClock_20 : decode cX4_anewClock 20 = .ok (.iconst 0, 1) := dk_3 (dq_lk dX4_anewClock_v1 (r := 4) (x := 3) rfl)
theorem dX4_anewClock_21 : decode cX4_anewClock 21 = .ok (.invokevirtual 68, 3) := dk_182 (dq_lk dX4_anewClock_v1 (r := 5) (x := 182) rfl) (dq_lk dX4_anewClock_v1 (r := 6) (x := 0) rfl) (dq_lk dX4_anewClock_v1 (r := 7) (x := 68) rfl)
theorem dX4_anewClock_24 : decode cX4_anewClock 24 = .ok (.ifCond .eq 5, 3) := dk_153 (dq_lk dX4_anewClock_v1 (r := 8) (x := 153) rfl) (dq_lk dX4_anewClock_v1 (r := 9) (x := 0) rfl) (dq_lk dX4_anewClock_v1 (r := 10) (x := 5) rfl) (by decide +kernel)
theorem dX4_anewClock_27 : decode cX4_anewClock 27 = .ok (.iconst 0, 1) := dk_3 (dq_lk dX4_anewClock_v1 (r := 11) (x := 3) rfl)
theorem dX4_anewClock_28 : decode cX4_anewClock 28 = .ok (.ireturn, 1) := dk_172 (dq_lk dX4_anewClock_v1 (r := 12) (x := 172) rfl)
theorem dX4_anewClock_29 : decode cX4_anewClock 29 = .ok (.iload_n 3, 1) := dk_29 (dq_lk dX4_anewClock_v1 (r := 13) (x := 29) rfl)
theorem dX4_anewClock_30 : decode cX4_anewClock 30 = .ok (.ifCond .eq 7, 3) := dk_153 (dq_lk dX4_anewClock_v1 (r := 14) (x := 153) rfl) (dq_lk dX4_anewClock_v1 (r := 15) (x := 0) rfl) (dq_lk dX4_anewClock_v2 (r := 0) (x := 7) rfl) (by decide +kernel)
theorem dX4_anewClock_33 : decode cX4_anewClock 33 = .ok (.iconst 0, 1) := dk_3 (dq_lk dX4_anewClock_v2 (r := 1) (x := 3) rfl)
theorem dX4_anewClock_34 : decode cX4_anewClock 34 = .ok (.goto 18, 3) := dk_167 (dq_lk dX4_anewClock_v2 (r := 2) (x := 167) rfl) (dq_lk dX4_anewClock_v2 (r := 3) (x := 0) rfl) (dq_lk dX4_anewClock_v2 (r := 4) (x := 18) rfl) (by decide +kernel)
theorem dX4_anewClock_37 : decode cX4_anewClock 37 = .ok (.aload_n 0, 1) := dk_42 (dq_lk dX4_anewClock_v2 (r := 5) (x := 42) rfl)
theorem dX4_anewClock_38 : decode cX4_anewClock 38 = .ok (.getfield 7, 3) := dk_180 (dq_lk dX4_anewClock_v2 (r := 6) (x := 180) rfl) (dq_lk dX4_anewClock_v2 (r := 7) (x := 0) rfl) (dq_lk dX4_anewClock_v2 (r := 8) (x := 7) rfl)
theorem dX4_anewClock_41 : decode cX4_anewClock 41 = .ok (.iload_n 2, 1) := dk_28 (dq_lk dX4_anewClock_v2 (r := 9) (x := 28) rfl)
theorem dX4_anewClock_42 : decode cX4_anewClock 42 = .ok (.iaload, 1) := dk_46 (dq_lk dX4_anewClock_v2 (r := 10) (x := 46) rfl)
theorem dX4_anewClock_43 : decode cX4_anewClock 43 = .ok (.aload_n 0, 1) := dk_42 (dq_lk dX4_anewClock_v2 (r := 11) (x := 42) rfl)
theorem dX4_anewClock_44 : decode cX4_anewClock 44 = .ok (.getfield 26, 3) := dk_180 (dq_lk dX4_anewClock_v2 (r := 12) (x := 180) rfl) (dq_lk dX4_anewClock_v2 (r := 13) (x := 0) rfl) (dq_lk dX4_anewClock_v2 (r := 14) (x := 26) rfl)
theorem dX4_anewClock_47 : decode cX4_anewClock 47 = .ok (.iconst 4, 1) := dk_7 (dq_lk dX4_anewClock_v2 (r := 15) (x := 7) rfl)
theorem dX4_anewClock_48 : decode cX4_anewClock 48 = .ok (.iload_n 1, 1) := dk_27 (dq_lk dX4_anewClock_v3 (r := 0) (x := 27) rfl)
theorem dX4_anewClock_49 : decode cX4_anewClock 49 = .ok (.iadd, 1) := dk_96 (dq_lk dX4_anewClock_v3 (r := 1) (x := 96) rfl)
theorem dX4_anewClock_50 : decode cX4_anewClock 50 = .ok (.iaload, 1) := dk_46 (dq_lk dX4_anewClock_v3 (r := 2) (x := 46) rfl)
theorem dX4_anewClock_51 : decode cX4_anewClock 51 = .ok (.isub, 1) := dk_100 (dq_lk dX4_anewClock_v3 (r := 3) (x := 100) rfl)
theorem dX4_anewClock_52 : decode cX4_anewClock 52 = .ok (.istore 4, 2) := dk_54 (dq_lk dX4_anewClock_v3 (r := 4) (x := 54) rfl) (dq_lk dX4_anewClock_v3 (r := 5) (x := 4) rfl)
theorem dX4_anewClock_54 : decode cX4_anewClock 54 = .ok (.aload_n 0, 1) := dk_42 (dq_lk dX4_anewClock_v3 (r := 6) (x := 42) rfl)
theorem dX4_anewClock_55 : decode cX4_anewClock 55 = .ok (.iload_n 1, 1) := dk_27 (dq_lk dX4_anewClock_v3 (r := 7) (x := 27) rfl)
theorem dX4_anewClock_56 : decode cX4_anewClock 56 = .ok (.aload_n 0, 1) := dk_42 (dq_lk dX4_anewClock_v3 (r := 8) (x := 42) rfl)
theorem dX4_anewClock_57 : decode cX4_anewClock 57 = .ok (.getfield 20, 3) := dk_180 (dq_lk dX4_anewClock_v3 (r := 9) (x := 180) rfl) (dq_lk dX4_anewClock_v3 (r := 10) (x := 0) rfl) (dq_lk dX4_anewClock_v3 (r := 11) (x := 20) rfl)
theorem dX4_anewClock_60 : decode cX4_anewClock 60 = .ok (.iconst 4, 1) := dk_7 (dq_lk dX4_anewClock_v3 (r := 12) (x := 7) rfl)
theorem dX4_anewClock_61 : decode cX4_anewClock 61 = .ok (.iload_n 1, 1) := dk_27 (dq_lk dX4_anewClock_v3 (r := 13) (x := 27) rfl)
theorem dX4_anewClock_62 : decode cX4_anewClock 62 = .ok (.iadd, 1) := dk_96 (dq_lk dX4_anewClock_v3 (r := 14) (x := 96) rfl)
theorem dX4_anewClock_63 : decode cX4_anewClock 63 = .ok (.iaload, 1) := dk_46 (dq_lk dX4_anewClock_v3 (r := 15) (x := 46) rfl)
theorem dX4_anewClock_64 : decode cX4_anewClock 64 = .ok (.iload 4, 2) := dk_21 (dq_lk dX4_anewClock_v4 (r := 0) (x := 21) rfl) (dq_lk dX4_anewClock_v4 (r := 1) (x := 4) rfl)
theorem dX4_anewClock_66 : decode cX4_anewClock 66 = .ok (.iadd, 1) := dk_96 (dq_lk dX4_anewClock_v4 (r := 2) (x := 96) rfl)
theorem dX4_anewClock_67 : decode cX4_anewClock 67 = .ok (.i2l, 1) := dk_133 (dq_lk dX4_anewClock_v4 (r := 3) (x := 133) rfl)
theorem dX4_anewClock_68 : decode cX4_anewClock 68 = .ok (.aload_n 0, 1) := dk_42 (dq_lk dX4_anewClock_v4 (r := 4) (x := 42) rfl)
theorem dX4_anewClock_69 : decode cX4_anewClock 69 = .ok (.getfield 23, 3) := dk_180 (dq_lk dX4_anewClock_v4 (r := 5) (x := 180) rfl) (dq_lk dX4_anewClock_v4 (r := 6) (x := 0) rfl) (dq_lk dX4_anewClock_v4 (r := 7) (x := 23) rfl)
theorem dX4_anewClock_72 : decode cX4_anewClock 72 = .ok (.iconst 4, 1) := dk_7 (dq_lk dX4_anewClock_v4 (r := 8) (x := 7) rfl)
theorem dX4_anewClock_73 : decode cX4_anewClock 73 = .ok (.iload_n 1, 1) := dk_27 (dq_lk dX4_anewClock_v4 (r := 9) (x := 27) rfl)
theorem dX4_anewClock_74 : decode cX4_anewClock 74 = .ok (.iadd, 1) := dk_96 (dq_lk dX4_anewClock_v4 (r := 10) (x := 96) rfl)
theorem dX4_anewClock_75 : decode cX4_anewClock 75 = .ok (.iaload, 1) := dk_46 (dq_lk dX4_anewClock_v4 (r := 11) (x := 46) rfl)
theorem dX4_anewClock_76 : decode cX4_anewClock 76 = .ok (.aload_n 0, 1) := dk_42 (dq_lk dX4_anewClock_v4 (r := 12) (x := 42) rfl)
theorem dX4_anewClock_77 : decode cX4_anewClock 77 = .ok (.getfield 7, 3) := dk_180 (dq_lk dX4_anewClock_v4 (r := 13) (x := 180) rfl) (dq_lk dX4_anewClock_v4 (r := 14) (x := 0) rfl) (dq_lk dX4_anewClock_v4 (r := 15) (x := 7) rfl)
theorem dX4_anewClock_80 : decode cX4_anewClock 80 = .ok (.iload_n 2, 1) := dk_28 (dq_lk dX4_anewClock_v5 (r := 0) (x := 28) rfl)
theorem dX4_anewClock_81 : decode cX4_anewClock 81 = .ok (.iaload, 1) := dk_46 (dq_lk dX4_anewClock_v5 (r := 1) (x := 46) rfl)
theorem dX4_anewClock_82 : decode cX4_anewClock 82 = .ok (.invokevirtual 208, 3) := dk_182 (dq_lk dX4_anewClock_v5 (r := 2) (x := 182) rfl) (dq_lk dX4_anewClock_v5 (r := 3) (x := 0) rfl) (dq_lk dX4_anewClock_v5 (r := 4) (x := 208) rfl)
theorem dX4_anewClock_85 : decode cX4_anewClock 85 = .ok (.ireturn, 1) := dk_172 (dq_lk dX4_anewClock_v5 (r := 5) (x := 172) rfl)
theorem dX4_clockTold_v0 : (cX4_clockTold.data.toList.drop 0).take 16 = [28, 7, 162, 0, 16, 42, 7, 27, 96, 7, 28, 96, 182, 0, 193, 167] := by decide +kernel
theorem dX4_clockTold_v1 : (cX4_clockTold.data.toList.drop 16).take 16 = [0, 27, 28, 7, 160, 0, 14, 42, 180, 0, 26, 7, 27, 96, 46, 167] := by decide +kernel
theorem dX4_clockTold_v2 : (cX4_clockTold.data.toList.drop 32).take 16 = [0, 11, 42, 180, 0, 20, 7, 27, 96, 46, 172] := by decide +kernel
theorem dX4_clockTold_0 : decode cX4_clockTold 0 = .ok (.iload_n 2, 1) := dk_28 (dq_lk dX4_clockTold_v0 (r := 0) (x := 28) rfl)
theorem dX4_clockTold_1 : decode cX4_clockTold 1 = .ok (.iconst 4, 1) := dk_7 (dq_lk dX4_clockTold_v0 (r := 1) (x := 7) rfl)
theorem dX4_clockTold_2 : decode cX4_clockTold 2 = .ok (.if_icmp .ge 16, 3) := dk_162 (dq_lk dX4_clockTold_v0 (r := 2) (x := 162) rfl) (dq_lk dX4_clockTold_v0 (r := 3) (x := 0) rfl) (dq_lk dX4_clockTold_v0 (r := 4) (x := 16) rfl) (by decide +kernel)
theorem dX4_clockTold_5 : decode cX4_clockTold 5 = .ok (.aload_n 0, 1) := dk_42 (dq_lk dX4_clockTold_v0 (r := 5) (x := 42) rfl)
theorem dX4_clockTold_6 : decode cX4_clockTold 6 = .ok (.iconst 4, 1) := dk_7 (dq_lk dX4_clockTold_v0 (r := 6) (x := 7) rfl)
theorem dX4_clockTold_7 : decode cX4_clockTold 7 = .ok (.iload_n 1, 1) := dk_27 (dq_lk dX4_clockTold_v0 (r := 7) (x := 27) rfl)
theorem dX4_clockTold_8 : decode cX4_clockTold 8 = .ok (.iadd, 1) := dk_96 (dq_lk dX4_clockTold_v0 (r := 8) (x := 96) rfl)
theorem dX4_clockTold_9 : decode cX4_clockTold 9 = .ok (.iconst 4, 1) := dk_7 (dq_lk dX4_clockTold_v0 (r := 9) (x := 7) rfl)
theorem dX4_clockTold_10 : decode cX4_clockTold 10 = .ok (.iload_n 2, 1) := dk_28 (dq_lk dX4_clockTold_v0 (r := 10) (x := 28) rfl)
theorem dX4_clockTold_11 : decode cX4_clockTold 11 = .ok (.iadd, 1) := dk_96 (dq_lk dX4_clockTold_v0 (r := 11) (x := 96) rfl)
theorem dX4_clockTold_12 : decode cX4_clockTold 12 = .ok (.invokevirtual 193, 3) := dk_182 (dq_lk dX4_clockTold_v0 (r := 12) (x := 182) rfl) (dq_lk dX4_clockTold_v0 (r := 13) (x := 0) rfl) (dq_lk dX4_clockTold_v0 (r := 14) (x := 193) rfl)
theorem dX4_clockTold_15 : decode cX4_clockTold 15 = .ok (.goto 27, 3) := dk_167 (dq_lk dX4_clockTold_v0 (r := 15) (x := 167) rfl) (dq_lk dX4_clockTold_v1 (r := 0) (x := 0) rfl) (dq_lk dX4_clockTold_v1 (r := 1) (x := 27) rfl) (by decide +kernel)
theorem dX4_clockTold_18 : decode cX4_clockTold 18 = .ok (.iload_n 2, 1) := dk_28 (dq_lk dX4_clockTold_v1 (r := 2) (x := 28) rfl)
theorem dX4_clockTold_19 : decode cX4_clockTold 19 = .ok (.iconst 4, 1) := dk_7 (dq_lk dX4_clockTold_v1 (r := 3) (x := 7) rfl)
theorem dX4_clockTold_20 : decode cX4_clockTold 20 = .ok (.if_icmp .ne 14, 3) := dk_160 (dq_lk dX4_clockTold_v1 (r := 4) (x := 160) rfl) (dq_lk dX4_clockTold_v1 (r := 5) (x := 0) rfl) (dq_lk dX4_clockTold_v1 (r := 6) (x := 14) rfl) (by decide +kernel)
theorem dX4_clockTold_23 : decode cX4_clockTold 23 = .ok (.aload_n 0, 1) := dk_42 (dq_lk dX4_clockTold_v1 (r := 7) (x := 42) rfl)
theorem dX4_clockTold_24 : decode cX4_clockTold 24 = .ok (.getfield 26, 3) := dk_180 (dq_lk dX4_clockTold_v1 (r := 8) (x := 180) rfl) (dq_lk dX4_clockTold_v1 (r := 9) (x := 0) rfl) (dq_lk dX4_clockTold_v1 (r := 10) (x := 26) rfl)
theorem dX4_clockTold_27 : decode cX4_clockTold 27 = .ok (.iconst 4, 1) := dk_7 (dq_lk dX4_clockTold_v1 (r := 11) (x := 7) rfl)
theorem dX4_clockTold_28 : decode cX4_clockTold 28 = .ok (.iload_n 1, 1) := dk_27 (dq_lk dX4_clockTold_v1 (r := 12) (x := 27) rfl)
theorem dX4_clockTold_29 : decode cX4_clockTold 29 = .ok (.iadd, 1) := dk_96 (dq_lk dX4_clockTold_v1 (r := 13) (x := 96) rfl)
theorem dX4_clockTold_30 : decode cX4_clockTold 30 = .ok (.iaload, 1) := dk_46 (dq_lk dX4_clockTold_v1 (r := 14) (x := 46) rfl)
theorem dX4_clockTold_31 : decode cX4_clockTold 31 = .ok (.goto 11, 3) := dk_167 (dq_lk dX4_clockTold_v1 (r := 15) (x := 167) rfl) (dq_lk dX4_clockTold_v2 (r := 0) (x := 0) rfl) (dq_lk dX4_clockTold_v2 (r := 1) (x := 11) rfl) (by decide +kernel)
theorem dX4_clockTold_34 : decode cX4_clockTold 34 = .ok (.aload_n 0, 1) := dk_42 (dq_lk dX4_clockTold_v2 (r := 2) (x := 42) rfl)
theorem dX4_clockTold_35 : decode cX4_clockTold 35 = .ok (.getfield 20, 3) := dk_180 (dq_lk dX4_clockTold_v2 (r := 3) (x := 180) rfl) (dq_lk dX4_clockTold_v2 (r := 4) (x := 0) rfl) (dq_lk dX4_clockTold_v2 (r := 5) (x := 20) rfl)
theorem dX4_clockTold_38 : decode cX4_clockTold 38 = .ok (.iconst 4, 1) := dk_7 (dq_lk dX4_clockTold_v2 (r := 6) (x := 7) rfl)
theorem dX4_clockTold_39 : decode cX4_clockTold 39 = .ok (.iload_n 1, 1) := dk_27 (dq_lk dX4_clockTold_v2 (r := 7) (x := 27) rfl)
theorem dX4_clockTold_40 : decode cX4_clockTold 40 = .ok (.iadd, 1) := dk_96 (dq_lk dX4_clockTold_v2 (r := 8) (x := 96) rfl)
theorem dX4_clockTold_41 : decode cX4_clockTold 41 = .ok (.iaload, 1) := dk_46 (dq_lk dX4_clockTold_v2 (r := 9) (x := 46) rfl)
theorem dX4_clockTold_42 : decode cX4_clockTold 42 = .ok (.ireturn, 1) := dk_172 (dq_lk dX4_clockTold_v2 (r := 10) (x := 172) rfl)
theorem dX4_ofClock_v0 : (cX4_ofClock.data.toList.drop 0).take 16 = [42, 27, 184, 0, 205, 28, 133, 9, 20, 0, 214, 184, 0, 38, 154, 0] := by decide +kernel
theorem dX4_ofClock_v1 : (cX4_ofClock.data.toList.drop 16).take 16 = [7, 4, 167, 0, 4, 3, 182, 0, 68, 153, 0, 7, 3, 167, 0, 9] := by decide +kernel
theorem dX4_ofClock_v2 : (cX4_ofClock.data.toList.drop 32).take 16 = [42, 27, 28, 182, 0, 216, 172] := by decide +kernel
theorem dX4_ofClock_0 : decode cX4_ofClock 0 = .ok (.aload_n 0, 1) := dk_42 (dq_lk dX4_ofClock_v0 (r := 0) (x := 42) rfl)
theorem dX4_ofClock_1 : decode cX4_ofClock 1 = .ok (.iload_n 1, 1) := dk_27 (dq_lk dX4_ofClock_v0 (r := 1) (x := 27) rfl)
theorem dX4_ofClock_2 : decode cX4_ofClock 2 = .ok (.invokestatic 205, 3) := dk_184 (dq_lk dX4_ofClock_v0 (r := 2) (x := 184) rfl) (dq_lk dX4_ofClock_v0 (r := 3) (x := 0) rfl) (dq_lk dX4_ofClock_v0 (r := 4) (x := 205) rfl)
theorem dX4_ofClock_5 : decode cX4_ofClock 5 = .ok (.iload_n 2, 1) := dk_28 (dq_lk dX4_ofClock_v0 (r := 5) (x := 28) rfl)
theorem dX4_ofClock_6 : decode cX4_ofClock 6 = .ok (.i2l, 1) := dk_133 (dq_lk dX4_ofClock_v0 (r := 6) (x := 133) rfl)
theorem dX4_ofClock_7 : decode cX4_ofClock 7 = .ok (.lconst 0, 1) := dk_9 (dq_lk dX4_ofClock_v0 (r := 7) (x := 9) rfl)
theorem dX4_ofClock_8 : decode cX4_ofClock 8 = .ok (.ldc2_w 214, 3) := dk_20 (dq_lk dX4_ofClock_v0 (r := 8) (x := 20) rfl) (dq_lk dX4_ofClock_v0 (r := 9) (x := 0) rfl) (dq_lk dX4_ofClock_v0 (r := 10) (x := 214) rfl)
theorem dX4_ofClock_11 : decode cX4_ofClock 11 = .ok (.invokestatic 38, 3) := dk_184 (dq_lk dX4_ofClock_v0 (r := 11) (x := 184) rfl) (dq_lk dX4_ofClock_v0 (r := 12) (x := 0) rfl) (dq_lk dX4_ofClock_v0 (r := 13) (x := 38) rfl)
theorem dX4_ofClock_14 : decode cX4_ofClock 14 = .ok (.ifCond .ne 7, 3) := dk_154 (dq_lk dX4_ofClock_v0 (r := 14) (x := 154) rfl) (dq_lk dX4_ofClock_v0 (r := 15) (x := 0) rfl) (dq_lk dX4_ofClock_v1 (r := 0) (x := 7) rfl) (by decide +kernel)
theorem dX4_ofClock_17 : decode cX4_ofClock 17 = .ok (.iconst 1, 1) := dk_4 (dq_lk dX4_ofClock_v1 (r := 1) (x := 4) rfl)
theorem dX4_ofClock_18 : decode cX4_ofClock 18 = .ok (.goto 4, 3) := dk_167 (dq_lk dX4_ofClock_v1 (r := 2) (x := 167) rfl) (dq_lk dX4_ofClock_v1 (r := 3) (x := 0) rfl) (dq_lk dX4_ofClock_v1 (r := 4) (x := 4) rfl) (by decide +kernel)
theorem dX4_ofClock_21 : decode cX4_ofClock 21 = .ok (.iconst 0, 1) := dk_3 (dq_lk dX4_ofClock_v1 (r := 5) (x := 3) rfl)
theorem dX4_ofClock_22 : decode cX4_ofClock 22 = .ok (.invokevirtual 68, 3) := dk_182 (dq_lk dX4_ofClock_v1 (r := 6) (x := 182) rfl) (dq_lk dX4_ofClock_v1 (r := 7) (x := 0) rfl) (dq_lk dX4_ofClock_v1 (r := 8) (x := 68) rfl)
theorem dX4_ofClock_25 : decode cX4_ofClock 25 = .ok (.ifCond .eq 7, 3) := dk_153 (dq_lk dX4_ofClock_v1 (r := 9) (x := 153) rfl) (dq_lk dX4_ofClock_v1 (r := 10) (x := 0) rfl) (dq_lk dX4_ofClock_v1 (r := 11) (x := 7) rfl) (by decide +kernel)
theorem dX4_ofClock_28 : decode cX4_ofClock 28 = .ok (.iconst 0, 1) := dk_3 (dq_lk dX4_ofClock_v1 (r := 12) (x := 3) rfl)
theorem dX4_ofClock_29 : decode cX4_ofClock 29 = .ok (.goto 9, 3) := dk_167 (dq_lk dX4_ofClock_v1 (r := 13) (x := 167) rfl) (dq_lk dX4_ofClock_v1 (r := 14) (x := 0) rfl) (dq_lk dX4_ofClock_v1 (r := 15) (x := 9) rfl) (by decide +kernel)
theorem dX4_ofClock_32 : decode cX4_ofClock 32 = .ok (.aload_n 0, 1) := dk_42 (dq_lk dX4_ofClock_v2 (r := 0) (x := 42) rfl)
theorem dX4_ofClock_33 : decode cX4_ofClock 33 = .ok (.iload_n 1, 1) := dk_27 (dq_lk dX4_ofClock_v2 (r := 1) (x := 27) rfl)
theorem dX4_ofClock_34 : decode cX4_ofClock 34 = .ok (.iload_n 2, 1) := dk_28 (dq_lk dX4_ofClock_v2 (r := 2) (x := 28) rfl)
theorem dX4_ofClock_35 : decode cX4_ofClock 35 = .ok (.invokevirtual 216, 3) := dk_182 (dq_lk dX4_ofClock_v2 (r := 3) (x := 182) rfl) (dq_lk dX4_ofClock_v2 (r := 4) (x := 0) rfl) (dq_lk dX4_ofClock_v2 (r := 5) (x := 216) rfl)
theorem dX4_ofClock_38 : decode cX4_ofClock 38 = .ok (.ireturn, 1) := dk_172 (dq_lk dX4_ofClock_v2 (r := 6) (x := 172) rfl)
theorem dX4_orderClock_v0 : (cX4_orderClock.data.toList.drop 0).take 16 = [42, 27, 184, 0, 205, 154, 0, 10, 28, 184, 0, 205, 153, 0, 7, 4] := by decide +kernel
theorem dX4_orderClock_v1 : (cX4_orderClock.data.toList.drop 16).take 16 = [167, 0, 4, 3, 3, 182, 0, 68, 153, 0, 7, 3, 167, 0, 13, 42] := by decide +kernel
theorem dX4_orderClock_v2 : (cX4_orderClock.data.toList.drop 32).take 16 = [7, 27, 96, 7, 28, 96, 182, 0, 196, 172] := by decide +kernel
theorem dX4_orderClock_0 : decode cX4_orderClock 0 = .ok (.aload_n 0, 1) := dk_42 (dq_lk dX4_orderClock_v0 (r := 0) (x := 42) rfl)
theorem dX4_orderClock_1 : decode cX4_orderClock 1 = .ok (.iload_n 1, 1) := dk_27 (dq_lk dX4_orderClock_v0 (r := 1) (x := 27) rfl)
theorem dX4_orderClock_2 : decode cX4_orderClock 2 = .ok (.invokestatic 205, 3) := dk_184 (dq_lk dX4_orderClock_v0 (r := 2) (x := 184) rfl) (dq_lk dX4_orderClock_v0 (r := 3) (x := 0) rfl) (dq_lk dX4_orderClock_v0 (r := 4) (x := 205) rfl)
theorem dX4_orderClock_5 : decode cX4_orderClock 5 = .ok (.ifCond .ne 10, 3) := dk_154 (dq_lk dX4_orderClock_v0 (r := 5) (x := 154) rfl) (dq_lk dX4_orderClock_v0 (r := 6) (x := 0) rfl) (dq_lk dX4_orderClock_v0 (r := 7) (x := 10) rfl) (by decide +kernel)
theorem dX4_orderClock_8 : decode cX4_orderClock 8 = .ok (.iload_n 2, 1) := dk_28 (dq_lk dX4_orderClock_v0 (r := 8) (x := 28) rfl)
theorem dX4_orderClock_9 : decode cX4_orderClock 9 = .ok (.invokestatic 205, 3) := dk_184 (dq_lk dX4_orderClock_v0 (r := 9) (x := 184) rfl) (dq_lk dX4_orderClock_v0 (r := 10) (x := 0) rfl) (dq_lk dX4_orderClock_v0 (r := 11) (x := 205) rfl)
theorem dX4_orderClock_12 : decode cX4_orderClock 12 = .ok (.ifCond .eq 7, 3) := dk_153 (dq_lk dX4_orderClock_v0 (r := 12) (x := 153) rfl) (dq_lk dX4_orderClock_v0 (r := 13) (x := 0) rfl) (dq_lk dX4_orderClock_v0 (r := 14) (x := 7) rfl) (by decide +kernel)
theorem dX4_orderClock_15 : decode cX4_orderClock 15 = .ok (.iconst 1, 1) := dk_4 (dq_lk dX4_orderClock_v0 (r := 15) (x := 4) rfl)
theorem dX4_orderClock_16 : decode cX4_orderClock 16 = .ok (.goto 4, 3) := dk_167 (dq_lk dX4_orderClock_v1 (r := 0) (x := 167) rfl) (dq_lk dX4_orderClock_v1 (r := 1) (x := 0) rfl) (dq_lk dX4_orderClock_v1 (r := 2) (x := 4) rfl) (by decide +kernel)
theorem dX4_orderClock_19 : decode cX4_orderClock 19 = .ok (.iconst 0, 1) := dk_3 (dq_lk dX4_orderClock_v1 (r := 3) (x := 3) rfl)
theorem dX4_orderClock_20 : decode cX4_orderClock 20 = .ok (.iconst 0, 1) := dk_3 (dq_lk dX4_orderClock_v1 (r := 4) (x := 3) rfl)
theorem dX4_orderClock_21 : decode cX4_orderClock 21 = .ok (.invokevirtual 68, 3) := dk_182 (dq_lk dX4_orderClock_v1 (r := 5) (x := 182) rfl) (dq_lk dX4_orderClock_v1 (r := 6) (x := 0) rfl) (dq_lk dX4_orderClock_v1 (r := 7) (x := 68) rfl)
theorem dX4_orderClock_24 : decode cX4_orderClock 24 = .ok (.ifCond .eq 7, 3) := dk_153 (dq_lk dX4_orderClock_v1 (r := 8) (x := 153) rfl) (dq_lk dX4_orderClock_v1 (r := 9) (x := 0) rfl) (dq_lk dX4_orderClock_v1 (r := 10) (x := 7) rfl) (by decide +kernel)
theorem dX4_orderClock_27 : decode cX4_orderClock 27 = .ok (.iconst 0, 1) := dk_3 (dq_lk dX4_orderClock_v1 (r := 11) (x := 3) rfl)
theorem dX4_orderClock_28 : decode cX4_orderClock 28 = .ok (.goto 13, 3) := dk_167 (dq_lk dX4_orderClock_v1 (r := 12) (x := 167) rfl) (dq_lk dX4_orderClock_v1 (r := 13) (x := 0) rfl) (dq_lk dX4_orderClock_v1 (r := 14) (x := 13) rfl) (by decide +kernel)
theorem dX4_orderClock_31 : decode cX4_orderClock 31 = .ok (.aload_n 0, 1) := dk_42 (dq_lk dX4_orderClock_v1 (r := 15) (x := 42) rfl)
theorem dX4_orderClock_32 : decode cX4_orderClock 32 = .ok (.iconst 4, 1) := dk_7 (dq_lk dX4_orderClock_v2 (r := 0) (x := 7) rfl)
theorem dX4_orderClock_33 : decode cX4_orderClock 33 = .ok (.iload_n 1, 1) := dk_27 (dq_lk dX4_orderClock_v2 (r := 1) (x := 27) rfl)
theorem dX4_orderClock_34 : decode cX4_orderClock 34 = .ok (.iadd, 1) := dk_96 (dq_lk dX4_orderClock_v2 (r := 2) (x := 96) rfl)
theorem dX4_orderClock_35 : decode cX4_orderClock 35 = .ok (.iconst 4, 1) := dk_7 (dq_lk dX4_orderClock_v2 (r := 3) (x := 7) rfl)
theorem dX4_orderClock_36 : decode cX4_orderClock 36 = .ok (.iload_n 2, 1) := dk_28 (dq_lk dX4_orderClock_v2 (r := 4) (x := 28) rfl)
theorem dX4_orderClock_37 : decode cX4_orderClock 37 = .ok (.iadd, 1) := dk_96 (dq_lk dX4_orderClock_v2 (r := 5) (x := 96) rfl)
theorem dX4_orderClock_38 : decode cX4_orderClock 38 = .ok (.invokevirtual 196, 3) := dk_182 (dq_lk dX4_orderClock_v2 (r := 6) (x := 182) rfl) (dq_lk dX4_orderClock_v2 (r := 7) (x := 0) rfl) (dq_lk dX4_orderClock_v2 (r := 8) (x := 196) rfl)
theorem dX4_orderClock_41 : decode cX4_orderClock 41 = .ok (.ireturn, 1) := dk_172 (dq_lk dX4_orderClock_v2 (r := 9) (x := 172) rfl)
theorem dX4_isClock_v0 : (cX4_isClock.data.toList.drop 0).take 16 = [42, 27, 184, 0, 205, 154, 0, 10, 28, 184, 0, 205, 153, 0, 7, 4] := by decide +kernel
theorem dX4_isClock_v1 : (cX4_isClock.data.toList.drop 16).take 16 = [167, 0, 4, 3, 29, 133, 9, 20, 0, 36, 184, 0, 38, 154, 0, 7] := by decide +kernel
theorem dX4_isClock_v2 : (cX4_isClock.data.toList.drop 32).take 16 = [4, 167, 0, 4, 3, 182, 0, 68, 154, 0, 21, 42, 7, 27, 96, 7] := by decide +kernel
theorem dX4_isClock_v3 : (cX4_isClock.data.toList.drop 48).take 16 = [28, 96, 29, 182, 0, 199, 153, 0, 7, 4, 167, 0, 4, 3, 172] := by decide +kernel
theorem dX4_isClock_0 : decode cX4_isClock 0 = .ok (.aload_n 0, 1) := dk_42 (dq_lk dX4_isClock_v0 (r := 0) (x := 42) rfl)
theorem dX4_isClock_1 : decode cX4_isClock 1 = .ok (.iload_n 1, 1) := dk_27 (dq_lk dX4_isClock_v0 (r := 1) (x := 27) rfl)
theorem dX4_isClock_2 : decode cX4_isClock 2 = .ok (.invokestatic 205, 3) := dk_184 (dq_lk dX4_isClock_v0 (r := 2) (x := 184) rfl) (dq_lk dX4_isClock_v0 (r := 3) (x := 0) rfl) (dq_lk dX4_isClock_v0 (r := 4) (x := 205) rfl)
theorem dX4_isClock_5 : decode cX4_isClock 5 = .ok (.ifCond .ne 10, 3) := dk_154 (dq_lk dX4_isClock_v0 (r := 5) (x := 154) rfl) (dq_lk dX4_isClock_v0 (r := 6) (x := 0) rfl) (dq_lk dX4_isClock_v0 (r := 7) (x := 10) rfl) (by decide +kernel)
theorem dX4_isClock_8 : decode cX4_isClock 8 = .ok (.iload_n 2, 1) := dk_28 (dq_lk dX4_isClock_v0 (r := 8) (x := 28) rfl)
theorem dX4_isClock_9 : decode cX4_isClock 9 = .ok (.invokestatic 205, 3) := dk_184 (dq_lk dX4_isClock_v0 (r := 9) (x := 184) rfl) (dq_lk dX4_isClock_v0 (r := 10) (x := 0) rfl) (dq_lk dX4_isClock_v0 (r := 11) (x := 205) rfl)
theorem dX4_isClock_12 : decode cX4_isClock 12 = .ok (.ifCond .eq 7, 3) := dk_153 (dq_lk dX4_isClock_v0 (r := 12) (x := 153) rfl) (dq_lk dX4_isClock_v0 (r := 13) (x := 0) rfl) (dq_lk dX4_isClock_v0 (r := 14) (x := 7) rfl) (by decide +kernel)
theorem dX4_isClock_15 : decode cX4_isClock 15 = .ok (.iconst 1, 1) := dk_4 (dq_lk dX4_isClock_v0 (r := 15) (x := 4) rfl)
theorem dX4_isClock_16 : decode cX4_isClock 16 = .ok (.goto 4, 3) := dk_167 (dq_lk dX4_isClock_v1 (r := 0) (x := 167) rfl) (dq_lk dX4_isClock_v1 (r := 1) (x := 0) rfl) (dq_lk dX4_isClock_v1 (r := 2) (x := 4) rfl) (by decide +kernel)
theorem dX4_isClock_19 : decode cX4_isClock 19 = .ok (.iconst 0, 1) := dk_3 (dq_lk dX4_isClock_v1 (r := 3) (x := 3) rfl)
theorem dX4_isClock_20 : decode cX4_isClock 20 = .ok (.iload_n 3, 1) := dk_29 (dq_lk dX4_isClock_v1 (r := 4) (x := 29) rfl)
theorem dX4_isClock_21 : decode cX4_isClock 21 = .ok (.i2l, 1) := dk_133 (dq_lk dX4_isClock_v1 (r := 5) (x := 133) rfl)
theorem dX4_isClock_22 : decode cX4_isClock 22 = .ok (.lconst 0, 1) := dk_9 (dq_lk dX4_isClock_v1 (r := 6) (x := 9) rfl)
theorem dX4_isClock_23 : decode cX4_isClock 23 = .ok (.ldc2_w 36, 3) := dk_20 (dq_lk dX4_isClock_v1 (r := 7) (x := 20) rfl) (dq_lk dX4_isClock_v1 (r := 8) (x := 0) rfl) (dq_lk dX4_isClock_v1 (r := 9) (x := 36) rfl)
theorem dX4_isClock_26 : decode cX4_isClock 26 = .ok (.invokestatic 38, 3) := dk_184 (dq_lk dX4_isClock_v1 (r := 10) (x := 184) rfl) (dq_lk dX4_isClock_v1 (r := 11) (x := 0) rfl) (dq_lk dX4_isClock_v1 (r := 12) (x := 38) rfl)
theorem dX4_isClock_29 : decode cX4_isClock 29 = .ok (.ifCond .ne 7, 3) := dk_154 (dq_lk dX4_isClock_v1 (r := 13) (x := 154) rfl) (dq_lk dX4_isClock_v1 (r := 14) (x := 0) rfl) (dq_lk dX4_isClock_v1 (r := 15) (x := 7) rfl) (by decide +kernel)
theorem dX4_isClock_32 : decode cX4_isClock 32 = .ok (.iconst 1, 1) := dk_4 (dq_lk dX4_isClock_v2 (r := 0) (x := 4) rfl)
theorem dX4_isClock_33 : decode cX4_isClock 33 = .ok (.goto 4, 3) := dk_167 (dq_lk dX4_isClock_v2 (r := 1) (x := 167) rfl) (dq_lk dX4_isClock_v2 (r := 2) (x := 0) rfl) (dq_lk dX4_isClock_v2 (r := 3) (x := 4) rfl) (by decide +kernel)
theorem dX4_isClock_36 : decode cX4_isClock 36 = .ok (.iconst 0, 1) := dk_3 (dq_lk dX4_isClock_v2 (r := 4) (x := 3) rfl)
theorem dX4_isClock_37 : decode cX4_isClock 37 = .ok (.invokevirtual 68, 3) := dk_182 (dq_lk dX4_isClock_v2 (r := 5) (x := 182) rfl) (dq_lk dX4_isClock_v2 (r := 6) (x := 0) rfl) (dq_lk dX4_isClock_v2 (r := 7) (x := 68) rfl)
theorem dX4_isClock_40 : decode cX4_isClock 40 = .ok (.ifCond .ne 21, 3) := dk_154 (dq_lk dX4_isClock_v2 (r := 8) (x := 154) rfl) (dq_lk dX4_isClock_v2 (r := 9) (x := 0) rfl) (dq_lk dX4_isClock_v2 (r := 10) (x := 21) rfl) (by decide +kernel)
theorem dX4_isClock_43 : decode cX4_isClock 43 = .ok (.aload_n 0, 1) := dk_42 (dq_lk dX4_isClock_v2 (r := 11) (x := 42) rfl)
theorem dX4_isClock_44 : decode cX4_isClock 44 = .ok (.iconst 4, 1) := dk_7 (dq_lk dX4_isClock_v2 (r := 12) (x := 7) rfl)
theorem dX4_isClock_45 : decode cX4_isClock 45 = .ok (.iload_n 1, 1) := dk_27 (dq_lk dX4_isClock_v2 (r := 13) (x := 27) rfl)
theorem dX4_isClock_46 : decode cX4_isClock 46 = .ok (.iadd, 1) := dk_96 (dq_lk dX4_isClock_v2 (r := 14) (x := 96) rfl)
theorem dX4_isClock_47 : decode cX4_isClock 47 = .ok (.iconst 4, 1) := dk_7 (dq_lk dX4_isClock_v2 (r := 15) (x := 7) rfl)
theorem dX4_isClock_48 : decode cX4_isClock 48 = .ok (.iload_n 2, 1) := dk_28 (dq_lk dX4_isClock_v3 (r := 0) (x := 28) rfl)
theorem dX4_isClock_49 : decode cX4_isClock 49 = .ok (.iadd, 1) := dk_96 (dq_lk dX4_isClock_v3 (r := 1) (x := 96) rfl)
theorem dX4_isClock_50 : decode cX4_isClock 50 = .ok (.iload_n 3, 1) := dk_29 (dq_lk dX4_isClock_v3 (r := 2) (x := 29) rfl)
theorem dX4_isClock_51 : decode cX4_isClock 51 = .ok (.invokevirtual 199, 3) := dk_182 (dq_lk dX4_isClock_v3 (r := 3) (x := 182) rfl) (dq_lk dX4_isClock_v3 (r := 4) (x := 0) rfl) (dq_lk dX4_isClock_v3 (r := 5) (x := 199) rfl)
theorem dX4_isClock_54 : decode cX4_isClock 54 = .ok (.ifCond .eq 7, 3) := dk_153 (dq_lk dX4_isClock_v3 (r := 6) (x := 153) rfl) (dq_lk dX4_isClock_v3 (r := 7) (x := 0) rfl) (dq_lk dX4_isClock_v3 (r := 8) (x := 7) rfl) (by decide +kernel)
theorem dX4_isClock_57 : decode cX4_isClock 57 = .ok (.iconst 1, 1) := dk_4 (dq_lk dX4_isClock_v3 (r := 9) (x := 4) rfl)
theorem dX4_isClock_58 : decode cX4_isClock 58 = .ok (.goto 4, 3) := dk_167 (dq_lk dX4_isClock_v3 (r := 10) (x := 167) rfl) (dq_lk dX4_isClock_v3 (r := 11) (x := 0) rfl) (dq_lk dX4_isClock_v3 (r := 12) (x := 4) rfl) (by decide +kernel)
theorem dX4_isClock_61 : decode cX4_isClock 61 = .ok (.iconst 0, 1) := dk_3 (dq_lk dX4_isClock_v3 (r := 13) (x := 3) rfl)
theorem dX4_isClock_62 : decode cX4_isClock 62 = .ok (.ireturn, 1) := dk_172 (dq_lk dX4_isClock_v3 (r := 14) (x := 172) rfl)
theorem dX4_knock_v0 : (cX4_knock.data.toList.drop 0).take 16 = [42, 3, 181, 0, 29, 42, 89, 180, 0, 219, 4, 96, 181, 0, 219, 42] := by decide +kernel
theorem dX4_knock_v1 : (cX4_knock.data.toList.drop 16).take 16 = [180, 0, 219, 172] := by decide +kernel
theorem dX4_knock_0 : decode cX4_knock 0 = .ok (.aload_n 0, 1) := dk_42 (dq_lk dX4_knock_v0 (r := 0) (x := 42) rfl)
theorem dX4_knock_1 : decode cX4_knock 1 = .ok (.iconst 0, 1) := dk_3 (dq_lk dX4_knock_v0 (r := 1) (x := 3) rfl)
theorem dX4_knock_2 : decode cX4_knock 2 = .ok (.putfield 29, 3) := dk_181 (dq_lk dX4_knock_v0 (r := 2) (x := 181) rfl) (dq_lk dX4_knock_v0 (r := 3) (x := 0) rfl) (dq_lk dX4_knock_v0 (r := 4) (x := 29) rfl)
theorem dX4_knock_5 : decode cX4_knock 5 = .ok (.aload_n 0, 1) := dk_42 (dq_lk dX4_knock_v0 (r := 5) (x := 42) rfl)
theorem dX4_knock_6 : decode cX4_knock 6 = .ok (.dup, 1) := dk_89 (dq_lk dX4_knock_v0 (r := 6) (x := 89) rfl)
theorem dX4_knock_7 : decode cX4_knock 7 = .ok (.getfield 219, 3) := dk_180 (dq_lk dX4_knock_v0 (r := 7) (x := 180) rfl) (dq_lk dX4_knock_v0 (r := 8) (x := 0) rfl) (dq_lk dX4_knock_v0 (r := 9) (x := 219) rfl)
theorem dX4_knock_10 : decode cX4_knock 10 = .ok (.iconst 1, 1) := dk_4 (dq_lk dX4_knock_v0 (r := 10) (x := 4) rfl)
theorem dX4_knock_11 : decode cX4_knock 11 = .ok (.iadd, 1) := dk_96 (dq_lk dX4_knock_v0 (r := 11) (x := 96) rfl)
theorem dX4_knock_12 : decode cX4_knock 12 = .ok (.putfield 219, 3) := dk_181 (dq_lk dX4_knock_v0 (r := 12) (x := 181) rfl) (dq_lk dX4_knock_v0 (r := 13) (x := 0) rfl) (dq_lk dX4_knock_v0 (r := 14) (x := 219) rfl)
theorem dX4_knock_15 : decode cX4_knock 15 = .ok (.aload_n 0, 1) := dk_42 (dq_lk dX4_knock_v0 (r := 15) (x := 42) rfl)
theorem dX4_knock_16 : decode cX4_knock 16 = .ok (.getfield 219, 3) := dk_180 (dq_lk dX4_knock_v1 (r := 0) (x := 180) rfl) (dq_lk dX4_knock_v1 (r := 1) (x := 0) rfl) (dq_lk dX4_knock_v1 (r := 2) (x := 219) rfl)
theorem dX4_knock_19 : decode cX4_knock 19 = .ok (.ireturn, 1) := dk_172 (dq_lk dX4_knock_v1 (r := 3) (x := 172) rfl)
theorem dX4_isSound_v0 : (cX4_isSound.data.toList.drop 0).take 16 = [42, 3, 181, 0, 29, 4, 172] := by decide +kernel
theorem dX4_isSound_0 : decode cX4_isSound 0 = .ok (.aload_n 0, 1) := dk_42 (dq_lk dX4_isSound_v0 (r := 0) (x := 42) rfl)
theorem dX4_isSound_1 : decode cX4_isSound 1 = .ok (.iconst 0, 1) := dk_3 (dq_lk dX4_isSound_v0 (r := 1) (x := 3) rfl)
theorem dX4_isSound_2 : decode cX4_isSound 2 = .ok (.putfield 29, 3) := dk_181 (dq_lk dX4_isSound_v0 (r := 2) (x := 181) rfl) (dq_lk dX4_isSound_v0 (r := 3) (x := 0) rfl) (dq_lk dX4_isSound_v0 (r := 4) (x := 29) rfl)
theorem dX4_isSound_5 : decode cX4_isSound 5 = .ok (.iconst 1, 1) := dk_4 (dq_lk dX4_isSound_v0 (r := 5) (x := 4) rfl)
theorem dX4_isSound_6 : decode cX4_isSound 6 = .ok (.ireturn, 1) := dk_172 (dq_lk dX4_isSound_v0 (r := 6) (x := 172) rfl)
theorem dX4_houseTold_w0 : (cX4_houseTold.data.toList.drop 0).take 64 = [3, 61, 3, 62, 4, 54, 4, 21, 4, 7, 162, 0, 42, 42, 21, 4, 28, 182, 0, 196, 156, 0, 6, 21, 4, 61, 42, 180, 0, 13, 21, 4, 47, 42, 180, 0, 13, 29, 47, 148, 156, 0, 6, 21, 4, 62, 132, 4, 1, 167, 255, 214, 27, 154, 0, 10, 42, 180, 0, 219, 167, 0, 25, 27] := by decide +kernel
theorem dX4_houseTold_w1 : (cX4_houseTold.data.toList.drop 64).take 64 = [4, 160, 0, 10, 42, 180, 0, 33, 167, 0, 13, 27, 5, 160, 0, 7, 28, 167, 0, 4, 29, 172] := by decide +kernel
theorem dX4_houseTold_v0 : (cX4_houseTold.data.toList.drop 0).take 16 = [3, 61, 3, 62, 4, 54, 4, 21, 4, 7, 162, 0, 42, 42, 21, 4] := dq_sub (n := 0) (j := 0) dX4_houseTold_w0 (by decide) rfl
theorem dX4_houseTold_v1 : (cX4_houseTold.data.toList.drop 16).take 16 = [28, 182, 0, 196, 156, 0, 6, 21, 4, 61, 42, 180, 0, 13, 21, 4] := dq_sub (n := 0) (j := 16) dX4_houseTold_w0 (by decide) rfl
theorem dX4_houseTold_v2 : (cX4_houseTold.data.toList.drop 32).take 16 = [47, 42, 180, 0, 13, 29, 47, 148, 156, 0, 6, 21, 4, 62, 132, 4] := dq_sub (n := 0) (j := 32) dX4_houseTold_w0 (by decide) rfl
theorem dX4_houseTold_v3 : (cX4_houseTold.data.toList.drop 48).take 16 = [1, 167, 255, 214, 27, 154, 0, 10, 42, 180, 0, 219, 167, 0, 25, 27] := dq_sub (n := 0) (j := 48) dX4_houseTold_w0 (by decide) rfl
theorem dX4_houseTold_v4 : (cX4_houseTold.data.toList.drop 64).take 16 = [4, 160, 0, 10, 42, 180, 0, 33, 167, 0, 13, 27, 5, 160, 0, 7] := dq_sub (n := 64) (j := 0) dX4_houseTold_w1 (by decide) rfl
theorem dX4_houseTold_v5 : (cX4_houseTold.data.toList.drop 80).take 16 = [28, 167, 0, 4, 29, 172] := dq_sub (n := 64) (j := 16) dX4_houseTold_w1 (by decide) rfl
theorem dX4_houseTold_0 : decode cX4_houseTold 0 = .ok (.iconst 0, 1) := dk_3 (dq_lk dX4_houseTold_v0 (r := 0) (x := 3) rfl)
theorem dX4_houseTold_1 : decode cX4_houseTold 1 = .ok (.istore_n 2, 1) := dk_61 (dq_lk dX4_houseTold_v0 (r := 1) (x := 61) rfl)
theorem dX4_houseTold_2 : decode cX4_houseTold 2 = .ok (.iconst 0, 1) := dk_3 (dq_lk dX4_houseTold_v0 (r := 2) (x := 3) rfl)
theorem dX4_houseTold_3 : decode cX4_houseTold 3 = .ok (.istore_n 3, 1) := dk_62 (dq_lk dX4_houseTold_v0 (r := 3) (x := 62) rfl)
theorem dX4_houseTold_4 : decode cX4_houseTold 4 = .ok (.iconst 1, 1) := dk_4 (dq_lk dX4_houseTold_v0 (r := 4) (x := 4) rfl)
theorem dX4_houseTold_5 : decode cX4_houseTold 5 = .ok (.istore 4, 2) := dk_54 (dq_lk dX4_houseTold_v0 (r := 5) (x := 54) rfl) (dq_lk dX4_houseTold_v0 (r := 6) (x := 4) rfl)
theorem dX4_houseTold_7 : decode cX4_houseTold 7 = .ok (.iload 4, 2) := dk_21 (dq_lk dX4_houseTold_v0 (r := 7) (x := 21) rfl) (dq_lk dX4_houseTold_v0 (r := 8) (x := 4) rfl)
theorem dX4_houseTold_9 : decode cX4_houseTold 9 = .ok (.iconst 4, 1) := dk_7 (dq_lk dX4_houseTold_v0 (r := 9) (x := 7) rfl)
theorem dX4_houseTold_10 : decode cX4_houseTold 10 = .ok (.if_icmp .ge 42, 3) := dk_162 (dq_lk dX4_houseTold_v0 (r := 10) (x := 162) rfl) (dq_lk dX4_houseTold_v0 (r := 11) (x := 0) rfl) (dq_lk dX4_houseTold_v0 (r := 12) (x := 42) rfl) (by decide +kernel)
theorem dX4_houseTold_13 : decode cX4_houseTold 13 = .ok (.aload_n 0, 1) := dk_42 (dq_lk dX4_houseTold_v0 (r := 13) (x := 42) rfl)
theorem dX4_houseTold_14 : decode cX4_houseTold 14 = .ok (.iload 4, 2) := dk_21 (dq_lk dX4_houseTold_v0 (r := 14) (x := 21) rfl) (dq_lk dX4_houseTold_v0 (r := 15) (x := 4) rfl)
theorem dX4_houseTold_16 : decode cX4_houseTold 16 = .ok (.iload_n 2, 1) := dk_28 (dq_lk dX4_houseTold_v1 (r := 0) (x := 28) rfl)
theorem dX4_houseTold_17 : decode cX4_houseTold 17 = .ok (.invokevirtual 196, 3) := dk_182 (dq_lk dX4_houseTold_v1 (r := 1) (x := 182) rfl) (dq_lk dX4_houseTold_v1 (r := 2) (x := 0) rfl) (dq_lk dX4_houseTold_v1 (r := 3) (x := 196) rfl)
theorem dX4_houseTold_20 : decode cX4_houseTold 20 = .ok (.ifCond .ge 6, 3) := dk_156 (dq_lk dX4_houseTold_v1 (r := 4) (x := 156) rfl) (dq_lk dX4_houseTold_v1 (r := 5) (x := 0) rfl) (dq_lk dX4_houseTold_v1 (r := 6) (x := 6) rfl) (by decide +kernel)
theorem dX4_houseTold_23 : decode cX4_houseTold 23 = .ok (.iload 4, 2) := dk_21 (dq_lk dX4_houseTold_v1 (r := 7) (x := 21) rfl) (dq_lk dX4_houseTold_v1 (r := 8) (x := 4) rfl)
theorem dX4_houseTold_25 : decode cX4_houseTold 25 = .ok (.istore_n 2, 1) := dk_61 (dq_lk dX4_houseTold_v1 (r := 9) (x := 61) rfl)
theorem dX4_houseTold_26 : decode cX4_houseTold 26 = .ok (.aload_n 0, 1) := dk_42 (dq_lk dX4_houseTold_v1 (r := 10) (x := 42) rfl)
theorem dX4_houseTold_27 : decode cX4_houseTold 27 = .ok (.getfield 13, 3) := dk_180 (dq_lk dX4_houseTold_v1 (r := 11) (x := 180) rfl) (dq_lk dX4_houseTold_v1 (r := 12) (x := 0) rfl) (dq_lk dX4_houseTold_v1 (r := 13) (x := 13) rfl)
theorem dX4_houseTold_30 : decode cX4_houseTold 30 = .ok (.iload 4, 2) := dk_21 (dq_lk dX4_houseTold_v1 (r := 14) (x := 21) rfl) (dq_lk dX4_houseTold_v1 (r := 15) (x := 4) rfl)
theorem dX4_houseTold_32 : decode cX4_houseTold 32 = .ok (.laload, 1) := dk_47 (dq_lk dX4_houseTold_v2 (r := 0) (x := 47) rfl)
theorem dX4_houseTold_33 : decode cX4_houseTold 33 = .ok (.aload_n 0, 1) := dk_42 (dq_lk dX4_houseTold_v2 (r := 1) (x := 42) rfl)
theorem dX4_houseTold_34 : decode cX4_houseTold 34 = .ok (.getfield 13, 3) := dk_180 (dq_lk dX4_houseTold_v2 (r := 2) (x := 180) rfl) (dq_lk dX4_houseTold_v2 (r := 3) (x := 0) rfl) (dq_lk dX4_houseTold_v2 (r := 4) (x := 13) rfl)
theorem dX4_houseTold_37 : decode cX4_houseTold 37 = .ok (.iload_n 3, 1) := dk_29 (dq_lk dX4_houseTold_v2 (r := 5) (x := 29) rfl)
theorem dX4_houseTold_38 : decode cX4_houseTold 38 = .ok (.laload, 1) := dk_47 (dq_lk dX4_houseTold_v2 (r := 6) (x := 47) rfl)
theorem dX4_houseTold_39 : decode cX4_houseTold 39 = .ok (.lcmp, 1) := dk_148 (dq_lk dX4_houseTold_v2 (r := 7) (x := 148) rfl)
theorem dX4_houseTold_40 : decode cX4_houseTold 40 = .ok (.ifCond .ge 6, 3) := dk_156 (dq_lk dX4_houseTold_v2 (r := 8) (x := 156) rfl) (dq_lk dX4_houseTold_v2 (r := 9) (x := 0) rfl) (dq_lk dX4_houseTold_v2 (r := 10) (x := 6) rfl) (by decide +kernel)
theorem dX4_houseTold_43 : decode cX4_houseTold 43 = .ok (.iload 4, 2) := dk_21 (dq_lk dX4_houseTold_v2 (r := 11) (x := 21) rfl) (dq_lk dX4_houseTold_v2 (r := 12) (x := 4) rfl)
theorem dX4_houseTold_45 : decode cX4_houseTold 45 = .ok (.istore_n 3, 1) := dk_62 (dq_lk dX4_houseTold_v2 (r := 13) (x := 62) rfl)
theorem dX4_houseTold_46 : decode cX4_houseTold 46 = .ok (.iinc 4 1, 3) := dk_132 (dq_lk dX4_houseTold_v2 (r := 14) (x := 132) rfl) (dq_lk dX4_houseTold_v2 (r := 15) (x := 4) rfl) (dq_lk dX4_houseTold_v3 (r := 0) (x := 1) rfl) (by decide +kernel)
theorem dX4_houseTold_49 : decode cX4_houseTold 49 = .ok (.goto (-42), 3) := dk_167 (dq_lk dX4_houseTold_v3 (r := 1) (x := 167) rfl) (dq_lk dX4_houseTold_v3 (r := 2) (x := 255) rfl) (dq_lk dX4_houseTold_v3 (r := 3) (x := 214) rfl) (by decide +kernel)
theorem dX4_houseTold_52 : decode cX4_houseTold 52 = .ok (.iload_n 1, 1) := dk_27 (dq_lk dX4_houseTold_v3 (r := 4) (x := 27) rfl)
theorem dX4_houseTold_53 : decode cX4_houseTold 53 = .ok (.ifCond .ne 10, 3) := dk_154 (dq_lk dX4_houseTold_v3 (r := 5) (x := 154) rfl) (dq_lk dX4_houseTold_v3 (r := 6) (x := 0) rfl) (dq_lk dX4_houseTold_v3 (r := 7) (x := 10) rfl) (by decide +kernel)
theorem dX4_houseTold_56 : decode cX4_houseTold 56 = .ok (.aload_n 0, 1) := dk_42 (dq_lk dX4_houseTold_v3 (r := 8) (x := 42) rfl)
theorem dX4_houseTold_57 : decode cX4_houseTold 57 = .ok (.getfield 219, 3) := dk_180 (dq_lk dX4_houseTold_v3 (r := 9) (x := 180) rfl) (dq_lk dX4_houseTold_v3 (r := 10) (x := 0) rfl) (dq_lk dX4_houseTold_v3 (r := 11) (x := 219) rfl)
theorem dX4_houseTold_60 : decode cX4_houseTold 60 = .ok (.goto 25, 3) := dk_167 (dq_lk dX4_houseTold_v3 (r := 12) (x := 167) rfl) (dq_lk dX4_houseTold_v3 (r := 13) (x := 0) rfl) (dq_lk dX4_houseTold_v3 (r := 14) (x := 25) rfl) (by decide +kernel)
theorem dX4_houseTold_63 : decode cX4_houseTold 63 = .ok (.iload_n 1, 1) := dk_27 (dq_lk dX4_houseTold_v3 (r := 15) (x := 27) rfl)
theorem dX4_houseTold_64 : decode cX4_houseTold 64 = .ok (.iconst 1, 1) := dk_4 (dq_lk dX4_houseTold_v4 (r := 0) (x := 4) rfl)
theorem dX4_houseTold_65 : decode cX4_houseTold 65 = .ok (.if_icmp .ne 10, 3) := dk_160 (dq_lk dX4_houseTold_v4 (r := 1) (x := 160) rfl) (dq_lk dX4_houseTold_v4 (r := 2) (x := 0) rfl) (dq_lk dX4_houseTold_v4 (r := 3) (x := 10) rfl) (by decide +kernel)
theorem dX4_houseTold_68 : decode cX4_houseTold 68 = .ok (.aload_n 0, 1) := dk_42 (dq_lk dX4_houseTold_v4 (r := 4) (x := 42) rfl)
theorem dX4_houseTold_69 : decode cX4_houseTold 69 = .ok (.getfield 33, 3) := dk_180 (dq_lk dX4_houseTold_v4 (r := 5) (x := 180) rfl) (dq_lk dX4_houseTold_v4 (r := 6) (x := 0) rfl) (dq_lk dX4_houseTold_v4 (r := 7) (x := 33) rfl)
theorem dX4_houseTold_72 : decode cX4_houseTold 72 = .ok (.goto 13, 3) := dk_167 (dq_lk dX4_houseTold_v4 (r := 8) (x := 167) rfl) (dq_lk dX4_houseTold_v4 (r := 9) (x := 0) rfl) (dq_lk dX4_houseTold_v4 (r := 10) (x := 13) rfl) (by decide +kernel)
theorem dX4_houseTold_75 : decode cX4_houseTold 75 = .ok (.iload_n 1, 1) := dk_27 (dq_lk dX4_houseTold_v4 (r := 11) (x := 27) rfl)
theorem dX4_houseTold_76 : decode cX4_houseTold 76 = .ok (.iconst 2, 1) := dk_5 (dq_lk dX4_houseTold_v4 (r := 12) (x := 5) rfl)
theorem dX4_houseTold_77 : decode cX4_houseTold 77 = .ok (.if_icmp .ne 7, 3) := dk_160 (dq_lk dX4_houseTold_v4 (r := 13) (x := 160) rfl) (dq_lk dX4_houseTold_v4 (r := 14) (x := 0) rfl) (dq_lk dX4_houseTold_v4 (r := 15) (x := 7) rfl) (by decide +kernel)
theorem dX4_houseTold_80 : decode cX4_houseTold 80 = .ok (.iload_n 2, 1) := dk_28 (dq_lk dX4_houseTold_v5 (r := 0) (x := 28) rfl)
theorem dX4_houseTold_81 : decode cX4_houseTold 81 = .ok (.goto 4, 3) := dk_167 (dq_lk dX4_houseTold_v5 (r := 1) (x := 167) rfl) (dq_lk dX4_houseTold_v5 (r := 2) (x := 0) rfl) (dq_lk dX4_houseTold_v5 (r := 3) (x := 4) rfl) (by decide +kernel)
theorem dX4_houseTold_84 : decode cX4_houseTold 84 = .ok (.iload_n 3, 1) := dk_29 (dq_lk dX4_houseTold_v5 (r := 4) (x := 29) rfl)
theorem dX4_houseTold_85 : decode cX4_houseTold 85 = .ok (.ireturn, 1) := dk_172 (dq_lk dX4_houseTold_v5 (r := 5) (x := 172) rfl)
theorem dX4_house_v0 : (cX4_house.data.toList.drop 0).take 16 = [42, 27, 133, 9, 20, 0, 36, 184, 0, 38, 154, 0, 7, 4, 167, 0] := by decide +kernel
theorem dX4_house_v1 : (cX4_house.data.toList.drop 16).take 16 = [4, 3, 3, 182, 0, 68, 153, 0, 7, 3, 167, 0, 8, 42, 27, 182] := by decide +kernel
theorem dX4_house_v2 : (cX4_house.data.toList.drop 32).take 16 = [0, 222, 172] := by decide +kernel
theorem dX4_house_0 : decode cX4_house 0 = .ok (.aload_n 0, 1) := dk_42 (dq_lk dX4_house_v0 (r := 0) (x := 42) rfl)
theorem dX4_house_1 : decode cX4_house 1 = .ok (.iload_n 1, 1) := dk_27 (dq_lk dX4_house_v0 (r := 1) (x := 27) rfl)
theorem dX4_house_2 : decode cX4_house 2 = .ok (.i2l, 1) := dk_133 (dq_lk dX4_house_v0 (r := 2) (x := 133) rfl)
theorem dX4_house_3 : decode cX4_house 3 = .ok (.lconst 0, 1) := dk_9 (dq_lk dX4_house_v0 (r := 3) (x := 9) rfl)
theorem dX4_house_4 : decode cX4_house 4 = .ok (.ldc2_w 36, 3) := dk_20 (dq_lk dX4_house_v0 (r := 4) (x := 20) rfl) (dq_lk dX4_house_v0 (r := 5) (x := 0) rfl) (dq_lk dX4_house_v0 (r := 6) (x := 36) rfl)
theorem dX4_house_7 : decode cX4_house 7 = .ok (.invokestatic 38, 3) := dk_184 (dq_lk dX4_house_v0 (r := 7) (x := 184) rfl) (dq_lk dX4_house_v0 (r := 8) (x := 0) rfl) (dq_lk dX4_house_v0 (r := 9) (x := 38) rfl)
theorem dX4_house_10 : decode cX4_house 10 = .ok (.ifCond .ne 7, 3) := dk_154 (dq_lk dX4_house_v0 (r := 10) (x := 154) rfl) (dq_lk dX4_house_v0 (r := 11) (x := 0) rfl) (dq_lk dX4_house_v0 (r := 12) (x := 7) rfl) (by decide +kernel)
theorem dX4_house_13 : decode cX4_house 13 = .ok (.iconst 1, 1) := dk_4 (dq_lk dX4_house_v0 (r := 13) (x := 4) rfl)
theorem dX4_house_14 : decode cX4_house 14 = .ok (.goto 4, 3) := dk_167 (dq_lk dX4_house_v0 (r := 14) (x := 167) rfl) (dq_lk dX4_house_v0 (r := 15) (x := 0) rfl) (dq_lk dX4_house_v1 (r := 0) (x := 4) rfl) (by decide +kernel)
theorem dX4_house_17 : decode cX4_house 17 = .ok (.iconst 0, 1) := dk_3 (dq_lk dX4_house_v1 (r := 1) (x := 3) rfl)
theorem dX4_house_18 : decode cX4_house 18 = .ok (.iconst 0, 1) := dk_3 (dq_lk dX4_house_v1 (r := 2) (x := 3) rfl)
theorem dX4_house_19 : decode cX4_house 19 = .ok (.invokevirtual 68, 3) := dk_182 (dq_lk dX4_house_v1 (r := 3) (x := 182) rfl) (dq_lk dX4_house_v1 (r := 4) (x := 0) rfl) (dq_lk dX4_house_v1 (r := 5) (x := 68) rfl)
theorem dX4_house_22 : decode cX4_house 22 = .ok (.ifCond .eq 7, 3) := dk_153 (dq_lk dX4_house_v1 (r := 6) (x := 153) rfl) (dq_lk dX4_house_v1 (r := 7) (x := 0) rfl) (dq_lk dX4_house_v1 (r := 8) (x := 7) rfl) (by decide +kernel)
theorem dX4_house_25 : decode cX4_house 25 = .ok (.iconst 0, 1) := dk_3 (dq_lk dX4_house_v1 (r := 9) (x := 3) rfl)
theorem dX4_house_26 : decode cX4_house 26 = .ok (.goto 8, 3) := dk_167 (dq_lk dX4_house_v1 (r := 10) (x := 167) rfl) (dq_lk dX4_house_v1 (r := 11) (x := 0) rfl) (dq_lk dX4_house_v1 (r := 12) (x := 8) rfl) (by decide +kernel)
theorem dX4_house_29 : decode cX4_house 29 = .ok (.aload_n 0, 1) := dk_42 (dq_lk dX4_house_v1 (r := 13) (x := 42) rfl)
theorem dX4_house_30 : decode cX4_house 30 = .ok (.iload_n 1, 1) := dk_27 (dq_lk dX4_house_v1 (r := 14) (x := 27) rfl)
theorem dX4_house_31 : decode cX4_house 31 = .ok (.invokevirtual 222, 3) := dk_182 (dq_lk dX4_house_v1 (r := 15) (x := 182) rfl) (dq_lk dX4_house_v2 (r := 0) (x := 0) rfl) (dq_lk dX4_house_v2 (r := 1) (x := 222) rfl)
theorem dX4_house_34 : decode cX4_house 34 = .ok (.ireturn, 1) := dk_172 (dq_lk dX4_house_v2 (r := 2) (x := 172) rfl)
end
-- 27 ref27
section
/-! The reference, its contracts (rows by a program of this repository). -/
theorem dX4_digest_w0 : (cX4_digest.data.toList.drop 0).take 64 = [42, 3, 181, 0, 29, 20, 0, 225, 64, 42, 180, 0, 7, 78, 45, 190, 54, 4, 3, 54, 5, 21, 5, 21, 4, 162, 0, 25, 45, 21, 5, 46, 54, 6, 31, 20, 0, 227, 105, 21, 6, 133, 97, 64, 132, 5, 1, 167, 255, 230, 42, 180, 0, 13, 78, 45, 190, 54, 4, 3, 54, 5, 21, 5] := by decide +kernel
theorem dX4_digest_w1 : (cX4_digest.data.toList.drop 64).take 64 = [21, 4, 162, 0, 44, 45, 21, 5, 47, 55, 6, 31, 20, 0, 227, 105, 22, 6, 20, 0, 96, 184, 0, 92, 97, 20, 0, 227, 105, 22, 6, 20, 0, 96, 184, 0, 102, 133, 97, 64, 132, 5, 1, 167, 255, 211, 3, 62, 29, 7, 162, 0, 40, 3, 54, 4, 21, 4, 16, 12, 163, 0, 24, 31] := by decide +kernel
theorem dX4_digest_w2 : (cX4_digest.data.toList.drop 128).take 64 = [20, 0, 227, 105, 42, 29, 21, 4, 182, 0, 193, 133, 97, 64, 132, 4, 1, 167, 255, 231, 132, 3, 1, 167, 255, 217, 3, 62, 29, 6, 162, 0, 39, 3, 54, 4, 21, 4, 8, 163, 0, 24, 31, 20, 0, 227, 105, 42, 29, 21, 4, 182, 0, 216, 133, 97, 64, 132, 4, 1, 167, 255, 232, 132] := by decide +kernel
theorem dX4_digest_w3 : (cX4_digest.data.toList.drop 192).take 64 = [3, 1, 167, 255, 218, 3, 62, 29, 7, 162, 0, 56, 3, 54, 4, 21, 4, 7, 162, 0, 41, 31, 20, 0, 227, 105, 42, 29, 21, 4, 182, 0, 196, 133, 97, 20, 0, 227, 105, 42, 29, 21, 4, 5, 182, 0, 199, 184, 0, 84, 133, 97, 64, 132, 4, 1, 167, 255, 215, 132, 3, 1, 167, 255] := by decide +kernel
theorem dX4_digest_w4 : (cX4_digest.data.toList.drop 256).take 64 = [201, 7, 62, 29, 16, 7, 162, 0, 40, 7, 54, 4, 21, 4, 16, 7, 162, 0, 24, 31, 20, 0, 227, 105, 42, 29, 21, 4, 182, 0, 196, 133, 97, 64, 132, 4, 1, 167, 255, 231, 132, 3, 1, 167, 255, 216, 3, 62, 29, 6, 163, 0, 22, 31, 20, 0, 227, 105, 42, 29, 182, 0, 222, 133] := by decide +kernel
theorem dX4_digest_w5 : (cX4_digest.data.toList.drop 320).take 64 = [97, 64, 132, 3, 1, 167, 255, 235, 31, 20, 0, 227, 105, 10, 97, 173] := by decide +kernel
theorem dX4_digest_v0 : (cX4_digest.data.toList.drop 0).take 16 = [42, 3, 181, 0, 29, 20, 0, 225, 64, 42, 180, 0, 7, 78, 45, 190] := dq_sub (n := 0) (j := 0) dX4_digest_w0 (by decide) rfl
theorem dX4_digest_v1 : (cX4_digest.data.toList.drop 16).take 16 = [54, 4, 3, 54, 5, 21, 5, 21, 4, 162, 0, 25, 45, 21, 5, 46] := dq_sub (n := 0) (j := 16) dX4_digest_w0 (by decide) rfl
theorem dX4_digest_v2 : (cX4_digest.data.toList.drop 32).take 16 = [54, 6, 31, 20, 0, 227, 105, 21, 6, 133, 97, 64, 132, 5, 1, 167] := dq_sub (n := 0) (j := 32) dX4_digest_w0 (by decide) rfl
theorem dX4_digest_v3 : (cX4_digest.data.toList.drop 48).take 16 = [255, 230, 42, 180, 0, 13, 78, 45, 190, 54, 4, 3, 54, 5, 21, 5] := dq_sub (n := 0) (j := 48) dX4_digest_w0 (by decide) rfl
theorem dX4_digest_v4 : (cX4_digest.data.toList.drop 64).take 16 = [21, 4, 162, 0, 44, 45, 21, 5, 47, 55, 6, 31, 20, 0, 227, 105] := dq_sub (n := 64) (j := 0) dX4_digest_w1 (by decide) rfl
theorem dX4_digest_v5 : (cX4_digest.data.toList.drop 80).take 16 = [22, 6, 20, 0, 96, 184, 0, 92, 97, 20, 0, 227, 105, 22, 6, 20] := dq_sub (n := 64) (j := 16) dX4_digest_w1 (by decide) rfl
theorem dX4_digest_v6 : (cX4_digest.data.toList.drop 96).take 16 = [0, 96, 184, 0, 102, 133, 97, 64, 132, 5, 1, 167, 255, 211, 3, 62] := dq_sub (n := 64) (j := 32) dX4_digest_w1 (by decide) rfl
theorem dX4_digest_v7 : (cX4_digest.data.toList.drop 112).take 16 = [29, 7, 162, 0, 40, 3, 54, 4, 21, 4, 16, 12, 163, 0, 24, 31] := dq_sub (n := 64) (j := 48) dX4_digest_w1 (by decide) rfl
theorem dX4_digest_v8 : (cX4_digest.data.toList.drop 128).take 16 = [20, 0, 227, 105, 42, 29, 21, 4, 182, 0, 193, 133, 97, 64, 132, 4] := dq_sub (n := 128) (j := 0) dX4_digest_w2 (by decide) rfl
theorem dX4_digest_v9 : (cX4_digest.data.toList.drop 144).take 16 = [1, 167, 255, 231, 132, 3, 1, 167, 255, 217, 3, 62, 29, 6, 162, 0] := dq_sub (n := 128) (j := 16) dX4_digest_w2 (by decide) rfl
theorem dX4_digest_v10 : (cX4_digest.data.toList.drop 160).take 16 = [39, 3, 54, 4, 21, 4, 8, 163, 0, 24, 31, 20, 0, 227, 105, 42] := dq_sub (n := 128) (j := 32) dX4_digest_w2 (by decide) rfl
theorem dX4_digest_v11 : (cX4_digest.data.toList.drop 176).take 16 = [29, 21, 4, 182, 0, 216, 133, 97, 64, 132, 4, 1, 167, 255, 232, 132] := dq_sub (n := 128) (j := 48) dX4_digest_w2 (by decide) rfl
theorem dX4_digest_v12 : (cX4_digest.data.toList.drop 192).take 16 = [3, 1, 167, 255, 218, 3, 62, 29, 7, 162, 0, 56, 3, 54, 4, 21] := dq_sub (n := 192) (j := 0) dX4_digest_w3 (by decide) rfl
theorem dX4_digest_v13 : (cX4_digest.data.toList.drop 208).take 16 = [4, 7, 162, 0, 41, 31, 20, 0, 227, 105, 42, 29, 21, 4, 182, 0] := dq_sub (n := 192) (j := 16) dX4_digest_w3 (by decide) rfl
theorem dX4_digest_v14 : (cX4_digest.data.toList.drop 224).take 16 = [196, 133, 97, 20, 0, 227, 105, 42, 29, 21, 4, 5, 182, 0, 199, 184] := dq_sub (n := 192) (j := 32) dX4_digest_w3 (by decide) rfl
theorem dX4_digest_v15 : (cX4_digest.data.toList.drop 240).take 16 = [0, 84, 133, 97, 64, 132, 4, 1, 167, 255, 215, 132, 3, 1, 167, 255] := dq_sub (n := 192) (j := 48) dX4_digest_w3 (by decide) rfl
theorem dX4_digest_v16 : (cX4_digest.data.toList.drop 256).take 16 = [201, 7, 62, 29, 16, 7, 162, 0, 40, 7, 54, 4, 21, 4, 16, 7] := dq_sub (n := 256) (j := 0) dX4_digest_w4 (by decide) rfl
theorem dX4_digest_v17 : (cX4_digest.data.toList.drop 272).take 16 = [162, 0, 24, 31, 20, 0, 227, 105, 42, 29, 21, 4, 182, 0, 196, 133] := dq_sub (n := 256) (j := 16) dX4_digest_w4 (by decide) rfl
theorem dX4_digest_v18 : (cX4_digest.data.toList.drop 288).take 16 = [97, 64, 132, 4, 1, 167, 255, 231, 132, 3, 1, 167, 255, 216, 3, 62] := dq_sub (n := 256) (j := 32) dX4_digest_w4 (by decide) rfl
theorem dX4_digest_v19 : (cX4_digest.data.toList.drop 304).take 16 = [29, 6, 163, 0, 22, 31, 20, 0, 227, 105, 42, 29, 182, 0, 222, 133] := dq_sub (n := 256) (j := 48) dX4_digest_w4 (by decide) rfl
theorem dX4_digest_v20 : (cX4_digest.data.toList.drop 320).take 16 = [97, 64, 132, 3, 1, 167, 255, 235, 31, 20, 0, 227, 105, 10, 97, 173] := dq_sub (n := 320) (j := 0) dX4_digest_w5 (by decide) rfl
theorem dX4_digest_0 : decode cX4_digest 0 = .ok (.aload_n 0, 1) := dk_42 (dq_lk dX4_digest_v0 (r := 0) (x := 42) rfl)
theorem dX4_digest_1 : decode cX4_digest 1 = .ok (.iconst 0, 1) := dk_3 (dq_lk dX4_digest_v0 (r := 1) (x := 3) rfl)
theorem dX4_digest_2 : decode cX4_digest 2 = .ok (.putfield 29, 3) := dk_181 (dq_lk dX4_digest_v0 (r := 2) (x := 181) rfl) (dq_lk dX4_digest_v0 (r := 3) (x := 0) rfl) (dq_lk dX4_digest_v0 (r := 4) (x := 29) rfl)
theorem dX4_digest_5 : decode cX4_digest 5 = .ok (.ldc2_w 225, 3) := dk_20 (dq_lk dX4_digest_v0 (r := 5) (x := 20) rfl) (dq_lk dX4_digest_v0 (r := 6) (x := 0) rfl) (dq_lk dX4_digest_v0 (r := 7) (x := 225) rfl)
theorem dX4_digest_8 : decode cX4_digest 8 = .ok (.lstore_n 1, 1) := dk_64 (dq_lk dX4_digest_v0 (r := 8) (x := 64) rfl)
theorem dX4_digest_9 : decode cX4_digest 9 = .ok (.aload_n 0, 1) := dk_42 (dq_lk dX4_digest_v0 (r := 9) (x := 42) rfl)
theorem dX4_digest_10 : decode cX4_digest 10 = .ok (.getfield 7, 3) := dk_180 (dq_lk dX4_digest_v0 (r := 10) (x := 180) rfl) (dq_lk dX4_digest_v0 (r := 11) (x := 0) rfl) (dq_lk dX4_digest_v0 (r := 12) (x := 7) rfl)
theorem dX4_digest_13 : decode cX4_digest 13 = .ok (.astore_n 3, 1) := dk_78 (dq_lk dX4_digest_v0 (r := 13) (x := 78) rfl)
theorem dX4_digest_14 : decode cX4_digest 14 = .ok (.aload_n 3, 1) := dk_45 (dq_lk dX4_digest_v0 (r := 14) (x := 45) rfl)
theorem dX4_digest_15 : decode cX4_digest 15 = .ok (.arraylength, 1) := dk_190 (dq_lk dX4_digest_v0 (r := 15) (x := 190) rfl)
theorem dX4_digest_16 : decode cX4_digest 16 = .ok (.istore 4, 2) := dk_54 (dq_lk dX4_digest_v1 (r := 0) (x := 54) rfl) (dq_lk dX4_digest_v1 (r := 1) (x := 4) rfl)
theorem dX4_digest_18 : decode cX4_digest 18 = .ok (.iconst 0, 1) := dk_3 (dq_lk dX4_digest_v1 (r := 2) (x := 3) rfl)
theorem dX4_digest_19 : decode cX4_digest 19 = .ok (.istore 5, 2) := dk_54 (dq_lk dX4_digest_v1 (r := 3) (x := 54) rfl) (dq_lk dX4_digest_v1 (r := 4) (x := 5) rfl)
theorem dX4_digest_21 : decode cX4_digest 21 = .ok (.iload 5, 2) := dk_21 (dq_lk dX4_digest_v1 (r := 5) (x := 21) rfl) (dq_lk dX4_digest_v1 (r := 6) (x := 5) rfl)
theorem dX4_digest_23 : decode cX4_digest 23 = .ok (.iload 4, 2) := dk_21 (dq_lk dX4_digest_v1 (r := 7) (x := 21) rfl) (dq_lk dX4_digest_v1 (r := 8) (x := 4) rfl)
theorem dX4_digest_25 : decode cX4_digest 25 = .ok (.if_icmp .ge 25, 3) := dk_162 (dq_lk dX4_digest_v1 (r := 9) (x := 162) rfl) (dq_lk dX4_digest_v1 (r := 10) (x := 0) rfl) (dq_lk dX4_digest_v1 (r := 11) (x := 25) rfl) (by decide +kernel)
theorem dX4_digest_28 : decode cX4_digest 28 = .ok (.aload_n 3, 1) := dk_45 (dq_lk dX4_digest_v1 (r := 12) (x := 45) rfl)
theorem dX4_digest_29 : decode cX4_digest 29 = .ok (.iload 5, 2) := dk_21 (dq_lk dX4_digest_v1 (r := 13) (x := 21) rfl) (dq_lk dX4_digest_v1 (r := 14) (x := 5) rfl)
theorem dX4_digest_31 : decode cX4_digest 31 = .ok (.iaload, 1) := dk_46 (dq_lk dX4_digest_v1 (r := 15) (x := 46) rfl)
theorem dX4_digest_32 : decode cX4_digest 32 = .ok (.istore 6, 2) := dk_54 (dq_lk dX4_digest_v2 (r := 0) (x := 54) rfl) (dq_lk dX4_digest_v2 (r := 1) (x := 6) rfl)
theorem dX4_digest_34 : decode cX4_digest 34 = .ok (.lload_n 1, 1) := dk_31 (dq_lk dX4_digest_v2 (r := 2) (x := 31) rfl)
theorem dX4_digest_35 : decode cX4_digest 35 = .ok (.ldc2_w 227, 3) := dk_20 (dq_lk dX4_digest_v2 (r := 3) (x := 20) rfl) (dq_lk dX4_digest_v2 (r := 4) (x := 0) rfl) (dq_lk dX4_digest_v2 (r := 5) (x := 227) rfl)
theorem dX4_digest_38 : decode cX4_digest 38 = .ok (.lmul, 1) := dk_105 (dq_lk dX4_digest_v2 (r := 6) (x := 105) rfl)
theorem dX4_digest_39 : decode cX4_digest 39 = .ok (.iload 6, 2) := dk_21 (dq_lk dX4_digest_v2 (r := 7) (x := 21) rfl) (dq_lk dX4_digest_v2 (r := 8) (x := 6) rfl)
theorem dX4_digest_41 : decode cX4_digest 41 = .ok (.i2l, 1) := dk_133 (dq_lk dX4_digest_v2 (r := 9) (x := 133) rfl)
theorem dX4_digest_42 : decode cX4_digest 42 = .ok (.ladd, 1) := dk_97 (dq_lk dX4_digest_v2 (r := 10) (x := 97) rfl)
theorem dX4_digest_43 : decode cX4_digest 43 = .ok (.lstore_n 1, 1) := dk_64 (dq_lk dX4_digest_v2 (r := 11) (x := 64) rfl)
theorem dX4_digest_44 : decode cX4_digest 44 = .ok (.iinc 5 1, 3) := dk_132 (dq_lk dX4_digest_v2 (r := 12) (x := 132) rfl) (dq_lk dX4_digest_v2 (r := 13) (x := 5) rfl) (dq_lk dX4_digest_v2 (r := 14) (x := 1) rfl) (by decide +kernel)
theorem dX4_digest_47 : decode cX4_digest 47 = .ok (.goto (-26), 3) := dk_167 (dq_lk dX4_digest_v2 (r := 15) (x := 167) rfl) (dq_lk dX4_digest_v3 (r := 0) (x := 255) rfl) (dq_lk dX4_digest_v3 (r := 1) (x := 230) rfl) (by decide +kernel)
theorem dX4_digest_50 : decode cX4_digest 50 = .ok (.aload_n 0, 1) := dk_42 (dq_lk dX4_digest_v3 (r := 2) (x := 42) rfl)
theorem dX4_digest_51 : decode cX4_digest 51 = .ok (.getfield 13, 3) := dk_180 (dq_lk dX4_digest_v3 (r := 3) (x := 180) rfl) (dq_lk dX4_digest_v3 (r := 4) (x := 0) rfl) (dq_lk dX4_digest_v3 (r := 5) (x := 13) rfl)
theorem dX4_digest_54 : decode cX4_digest 54 = .ok (.astore_n 3, 1) := dk_78 (dq_lk dX4_digest_v3 (r := 6) (x := 78) rfl)
theorem dX4_digest_55 : decode cX4_digest 55 = .ok (.aload_n 3, 1) := dk_45 (dq_lk dX4_digest_v3 (r := 7) (x := 45) rfl)
theorem dX4_digest_56 : decode cX4_digest 56 = .ok (.arraylength, 1) := dk_190 (dq_lk dX4_digest_v3 (r := 8) (x := 190) rfl)
theorem dX4_digest_57 : decode cX4_digest 57 = .ok (.istore 4, 2) := dk_54 (dq_lk dX4_digest_v3 (r := 9) (x := 54) rfl) (dq_lk dX4_digest_v3 (r := 10) (x := 4) rfl)
theorem dX4_digest_59 : decode cX4_digest 59 = .ok (.iconst 0, 1) := dk_3 (dq_lk dX4_digest_v3 (r := 11) (x := 3) rfl)
theorem dX4_digest_60 : decode cX4_digest 60 = .ok (.istore 5, 2) := dk_54 (dq_lk dX4_digest_v3 (r := 12) (x := 54) rfl) (dq_lk dX4_digest_v3 (r := 13) (x := 5) rfl)
theorem dX4_digest_62 : decode cX4_digest 62 = .ok (.iload 5, 2) := dk_21 (dq_lk dX4_digest_v3 (r := 14) (x := 21) rfl) (dq_lk dX4_digest_v3 (r := 15) (x := 5) rfl)
theorem dX4_digest_64 : decode cX4_digest 64 = .ok (.iload 4, 2) := dk_21 (dq_lk dX4_digest_v4 (r := 0) (x := 21) rfl) (dq_lk dX4_digest_v4 (r := 1) (x := 4) rfl)
theorem dX4_digest_66 : decode cX4_digest 66 = .ok (.if_icmp .ge 44, 3) := dk_162 (dq_lk dX4_digest_v4 (r := 2) (x := 162) rfl) (dq_lk dX4_digest_v4 (r := 3) (x := 0) rfl) (dq_lk dX4_digest_v4 (r := 4) (x := 44) rfl) (by decide +kernel)
theorem dX4_digest_69 : decode cX4_digest 69 = .ok (.aload_n 3, 1) := dk_45 (dq_lk dX4_digest_v4 (r := 5) (x := 45) rfl)
theorem dX4_digest_70 : decode cX4_digest 70 = .ok (.iload 5, 2) := dk_21 (dq_lk dX4_digest_v4 (r := 6) (x := 21) rfl) (dq_lk dX4_digest_v4 (r := 7) (x := 5) rfl)
theorem dX4_digest_72 : decode cX4_digest 72 = .ok (.laload, 1) := dk_47 (dq_lk dX4_digest_v4 (r := 8) (x := 47) rfl)
theorem dX4_digest_73 : decode cX4_digest 73 = .ok (.lstore 6, 2) := dk_55 (dq_lk dX4_digest_v4 (r := 9) (x := 55) rfl) (dq_lk dX4_digest_v4 (r := 10) (x := 6) rfl)
theorem dX4_digest_75 : decode cX4_digest 75 = .ok (.lload_n 1, 1) := dk_31 (dq_lk dX4_digest_v4 (r := 11) (x := 31) rfl)
theorem dX4_digest_76 : decode cX4_digest 76 = .ok (.ldc2_w 227, 3) := dk_20 (dq_lk dX4_digest_v4 (r := 12) (x := 20) rfl) (dq_lk dX4_digest_v4 (r := 13) (x := 0) rfl) (dq_lk dX4_digest_v4 (r := 14) (x := 227) rfl)
theorem dX4_digest_79 : decode cX4_digest 79 = .ok (.lmul, 1) := dk_105 (dq_lk dX4_digest_v4 (r := 15) (x := 105) rfl)
theorem dX4_digest_80 : decode cX4_digest 80 = .ok (.lload 6, 2) := dk_22 (dq_lk dX4_digest_v5 (r := 0) (x := 22) rfl) (dq_lk dX4_digest_v5 (r := 1) (x := 6) rfl)
theorem dX4_digest_82 : decode cX4_digest 82 = .ok (.ldc2_w 96, 3) := dk_20 (dq_lk dX4_digest_v5 (r := 2) (x := 20) rfl) (dq_lk dX4_digest_v5 (r := 3) (x := 0) rfl) (dq_lk dX4_digest_v5 (r := 4) (x := 96) rfl)
theorem dX4_digest_85 : decode cX4_digest 85 = .ok (.invokestatic 92, 3) := dk_184 (dq_lk dX4_digest_v5 (r := 5) (x := 184) rfl) (dq_lk dX4_digest_v5 (r := 6) (x := 0) rfl) (dq_lk dX4_digest_v5 (r := 7) (x := 92) rfl)
theorem dX4_digest_88 : decode cX4_digest 88 = .ok (.ladd, 1) := dk_97 (dq_lk dX4_digest_v5 (r := 8) (x := 97) rfl)
theorem dX4_digest_89 : decode cX4_digest 89 = .ok (.ldc2_w 227, 3) := dk_20 (dq_lk dX4_digest_v5 (r := 9) (x := 20) rfl) (dq_lk dX4_digest_v5 (r := 10) (x := 0) rfl) (dq_lk dX4_digest_v5 (r := 11) (x := 227) rfl)
theorem dX4_digest_92 : decode cX4_digest 92 = .ok (.lmul, 1) := dk_105 (dq_lk dX4_digest_v5 (r := 12) (x := 105) rfl)
theorem dX4_digest_93 : decode cX4_digest 93 = .ok (.lload 6, 2) := dk_22 (dq_lk dX4_digest_v5 (r := 13) (x := 22) rfl) (dq_lk dX4_digest_v5 (r := 14) (x := 6) rfl)
theorem dX4_digest_95 : decode cX4_digest 95 = .ok (.ldc2_w 96, 3) := dk_20 (dq_lk dX4_digest_v5 (r := 15) (x := 20) rfl) (dq_lk dX4_digest_v6 (r := 0) (x := 0) rfl) (dq_lk dX4_digest_v6 (r := 1) (x := 96) rfl)
theorem dX4_digest_98 : decode cX4_digest 98 = .ok (.invokestatic 102, 3) := dk_184 (dq_lk dX4_digest_v6 (r := 2) (x := 184) rfl) (dq_lk dX4_digest_v6 (r := 3) (x := 0) rfl) (dq_lk dX4_digest_v6 (r := 4) (x := 102) rfl)
theorem dX4_digest_101 : decode cX4_digest 101 = .ok (.i2l, 1) := dk_133 (dq_lk dX4_digest_v6 (r := 5) (x := 133) rfl)
theorem dX4_digest_102 : decode cX4_digest 102 = .ok (.ladd, 1) := dk_97 (dq_lk dX4_digest_v6 (r := 6) (x := 97) rfl)
theorem dX4_digest_103 : decode cX4_digest 103 = .ok (.lstore_n 1, 1) := dk_64 (dq_lk dX4_digest_v6 (r := 7) (x := 64) rfl)
theorem dX4_digest_104 : decode cX4_digest 104 = .ok (.iinc 5 1, 3) := dk_132 (dq_lk dX4_digest_v6 (r := 8) (x := 132) rfl) (dq_lk dX4_digest_v6 (r := 9) (x := 5) rfl) (dq_lk dX4_digest_v6 (r := 10) (x := 1) rfl) (by decide +kernel)
theorem dX4_digest_107 : decode cX4_digest 107 = .ok (.goto (-45), 3) := dk_167 (dq_lk dX4_digest_v6 (r := 11) (x := 167) rfl) (dq_lk dX4_digest_v6 (r := 12) (x := 255) rfl) (dq_lk dX4_digest_v6 (r := 13) (x := 211) rfl) (by decide +kernel)
theorem dX4_digest_110 : decode cX4_digest 110 = .ok (.iconst 0, 1) := dk_3 (dq_lk dX4_digest_v6 (r := 14) (x := 3) rfl)
theorem dX4_digest_111 : decode cX4_digest 111 = .ok (.istore_n 3, 1) := dk_62 (dq_lk dX4_digest_v6 (r := 15) (x := 62) rfl)
theorem dX4_digest_112 : decode cX4_digest 112 = .ok (.iload_n 3, 1) := dk_29 (dq_lk dX4_digest_v7 (r := 0) (x := 29) rfl)
theorem dX4_digest_113 : decode cX4_digest 113 = .ok (.iconst 4, 1) := dk_7 (dq_lk dX4_digest_v7 (r := 1) (x := 7) rfl)
theorem dX4_digest_114 : decode cX4_digest 114 = .ok (.if_icmp .ge 40, 3) := dk_162 (dq_lk dX4_digest_v7 (r := 2) (x := 162) rfl) (dq_lk dX4_digest_v7 (r := 3) (x := 0) rfl) (dq_lk dX4_digest_v7 (r := 4) (x := 40) rfl) (by decide +kernel)
theorem dX4_digest_117 : decode cX4_digest 117 = .ok (.iconst 0, 1) := dk_3 (dq_lk dX4_digest_v7 (r := 5) (x := 3) rfl)
theorem dX4_digest_118 : decode cX4_digest 118 = .ok (.istore 4, 2) := dk_54 (dq_lk dX4_digest_v7 (r := 6) (x := 54) rfl) (dq_lk dX4_digest_v7 (r := 7) (x := 4) rfl)
theorem dX4_digest_120 : decode cX4_digest 120 = .ok (.iload 4, 2) := dk_21 (dq_lk dX4_digest_v7 (r := 8) (x := 21) rfl) (dq_lk dX4_digest_v7 (r := 9) (x := 4) rfl)
theorem dX4_digest_122 : decode cX4_digest 122 = .ok (.bipush 12, 2) := dk_16 (dq_lk dX4_digest_v7 (r := 10) (x := 16) rfl) (dq_lk dX4_digest_v7 (r := 11) (x := 12) rfl) (by decide +kernel)
theorem dX4_digest_124 : decode cX4_digest 124 = .ok (.if_icmp .gt 24, 3) := dk_163 (dq_lk dX4_digest_v7 (r := 12) (x := 163) rfl) (dq_lk dX4_digest_v7 (r := 13) (x := 0) rfl) (dq_lk dX4_digest_v7 (r := 14) (x := 24) rfl) (by decide +kernel)
theorem dX4_digest_127 : decode cX4_digest 127 = .ok (.lload_n 1, 1) := dk_31 (dq_lk dX4_digest_v7 (r := 15) (x := 31) rfl)
theorem dX4_digest_128 : decode cX4_digest 128 = .ok (.ldc2_w 227, 3) := dk_20 (dq_lk dX4_digest_v8 (r := 0) (x := 20) rfl) (dq_lk dX4_digest_v8 (r := 1) (x := 0) rfl) (dq_lk dX4_digest_v8 (r := 2) (x := 227) rfl)
theorem dX4_digest_131 : decode cX4_digest 131 = .ok (.lmul, 1) := dk_105 (dq_lk dX4_digest_v8 (r := 3) (x := 105) rfl)
theorem dX4_digest_132 : decode cX4_digest 132 = .ok (.aload_n 0, 1) := dk_42 (dq_lk dX4_digest_v8 (r := 4) (x := 42) rfl)
theorem dX4_digest_133 : decode cX4_digest 133 = .ok (.iload_n 3, 1) := dk_29 (dq_lk dX4_digest_v8 (r := 5) (x := 29) rfl)
theorem dX4_digest_134 : decode cX4_digest 134 = .ok (.iload 4, 2) := dk_21 (dq_lk dX4_digest_v8 (r := 6) (x := 21) rfl) (dq_lk dX4_digest_v8 (r := 7) (x := 4) rfl)
theorem dX4_digest_136 : decode cX4_digest 136 = .ok (.invokevirtual 193, 3) := dk_182 (dq_lk dX4_digest_v8 (r := 8) (x := 182) rfl) (dq_lk dX4_digest_v8 (r := 9) (x := 0) rfl) (dq_lk dX4_digest_v8 (r := 10) (x := 193) rfl)
theorem dX4_digest_139 : decode cX4_digest 139 = .ok (.i2l, 1) := dk_133 (dq_lk dX4_digest_v8 (r := 11) (x := 133) rfl)
theorem dX4_digest_140 : decode cX4_digest 140 = .ok (.ladd, 1) := dk_97 (dq_lk dX4_digest_v8 (r := 12) (x := 97) rfl)
theorem dX4_digest_141 : decode cX4_digest 141 = .ok (.lstore_n 1, 1) := dk_64 (dq_lk dX4_digest_v8 (r := 13) (x := 64) rfl)
theorem dX4_digest_142 : decode cX4_digest 142 = .ok (.iinc 4 1, 3) := dk_132 (dq_lk dX4_digest_v8 (r := 14) (x := 132) rfl) (dq_lk dX4_digest_v8 (r := 15) (x := 4) rfl) (dq_lk dX4_digest_v9 (r := 0) (x := 1) rfl) (by decide +kernel)
theorem dX4_digest_145 : decode cX4_digest 145 = .ok (.goto (-25), 3) := dk_167 (dq_lk dX4_digest_v9 (r := 1) (x := 167) rfl) (dq_lk dX4_digest_v9 (r := 2) (x := 255) rfl) (dq_lk dX4_digest_v9 (r := 3) (x := 231) rfl) (by decide +kernel)
theorem dX4_digest_148 : decode cX4_digest 148 = .ok (.iinc 3 1, 3) := dk_132 (dq_lk dX4_digest_v9 (r := 4) (x := 132) rfl) (dq_lk dX4_digest_v9 (r := 5) (x := 3) rfl) (dq_lk dX4_digest_v9 (r := 6) (x := 1) rfl) (by decide +kernel)
theorem dX4_digest_151 : decode cX4_digest 151 = .ok (.goto (-39), 3) := dk_167 (dq_lk dX4_digest_v9 (r := 7) (x := 167) rfl) (dq_lk dX4_digest_v9 (r := 8) (x := 255) rfl) (dq_lk dX4_digest_v9 (r := 9) (x := 217) rfl) (by decide +kernel)
theorem dX4_digest_154 : decode cX4_digest 154 = .ok (.iconst 0, 1) := dk_3 (dq_lk dX4_digest_v9 (r := 10) (x := 3) rfl)
theorem dX4_digest_155 : decode cX4_digest 155 = .ok (.istore_n 3, 1) := dk_62 (dq_lk dX4_digest_v9 (r := 11) (x := 62) rfl)
theorem dX4_digest_156 : decode cX4_digest 156 = .ok (.iload_n 3, 1) := dk_29 (dq_lk dX4_digest_v9 (r := 12) (x := 29) rfl)
theorem dX4_digest_157 : decode cX4_digest 157 = .ok (.iconst 3, 1) := dk_6 (dq_lk dX4_digest_v9 (r := 13) (x := 6) rfl)
theorem dX4_digest_158 : decode cX4_digest 158 = .ok (.if_icmp .ge 39, 3) := dk_162 (dq_lk dX4_digest_v9 (r := 14) (x := 162) rfl) (dq_lk dX4_digest_v9 (r := 15) (x := 0) rfl) (dq_lk dX4_digest_v10 (r := 0) (x := 39) rfl) (by decide +kernel)
theorem dX4_digest_161 : decode cX4_digest 161 = .ok (.iconst 0, 1) := dk_3 (dq_lk dX4_digest_v10 (r := 1) (x := 3) rfl)
theorem dX4_digest_162 : decode cX4_digest 162 = .ok (.istore 4, 2) := dk_54 (dq_lk dX4_digest_v10 (r := 2) (x := 54) rfl) (dq_lk dX4_digest_v10 (r := 3) (x := 4) rfl)
theorem dX4_digest_164 : decode cX4_digest 164 = .ok (.iload 4, 2) := dk_21 (dq_lk dX4_digest_v10 (r := 4) (x := 21) rfl) (dq_lk dX4_digest_v10 (r := 5) (x := 4) rfl)
theorem dX4_digest_166 : decode cX4_digest 166 = .ok (.iconst 5, 1) := dk_8 (dq_lk dX4_digest_v10 (r := 6) (x := 8) rfl)
theorem dX4_digest_167 : decode cX4_digest 167 = .ok (.if_icmp .gt 24, 3) := dk_163 (dq_lk dX4_digest_v10 (r := 7) (x := 163) rfl) (dq_lk dX4_digest_v10 (r := 8) (x := 0) rfl) (dq_lk dX4_digest_v10 (r := 9) (x := 24) rfl) (by decide +kernel)
theorem dX4_digest_170 : decode cX4_digest 170 = .ok (.lload_n 1, 1) := dk_31 (dq_lk dX4_digest_v10 (r := 10) (x := 31) rfl)
theorem dX4_digest_171 : decode cX4_digest 171 = .ok (.ldc2_w 227, 3) := dk_20 (dq_lk dX4_digest_v10 (r := 11) (x := 20) rfl) (dq_lk dX4_digest_v10 (r := 12) (x := 0) rfl) (dq_lk dX4_digest_v10 (r := 13) (x := 227) rfl)
theorem dX4_digest_174 : decode cX4_digest 174 = .ok (.lmul, 1) := dk_105 (dq_lk dX4_digest_v10 (r := 14) (x := 105) rfl)
theorem dX4_digest_175 : decode cX4_digest 175 = .ok (.aload_n 0, 1) := dk_42 (dq_lk dX4_digest_v10 (r := 15) (x := 42) rfl)
theorem dX4_digest_176 : decode cX4_digest 176 = .ok (.iload_n 3, 1) := dk_29 (dq_lk dX4_digest_v11 (r := 0) (x := 29) rfl)
theorem dX4_digest_177 : decode cX4_digest 177 = .ok (.iload 4, 2) := dk_21 (dq_lk dX4_digest_v11 (r := 1) (x := 21) rfl) (dq_lk dX4_digest_v11 (r := 2) (x := 4) rfl)
theorem dX4_digest_179 : decode cX4_digest 179 = .ok (.invokevirtual 216, 3) := dk_182 (dq_lk dX4_digest_v11 (r := 3) (x := 182) rfl) (dq_lk dX4_digest_v11 (r := 4) (x := 0) rfl) (dq_lk dX4_digest_v11 (r := 5) (x := 216) rfl)
theorem dX4_digest_182 : decode cX4_digest 182 = .ok (.i2l, 1) := dk_133 (dq_lk dX4_digest_v11 (r := 6) (x := 133) rfl)
theorem dX4_digest_183 : decode cX4_digest 183 = .ok (.ladd, 1) := dk_97 (dq_lk dX4_digest_v11 (r := 7) (x := 97) rfl)
theorem dX4_digest_184 : decode cX4_digest 184 = .ok (.lstore_n 1, 1) := dk_64 (dq_lk dX4_digest_v11 (r := 8) (x := 64) rfl)
theorem dX4_digest_185 : decode cX4_digest 185 = .ok (.iinc 4 1, 3) := dk_132 (dq_lk dX4_digest_v11 (r := 9) (x := 132) rfl) (dq_lk dX4_digest_v11 (r := 10) (x := 4) rfl) (dq_lk dX4_digest_v11 (r := 11) (x := 1) rfl) (by decide +kernel)
theorem dX4_digest_188 : decode cX4_digest 188 = .ok (.goto (-24), 3) := dk_167 (dq_lk dX4_digest_v11 (r := 12) (x := 167) rfl) (dq_lk dX4_digest_v11 (r := 13) (x := 255) rfl) (dq_lk dX4_digest_v11 (r := 14) (x := 232) rfl) (by decide +kernel)
theorem dX4_digest_191 : decode cX4_digest 191 = .ok (.iinc 3 1, 3) := dk_132 (dq_lk dX4_digest_v11 (r := 15) (x := 132) rfl) (dq_lk dX4_digest_v12 (r := 0) (x := 3) rfl) (dq_lk dX4_digest_v12 (r := 1) (x := 1) rfl) (by decide +kernel)
theorem dX4_digest_194 : decode cX4_digest 194 = .ok (.goto (-38), 3) := dk_167 (dq_lk dX4_digest_v12 (r := 2) (x := 167) rfl) (dq_lk dX4_digest_v12 (r := 3) (x := 255) rfl) (dq_lk dX4_digest_v12 (r := 4) (x := 218) rfl) (by decide +kernel)
theorem dX4_digest_197 : decode cX4_digest 197 = .ok (.iconst 0, 1) := dk_3 (dq_lk dX4_digest_v12 (r := 5) (x := 3) rfl)
theorem dX4_digest_198 : decode cX4_digest 198 = .ok (.istore_n 3, 1) := dk_62 (dq_lk dX4_digest_v12 (r := 6) (x := 62) rfl)
theorem dX4_digest_199 : decode cX4_digest 199 = .ok (.iload_n 3, 1) := dk_29 (dq_lk dX4_digest_v12 (r := 7) (x := 29) rfl)
theorem dX4_digest_200 : decode cX4_digest 200 = .ok (.iconst 4, 1) := dk_7 (dq_lk dX4_digest_v12 (r := 8) (x := 7) rfl)
theorem dX4_digest_201 : decode cX4_digest 201 = .ok (.if_icmp .ge 56, 3) := dk_162 (dq_lk dX4_digest_v12 (r := 9) (x := 162) rfl) (dq_lk dX4_digest_v12 (r := 10) (x := 0) rfl) (dq_lk dX4_digest_v12 (r := 11) (x := 56) rfl) (by decide +kernel)
theorem dX4_digest_204 : decode cX4_digest 204 = .ok (.iconst 0, 1) := dk_3 (dq_lk dX4_digest_v12 (r := 12) (x := 3) rfl)
theorem dX4_digest_205 : decode cX4_digest 205 = .ok (.istore 4, 2) := dk_54 (dq_lk dX4_digest_v12 (r := 13) (x := 54) rfl) (dq_lk dX4_digest_v12 (r := 14) (x := 4) rfl)
theorem dX4_digest_207 : decode cX4_digest 207 = .ok (.iload 4, 2) := dk_21 (dq_lk dX4_digest_v12 (r := 15) (x := 21) rfl) (dq_lk dX4_digest_v13 (r := 0) (x := 4) rfl)
theorem dX4_digest_209 : decode cX4_digest 209 = .ok (.iconst 4, 1) := dk_7 (dq_lk dX4_digest_v13 (r := 1) (x := 7) rfl)
theorem dX4_digest_210 : decode cX4_digest 210 = .ok (.if_icmp .ge 41, 3) := dk_162 (dq_lk dX4_digest_v13 (r := 2) (x := 162) rfl) (dq_lk dX4_digest_v13 (r := 3) (x := 0) rfl) (dq_lk dX4_digest_v13 (r := 4) (x := 41) rfl) (by decide +kernel)
theorem dX4_digest_213 : decode cX4_digest 213 = .ok (.lload_n 1, 1) := dk_31 (dq_lk dX4_digest_v13 (r := 5) (x := 31) rfl)
theorem dX4_digest_214 : decode cX4_digest 214 = .ok (.ldc2_w 227, 3) := dk_20 (dq_lk dX4_digest_v13 (r := 6) (x := 20) rfl) (dq_lk dX4_digest_v13 (r := 7) (x := 0) rfl) (dq_lk dX4_digest_v13 (r := 8) (x := 227) rfl)
theorem dX4_digest_217 : decode cX4_digest 217 = .ok (.lmul, 1) := dk_105 (dq_lk dX4_digest_v13 (r := 9) (x := 105) rfl)
theorem dX4_digest_218 : decode cX4_digest 218 = .ok (.aload_n 0, 1) := dk_42 (dq_lk dX4_digest_v13 (r := 10) (x := 42) rfl)
theorem dX4_digest_219 : decode cX4_digest 219 = .ok (.iload_n 3, 1) := dk_29 (dq_lk dX4_digest_v13 (r := 11) (x := 29) rfl)
theorem dX4_digest_220 : decode cX4_digest 220 = .ok (.iload 4, 2) := dk_21 (dq_lk dX4_digest_v13 (r := 12) (x := 21) rfl) (dq_lk dX4_digest_v13 (r := 13) (x := 4) rfl)
theorem dX4_digest_222 : decode cX4_digest 222 = .ok (.invokevirtual 196, 3) := dk_182 (dq_lk dX4_digest_v13 (r := 14) (x := 182) rfl) (dq_lk dX4_digest_v13 (r := 15) (x := 0) rfl) (dq_lk dX4_digest_v14 (r := 0) (x := 196) rfl)
theorem dX4_digest_225 : decode cX4_digest 225 = .ok (.i2l, 1) := dk_133 (dq_lk dX4_digest_v14 (r := 1) (x := 133) rfl)
theorem dX4_digest_226 : decode cX4_digest 226 = .ok (.ladd, 1) := dk_97 (dq_lk dX4_digest_v14 (r := 2) (x := 97) rfl)
theorem dX4_digest_227 : decode cX4_digest 227 = .ok (.ldc2_w 227, 3) := dk_20 (dq_lk dX4_digest_v14 (r := 3) (x := 20) rfl) (dq_lk dX4_digest_v14 (r := 4) (x := 0) rfl) (dq_lk dX4_digest_v14 (r := 5) (x := 227) rfl)
theorem dX4_digest_230 : decode cX4_digest 230 = .ok (.lmul, 1) := dk_105 (dq_lk dX4_digest_v14 (r := 6) (x := 105) rfl)
theorem dX4_digest_231 : decode cX4_digest 231 = .ok (.aload_n 0, 1) := dk_42 (dq_lk dX4_digest_v14 (r := 7) (x := 42) rfl)
theorem dX4_digest_232 : decode cX4_digest 232 = .ok (.iload_n 3, 1) := dk_29 (dq_lk dX4_digest_v14 (r := 8) (x := 29) rfl)
theorem dX4_digest_233 : decode cX4_digest 233 = .ok (.iload 4, 2) := dk_21 (dq_lk dX4_digest_v14 (r := 9) (x := 21) rfl) (dq_lk dX4_digest_v14 (r := 10) (x := 4) rfl)
theorem dX4_digest_235 : decode cX4_digest 235 = .ok (.iconst 2, 1) := dk_5 (dq_lk dX4_digest_v14 (r := 11) (x := 5) rfl)
theorem dX4_digest_236 : decode cX4_digest 236 = .ok (.invokevirtual 199, 3) := dk_182 (dq_lk dX4_digest_v14 (r := 12) (x := 182) rfl) (dq_lk dX4_digest_v14 (r := 13) (x := 0) rfl) (dq_lk dX4_digest_v14 (r := 14) (x := 199) rfl)
theorem dX4_digest_239 : decode cX4_digest 239 = .ok (.invokestatic 84, 3) := dk_184 (dq_lk dX4_digest_v14 (r := 15) (x := 184) rfl) (dq_lk dX4_digest_v15 (r := 0) (x := 0) rfl) (dq_lk dX4_digest_v15 (r := 1) (x := 84) rfl)
theorem dX4_digest_242 : decode cX4_digest 242 = .ok (.i2l, 1) := dk_133 (dq_lk dX4_digest_v15 (r := 2) (x := 133) rfl)
theorem dX4_digest_243 : decode cX4_digest 243 = .ok (.ladd, 1) := dk_97 (dq_lk dX4_digest_v15 (r := 3) (x := 97) rfl)
theorem dX4_digest_244 : decode cX4_digest 244 = .ok (.lstore_n 1, 1) := dk_64 (dq_lk dX4_digest_v15 (r := 4) (x := 64) rfl)
theorem dX4_digest_245 : decode cX4_digest 245 = .ok (.iinc 4 1, 3) := dk_132 (dq_lk dX4_digest_v15 (r := 5) (x := 132) rfl) (dq_lk dX4_digest_v15 (r := 6) (x := 4) rfl) (dq_lk dX4_digest_v15 (r := 7) (x := 1) rfl) (by decide +kernel)
theorem dX4_digest_248 : decode cX4_digest 248 = .ok (.goto (-41), 3) := dk_167 (dq_lk dX4_digest_v15 (r := 8) (x := 167) rfl) (dq_lk dX4_digest_v15 (r := 9) (x := 255) rfl) (dq_lk dX4_digest_v15 (r := 10) (x := 215) rfl) (by decide +kernel)
theorem dX4_digest_251 : decode cX4_digest 251 = .ok (.iinc 3 1, 3) := dk_132 (dq_lk dX4_digest_v15 (r := 11) (x := 132) rfl) (dq_lk dX4_digest_v15 (r := 12) (x := 3) rfl) (dq_lk dX4_digest_v15 (r := 13) (x := 1) rfl) (by decide +kernel)
theorem dX4_digest_254 : decode cX4_digest 254 = .ok (.goto (-55), 3) := dk_167 (dq_lk dX4_digest_v15 (r := 14) (x := 167) rfl) (dq_lk dX4_digest_v15 (r := 15) (x := 255) rfl) (dq_lk dX4_digest_v16 (r := 0) (x := 201) rfl) (by decide +kernel)
theorem dX4_digest_257 : decode cX4_digest 257 = .ok (.iconst 4, 1) := dk_7 (dq_lk dX4_digest_v16 (r := 1) (x := 7) rfl)
theorem dX4_digest_258 : decode cX4_digest 258 = .ok (.istore_n 3, 1) := dk_62 (dq_lk dX4_digest_v16 (r := 2) (x := 62) rfl)
theorem dX4_digest_259 : decode cX4_digest 259 = .ok (.iload_n 3, 1) := dk_29 (dq_lk dX4_digest_v16 (r := 3) (x := 29) rfl)
theorem dX4_digest_260 : decode cX4_digest 260 = .ok (.bipush 7, 2) := dk_16 (dq_lk dX4_digest_v16 (r := 4) (x := 16) rfl) (dq_lk dX4_digest_v16 (r := 5) (x := 7) rfl) (by decide +kernel)
theorem dX4_digest_262 : decode cX4_digest 262 = .ok (.if_icmp .ge 40, 3) := dk_162 (dq_lk dX4_digest_v16 (r := 6) (x := 162) rfl) (dq_lk dX4_digest_v16 (r := 7) (x := 0) rfl) (dq_lk dX4_digest_v16 (r := 8) (x := 40) rfl) (by decide +kernel)
theorem dX4_digest_265 : decode cX4_digest 265 = .ok (.iconst 4, 1) := dk_7 (dq_lk dX4_digest_v16 (r := 9) (x := 7) rfl)
theorem dX4_digest_266 : decode cX4_digest 266 = .ok (.istore 4, 2) := dk_54 (dq_lk dX4_digest_v16 (r := 10) (x := 54) rfl) (dq_lk dX4_digest_v16 (r := 11) (x := 4) rfl)
theorem dX4_digest_268 : decode cX4_digest 268 = .ok (.iload 4, 2) := dk_21 (dq_lk dX4_digest_v16 (r := 12) (x := 21) rfl) (dq_lk dX4_digest_v16 (r := 13) (x := 4) rfl)
theorem dX4_digest_270 : decode cX4_digest 270 = .ok (.bipush 7, 2) := dk_16 (dq_lk dX4_digest_v16 (r := 14) (x := 16) rfl) (dq_lk dX4_digest_v16 (r := 15) (x := 7) rfl) (by decide +kernel)
theorem dX4_digest_272 : decode cX4_digest 272 = .ok (.if_icmp .ge 24, 3) := dk_162 (dq_lk dX4_digest_v17 (r := 0) (x := 162) rfl) (dq_lk dX4_digest_v17 (r := 1) (x := 0) rfl) (dq_lk dX4_digest_v17 (r := 2) (x := 24) rfl) (by decide +kernel)
theorem dX4_digest_275 : decode cX4_digest 275 = .ok (.lload_n 1, 1) := dk_31 (dq_lk dX4_digest_v17 (r := 3) (x := 31) rfl)
theorem dX4_digest_276 : decode cX4_digest 276 = .ok (.ldc2_w 227, 3) := dk_20 (dq_lk dX4_digest_v17 (r := 4) (x := 20) rfl) (dq_lk dX4_digest_v17 (r := 5) (x := 0) rfl) (dq_lk dX4_digest_v17 (r := 6) (x := 227) rfl)
theorem dX4_digest_279 : decode cX4_digest 279 = .ok (.lmul, 1) := dk_105 (dq_lk dX4_digest_v17 (r := 7) (x := 105) rfl)
theorem dX4_digest_280 : decode cX4_digest 280 = .ok (.aload_n 0, 1) := dk_42 (dq_lk dX4_digest_v17 (r := 8) (x := 42) rfl)
theorem dX4_digest_281 : decode cX4_digest 281 = .ok (.iload_n 3, 1) := dk_29 (dq_lk dX4_digest_v17 (r := 9) (x := 29) rfl)
theorem dX4_digest_282 : decode cX4_digest 282 = .ok (.iload 4, 2) := dk_21 (dq_lk dX4_digest_v17 (r := 10) (x := 21) rfl) (dq_lk dX4_digest_v17 (r := 11) (x := 4) rfl)
theorem dX4_digest_284 : decode cX4_digest 284 = .ok (.invokevirtual 196, 3) := dk_182 (dq_lk dX4_digest_v17 (r := 12) (x := 182) rfl) (dq_lk dX4_digest_v17 (r := 13) (x := 0) rfl) (dq_lk dX4_digest_v17 (r := 14) (x := 196) rfl)
theorem dX4_digest_287 : decode cX4_digest 287 = .ok (.i2l, 1) := dk_133 (dq_lk dX4_digest_v17 (r := 15) (x := 133) rfl)
theorem dX4_digest_288 : decode cX4_digest 288 = .ok (.ladd, 1) := dk_97 (dq_lk dX4_digest_v18 (r := 0) (x := 97) rfl)
theorem dX4_digest_289 : decode cX4_digest 289 = .ok (.lstore_n 1, 1) := dk_64 (dq_lk dX4_digest_v18 (r := 1) (x := 64) rfl)
theorem dX4_digest_290 : decode cX4_digest 290 = .ok (.iinc 4 1, 3) := dk_132 (dq_lk dX4_digest_v18 (r := 2) (x := 132) rfl) (dq_lk dX4_digest_v18 (r := 3) (x := 4) rfl) (dq_lk dX4_digest_v18 (r := 4) (x := 1) rfl) (by decide +kernel)
theorem dX4_digest_293 : decode cX4_digest 293 = .ok (.goto (-25), 3) := dk_167 (dq_lk dX4_digest_v18 (r := 5) (x := 167) rfl) (dq_lk dX4_digest_v18 (r := 6) (x := 255) rfl) (dq_lk dX4_digest_v18 (r := 7) (x := 231) rfl) (by decide +kernel)
theorem dX4_digest_296 : decode cX4_digest 296 = .ok (.iinc 3 1, 3) := dk_132 (dq_lk dX4_digest_v18 (r := 8) (x := 132) rfl) (dq_lk dX4_digest_v18 (r := 9) (x := 3) rfl) (dq_lk dX4_digest_v18 (r := 10) (x := 1) rfl) (by decide +kernel)
theorem dX4_digest_299 : decode cX4_digest 299 = .ok (.goto (-40), 3) := dk_167 (dq_lk dX4_digest_v18 (r := 11) (x := 167) rfl) (dq_lk dX4_digest_v18 (r := 12) (x := 255) rfl) (dq_lk dX4_digest_v18 (r := 13) (x := 216) rfl) (by decide +kernel)
theorem dX4_digest_302 : decode cX4_digest 302 = .ok (.iconst 0, 1) := dk_3 (dq_lk dX4_digest_v18 (r := 14) (x := 3) rfl)
theorem dX4_digest_303 : decode cX4_digest 303 = .ok (.istore_n 3, 1) := dk_62 (dq_lk dX4_digest_v18 (r := 15) (x := 62) rfl)
theorem dX4_digest_304 : decode cX4_digest 304 = .ok (.iload_n 3, 1) := dk_29 (dq_lk dX4_digest_v19 (r := 0) (x := 29) rfl)
theorem dX4_digest_305 : decode cX4_digest 305 = .ok (.iconst 3, 1) := dk_6 (dq_lk dX4_digest_v19 (r := 1) (x := 6) rfl)
theorem dX4_digest_306 : decode cX4_digest 306 = .ok (.if_icmp .gt 22, 3) := dk_163 (dq_lk dX4_digest_v19 (r := 2) (x := 163) rfl) (dq_lk dX4_digest_v19 (r := 3) (x := 0) rfl) (dq_lk dX4_digest_v19 (r := 4) (x := 22) rfl) (by decide +kernel)
theorem dX4_digest_309 : decode cX4_digest 309 = .ok (.lload_n 1, 1) := dk_31 (dq_lk dX4_digest_v19 (r := 5) (x := 31) rfl)
theorem dX4_digest_310 : decode cX4_digest 310 = .ok (.ldc2_w 227, 3) := dk_20 (dq_lk dX4_digest_v19 (r := 6) (x := 20) rfl) (dq_lk dX4_digest_v19 (r := 7) (x := 0) rfl) (dq_lk dX4_digest_v19 (r := 8) (x := 227) rfl)
theorem dX4_digest_313 : decode cX4_digest 313 = .ok (.lmul, 1) := dk_105 (dq_lk dX4_digest_v19 (r := 9) (x := 105) rfl)
theorem dX4_digest_314 : decode cX4_digest 314 = .ok (.aload_n 0, 1) := dk_42 (dq_lk dX4_digest_v19 (r := 10) (x := 42) rfl)
theorem dX4_digest_315 : decode cX4_digest 315 = .ok (.iload_n 3, 1) := dk_29 (dq_lk dX4_digest_v19 (r := 11) (x := 29) rfl)
theorem dX4_digest_316 : decode cX4_digest 316 = .ok (.invokevirtual 222, 3) := dk_182 (dq_lk dX4_digest_v19 (r := 12) (x := 182) rfl) (dq_lk dX4_digest_v19 (r := 13) (x := 0) rfl) (dq_lk dX4_digest_v19 (r := 14) (x := 222) rfl)
theorem dX4_digest_319 : decode cX4_digest 319 = .ok (.i2l, 1) := dk_133 (dq_lk dX4_digest_v19 (r := 15) (x := 133) rfl)
theorem dX4_digest_320 : decode cX4_digest 320 = .ok (.ladd, 1) := dk_97 (dq_lk dX4_digest_v20 (r := 0) (x := 97) rfl)
theorem dX4_digest_321 : decode cX4_digest 321 = .ok (.lstore_n 1, 1) := dk_64 (dq_lk dX4_digest_v20 (r := 1) (x := 64) rfl)
theorem dX4_digest_322 : decode cX4_digest 322 = .ok (.iinc 3 1, 3) := dk_132 (dq_lk dX4_digest_v20 (r := 2) (x := 132) rfl) (dq_lk dX4_digest_v20 (r := 3) (x := 3) rfl) (dq_lk dX4_digest_v20 (r := 4) (x := 1) rfl) (by decide +kernel)
theorem dX4_digest_325 : decode cX4_digest 325 = .ok (.goto (-21), 3) := dk_167 (dq_lk dX4_digest_v20 (r := 5) (x := 167) rfl) (dq_lk dX4_digest_v20 (r := 6) (x := 255) rfl) (dq_lk dX4_digest_v20 (r := 7) (x := 235) rfl) (by decide +kernel)
theorem dX4_digest_328 : decode cX4_digest 328 = .ok (.lload_n 1, 1) := dk_31 (dq_lk dX4_digest_v20 (r := 8) (x := 31) rfl)
theorem dX4_digest_329 : decode cX4_digest 329 = .ok (.ldc2_w 227, 3) := dk_20 (dq_lk dX4_digest_v20 (r := 9) (x := 20) rfl) (dq_lk dX4_digest_v20 (r := 10) (x := 0) rfl) (dq_lk dX4_digest_v20 (r := 11) (x := 227) rfl)
theorem dX4_digest_332 : decode cX4_digest 332 = .ok (.lmul, 1) := dk_105 (dq_lk dX4_digest_v20 (r := 12) (x := 105) rfl)
theorem dX4_digest_333 : decode cX4_digest 333 = .ok (.lconst 1, 1) := dk_10 (dq_lk dX4_digest_v20 (r := 13) (x := 10) rfl)
theorem dX4_digest_334 : decode cX4_digest 334 = .ok (.ladd, 1) := dk_97 (dq_lk dX4_digest_v20 (r := 14) (x := 97) rfl)
theorem dX4_digest_335 : decode cX4_digest 335 = .ok (.lreturn, 1) := dk_173 (dq_lk dX4_digest_v20 (r := 15) (x := 173) rfl)
end
-- 28 ref28
section
/-! The reference, its contracts (rows by a program of this repository). -/
theorem dX4_offset_v0 : (cX4_offset.data.toList.drop 0).take 16 = [42, 27, 184, 0, 61, 28, 133, 20, 0, 64, 20, 0, 66, 184, 0, 38] := by decide +kernel
theorem dX4_offset_v1 : (cX4_offset.data.toList.drop 16).take 16 = [154, 0, 7, 4, 167, 0, 4, 3, 182, 0, 68, 153, 0, 5, 3, 172] := by decide +kernel
theorem dX4_offset_v2 : (cX4_offset.data.toList.drop 32).take 16 = [42, 180, 0, 7, 27, 46, 62, 42, 180, 0, 7, 27, 28, 79, 29, 172] := by decide +kernel
theorem dX4_offset_0 : decode cX4_offset 0 = .ok (.aload_n 0, 1) := dk_42 (dq_lk dX4_offset_v0 (r := 0) (x := 42) rfl)
theorem dX4_offset_1 : decode cX4_offset 1 = .ok (.iload_n 1, 1) := dk_27 (dq_lk dX4_offset_v0 (r := 1) (x := 27) rfl)
theorem dX4_offset_2 : decode cX4_offset 2 = .ok (.invokestatic 61, 3) := dk_184 (dq_lk dX4_offset_v0 (r := 2) (x := 184) rfl) (dq_lk dX4_offset_v0 (r := 3) (x := 0) rfl) (dq_lk dX4_offset_v0 (r := 4) (x := 61) rfl)
theorem dX4_offset_5 : decode cX4_offset 5 = .ok (.iload_n 2, 1) := dk_28 (dq_lk dX4_offset_v0 (r := 5) (x := 28) rfl)
theorem dX4_offset_6 : decode cX4_offset 6 = .ok (.i2l, 1) := dk_133 (dq_lk dX4_offset_v0 (r := 6) (x := 133) rfl)
theorem dX4_offset_7 : decode cX4_offset 7 = .ok (.ldc2_w 64, 3) := dk_20 (dq_lk dX4_offset_v0 (r := 7) (x := 20) rfl) (dq_lk dX4_offset_v0 (r := 8) (x := 0) rfl) (dq_lk dX4_offset_v0 (r := 9) (x := 64) rfl)
theorem dX4_offset_10 : decode cX4_offset 10 = .ok (.ldc2_w 66, 3) := dk_20 (dq_lk dX4_offset_v0 (r := 10) (x := 20) rfl) (dq_lk dX4_offset_v0 (r := 11) (x := 0) rfl) (dq_lk dX4_offset_v0 (r := 12) (x := 66) rfl)
theorem dX4_offset_13 : decode cX4_offset 13 = .ok (.invokestatic 38, 3) := dk_184 (dq_lk dX4_offset_v0 (r := 13) (x := 184) rfl) (dq_lk dX4_offset_v0 (r := 14) (x := 0) rfl) (dq_lk dX4_offset_v0 (r := 15) (x := 38) rfl)
theorem dX4_offset_16 : decode cX4_offset 16 = .ok (.ifCond .ne 7, 3) := dk_154 (dq_lk dX4_offset_v1 (r := 0) (x := 154) rfl) (dq_lk dX4_offset_v1 (r := 1) (x := 0) rfl) (dq_lk dX4_offset_v1 (r := 2) (x := 7) rfl) (by decide +kernel)
theorem dX4_offset_19 : decode cX4_offset 19 = .ok (.iconst 1, 1) := dk_4 (dq_lk dX4_offset_v1 (r := 3) (x := 4) rfl)
theorem dX4_offset_20 : decode cX4_offset 20 = .ok (.goto 4, 3) := dk_167 (dq_lk dX4_offset_v1 (r := 4) (x := 167) rfl) (dq_lk dX4_offset_v1 (r := 5) (x := 0) rfl) (dq_lk dX4_offset_v1 (r := 6) (x := 4) rfl) (by decide +kernel)
theorem dX4_offset_23 : decode cX4_offset 23 = .ok (.iconst 0, 1) := dk_3 (dq_lk dX4_offset_v1 (r := 7) (x := 3) rfl)
theorem dX4_offset_24 : decode cX4_offset 24 = .ok (.invokevirtual 68, 3) := dk_182 (dq_lk dX4_offset_v1 (r := 8) (x := 182) rfl) (dq_lk dX4_offset_v1 (r := 9) (x := 0) rfl) (dq_lk dX4_offset_v1 (r := 10) (x := 68) rfl)
theorem dX4_offset_27 : decode cX4_offset 27 = .ok (.ifCond .eq 5, 3) := dk_153 (dq_lk dX4_offset_v1 (r := 11) (x := 153) rfl) (dq_lk dX4_offset_v1 (r := 12) (x := 0) rfl) (dq_lk dX4_offset_v1 (r := 13) (x := 5) rfl) (by decide +kernel)
theorem dX4_offset_30 : decode cX4_offset 30 = .ok (.iconst 0, 1) := dk_3 (dq_lk dX4_offset_v1 (r := 14) (x := 3) rfl)
theorem dX4_offset_31 : decode cX4_offset 31 = .ok (.ireturn, 1) := dk_172 (dq_lk dX4_offset_v1 (r := 15) (x := 172) rfl)
theorem dX4_offset_32 : decode cX4_offset 32 = .ok (.aload_n 0, 1) := dk_42 (dq_lk dX4_offset_v2 (r := 0) (x := 42) rfl)
theorem dX4_offset_33 : decode cX4_offset 33 = .ok (.getfield 7, 3) := dk_180 (dq_lk dX4_offset_v2 (r := 1) (x := 180) rfl) (dq_lk dX4_offset_v2 (r := 2) (x := 0) rfl) (dq_lk dX4_offset_v2 (r := 3) (x := 7) rfl)
theorem dX4_offset_36 : decode cX4_offset 36 = .ok (.iload_n 1, 1) := dk_27 (dq_lk dX4_offset_v2 (r := 4) (x := 27) rfl)
theorem dX4_offset_37 : decode cX4_offset 37 = .ok (.iaload, 1) := dk_46 (dq_lk dX4_offset_v2 (r := 5) (x := 46) rfl)
theorem dX4_offset_38 : decode cX4_offset 38 = .ok (.istore_n 3, 1) := dk_62 (dq_lk dX4_offset_v2 (r := 6) (x := 62) rfl)
theorem dX4_offset_39 : decode cX4_offset 39 = .ok (.aload_n 0, 1) := dk_42 (dq_lk dX4_offset_v2 (r := 7) (x := 42) rfl)
theorem dX4_offset_40 : decode cX4_offset 40 = .ok (.getfield 7, 3) := dk_180 (dq_lk dX4_offset_v2 (r := 8) (x := 180) rfl) (dq_lk dX4_offset_v2 (r := 9) (x := 0) rfl) (dq_lk dX4_offset_v2 (r := 10) (x := 7) rfl)
theorem dX4_offset_43 : decode cX4_offset 43 = .ok (.iload_n 1, 1) := dk_27 (dq_lk dX4_offset_v2 (r := 11) (x := 27) rfl)
theorem dX4_offset_44 : decode cX4_offset 44 = .ok (.iload_n 2, 1) := dk_28 (dq_lk dX4_offset_v2 (r := 12) (x := 28) rfl)
theorem dX4_offset_45 : decode cX4_offset 45 = .ok (.iastore, 1) := dk_79 (dq_lk dX4_offset_v2 (r := 13) (x := 79) rfl)
theorem dX4_offset_46 : decode cX4_offset 46 = .ok (.iload_n 3, 1) := dk_29 (dq_lk dX4_offset_v2 (r := 14) (x := 29) rfl)
theorem dX4_offset_47 : decode cX4_offset 47 = .ok (.ireturn, 1) := dk_172 (dq_lk dX4_offset_v2 (r := 15) (x := 172) rfl)
theorem dX4_offsetOf_w0 : (cX4_offsetOf.data.toList.drop 0).take 64 = [42, 27, 184, 0, 61, 3, 182, 0, 68, 153, 0, 5, 3, 172, 28, 157, 0, 12, 29, 157, 0, 8, 21, 4, 158, 0, 20, 28, 155, 0, 12, 29, 155, 0, 8, 21, 4, 156, 0, 7, 4, 167, 0, 4, 3, 54, 5, 28, 133, 20, 0, 72, 20, 0, 74, 184, 0, 38, 153, 0, 37, 29, 133, 20] := by decide +kernel
theorem dX4_offsetOf_w1 : (cX4_offsetOf.data.toList.drop 64).take 64 = [0, 76, 20, 0, 78, 184, 0, 38, 153, 0, 23, 21, 4, 133, 20, 0, 76, 20, 0, 78, 184, 0, 38, 153, 0, 8, 21, 5, 153, 0, 8, 42, 182, 0, 80, 172, 17, 14, 16, 28, 104, 16, 60, 29, 104, 96, 21, 4, 96, 54, 6, 21, 6, 133, 20, 0, 64, 20, 0, 66, 184, 0, 38, 154] := by decide +kernel
theorem dX4_offsetOf_w2 : (cX4_offsetOf.data.toList.drop 128).take 64 = [0, 8, 42, 182, 0, 80, 172, 42, 180, 0, 7, 27, 21, 6, 79, 21, 6, 172] := by decide +kernel
theorem dX4_offsetOf_v0 : (cX4_offsetOf.data.toList.drop 0).take 16 = [42, 27, 184, 0, 61, 3, 182, 0, 68, 153, 0, 5, 3, 172, 28, 157] := dq_sub (n := 0) (j := 0) dX4_offsetOf_w0 (by decide) rfl
theorem dX4_offsetOf_v1 : (cX4_offsetOf.data.toList.drop 16).take 16 = [0, 12, 29, 157, 0, 8, 21, 4, 158, 0, 20, 28, 155, 0, 12, 29] := dq_sub (n := 0) (j := 16) dX4_offsetOf_w0 (by decide) rfl
theorem dX4_offsetOf_v2 : (cX4_offsetOf.data.toList.drop 32).take 16 = [155, 0, 8, 21, 4, 156, 0, 7, 4, 167, 0, 4, 3, 54, 5, 28] := dq_sub (n := 0) (j := 32) dX4_offsetOf_w0 (by decide) rfl
theorem dX4_offsetOf_v3 : (cX4_offsetOf.data.toList.drop 48).take 16 = [133, 20, 0, 72, 20, 0, 74, 184, 0, 38, 153, 0, 37, 29, 133, 20] := dq_sub (n := 0) (j := 48) dX4_offsetOf_w0 (by decide) rfl
theorem dX4_offsetOf_v4 : (cX4_offsetOf.data.toList.drop 64).take 16 = [0, 76, 20, 0, 78, 184, 0, 38, 153, 0, 23, 21, 4, 133, 20, 0] := dq_sub (n := 64) (j := 0) dX4_offsetOf_w1 (by decide) rfl
theorem dX4_offsetOf_v5 : (cX4_offsetOf.data.toList.drop 80).take 16 = [76, 20, 0, 78, 184, 0, 38, 153, 0, 8, 21, 5, 153, 0, 8, 42] := dq_sub (n := 64) (j := 16) dX4_offsetOf_w1 (by decide) rfl
theorem dX4_offsetOf_v6 : (cX4_offsetOf.data.toList.drop 96).take 16 = [182, 0, 80, 172, 17, 14, 16, 28, 104, 16, 60, 29, 104, 96, 21, 4] := dq_sub (n := 64) (j := 32) dX4_offsetOf_w1 (by decide) rfl
theorem dX4_offsetOf_v7 : (cX4_offsetOf.data.toList.drop 112).take 16 = [96, 54, 6, 21, 6, 133, 20, 0, 64, 20, 0, 66, 184, 0, 38, 154] := dq_sub (n := 64) (j := 48) dX4_offsetOf_w1 (by decide) rfl
theorem dX4_offsetOf_v8 : (cX4_offsetOf.data.toList.drop 128).take 16 = [0, 8, 42, 182, 0, 80, 172, 42, 180, 0, 7, 27, 21, 6, 79, 21] := dq_sub (n := 128) (j := 0) dX4_offsetOf_w2 (by decide) rfl
theorem dX4_offsetOf_v9 : (cX4_offsetOf.data.toList.drop 144).take 16 = [6, 172] := dq_sub (n := 128) (j := 16) dX4_offsetOf_w2 (by decide) rfl
theorem dX4_offsetOf_0 : decode cX4_offsetOf 0 = .ok (.aload_n 0, 1) := dk_42 (dq_lk dX4_offsetOf_v0 (r := 0) (x := 42) rfl)
theorem dX4_offsetOf_1 : decode cX4_offsetOf 1 = .ok (.iload_n 1, 1) := dk_27 (dq_lk dX4_offsetOf_v0 (r := 1) (x := 27) rfl)
theorem dX4_offsetOf_2 : decode cX4_offsetOf 2 = .ok (.invokestatic 61, 3) := dk_184 (dq_lk dX4_offsetOf_v0 (r := 2) (x := 184) rfl) (dq_lk dX4_offsetOf_v0 (r := 3) (x := 0) rfl) (dq_lk dX4_offsetOf_v0 (r := 4) (x := 61) rfl)
theorem dX4_offsetOf_5 : decode cX4_offsetOf 5 = .ok (.iconst 0, 1) := dk_3 (dq_lk dX4_offsetOf_v0 (r := 5) (x := 3) rfl)
theorem dX4_offsetOf_6 : decode cX4_offsetOf 6 = .ok (.invokevirtual 68, 3) := dk_182 (dq_lk dX4_offsetOf_v0 (r := 6) (x := 182) rfl) (dq_lk dX4_offsetOf_v0 (r := 7) (x := 0) rfl) (dq_lk dX4_offsetOf_v0 (r := 8) (x := 68) rfl)
theorem dX4_offsetOf_9 : decode cX4_offsetOf 9 = .ok (.ifCond .eq 5, 3) := dk_153 (dq_lk dX4_offsetOf_v0 (r := 9) (x := 153) rfl) (dq_lk dX4_offsetOf_v0 (r := 10) (x := 0) rfl) (dq_lk dX4_offsetOf_v0 (r := 11) (x := 5) rfl) (by decide +kernel)
theorem dX4_offsetOf_12 : decode cX4_offsetOf 12 = .ok (.iconst 0, 1) := dk_3 (dq_lk dX4_offsetOf_v0 (r := 12) (x := 3) rfl)
theorem dX4_offsetOf_13 : decode cX4_offsetOf 13 = .ok (.ireturn, 1) := dk_172 (dq_lk dX4_offsetOf_v0 (r := 13) (x := 172) rfl)
theorem dX4_offsetOf_14 : decode cX4_offsetOf 14 = .ok (.iload_n 2, 1) := dk_28 (dq_lk dX4_offsetOf_v0 (r := 14) (x := 28) rfl)
theorem dX4_offsetOf_15 : decode cX4_offsetOf 15 = .ok (.ifCond .gt 12, 3) := dk_157 (dq_lk dX4_offsetOf_v0 (r := 15) (x := 157) rfl) (dq_lk dX4_offsetOf_v1 (r := 0) (x := 0) rfl) (dq_lk dX4_offsetOf_v1 (r := 1) (x := 12) rfl) (by decide +kernel)
theorem dX4_offsetOf_18 : decode cX4_offsetOf 18 = .ok (.iload_n 3, 1) := dk_29 (dq_lk dX4_offsetOf_v1 (r := 2) (x := 29) rfl)
theorem dX4_offsetOf_19 : decode cX4_offsetOf 19 = .ok (.ifCond .gt 8, 3) := dk_157 (dq_lk dX4_offsetOf_v1 (r := 3) (x := 157) rfl) (dq_lk dX4_offsetOf_v1 (r := 4) (x := 0) rfl) (dq_lk dX4_offsetOf_v1 (r := 5) (x := 8) rfl) (by decide +kernel)
theorem dX4_offsetOf_22 : decode cX4_offsetOf 22 = .ok (.iload 4, 2) := dk_21 (dq_lk dX4_offsetOf_v1 (r := 6) (x := 21) rfl) (dq_lk dX4_offsetOf_v1 (r := 7) (x := 4) rfl)
theorem dX4_offsetOf_24 : decode cX4_offsetOf 24 = .ok (.ifCond .le 20, 3) := dk_158 (dq_lk dX4_offsetOf_v1 (r := 8) (x := 158) rfl) (dq_lk dX4_offsetOf_v1 (r := 9) (x := 0) rfl) (dq_lk dX4_offsetOf_v1 (r := 10) (x := 20) rfl) (by decide +kernel)
theorem dX4_offsetOf_27 : decode cX4_offsetOf 27 = .ok (.iload_n 2, 1) := dk_28 (dq_lk dX4_offsetOf_v1 (r := 11) (x := 28) rfl)
theorem dX4_offsetOf_28 : decode cX4_offsetOf 28 = .ok (.ifCond .lt 12, 3) := dk_155 (dq_lk dX4_offsetOf_v1 (r := 12) (x := 155) rfl) (dq_lk dX4_offsetOf_v1 (r := 13) (x := 0) rfl) (dq_lk dX4_offsetOf_v1 (r := 14) (x := 12) rfl) (by decide +kernel)
theorem dX4_offsetOf_31 : decode cX4_offsetOf 31 = .ok (.iload_n 3, 1) := dk_29 (dq_lk dX4_offsetOf_v1 (r := 15) (x := 29) rfl)
theorem dX4_offsetOf_32 : decode cX4_offsetOf 32 = .ok (.ifCond .lt 8, 3) := dk_155 (dq_lk dX4_offsetOf_v2 (r := 0) (x := 155) rfl) (dq_lk dX4_offsetOf_v2 (r := 1) (x := 0) rfl) (dq_lk dX4_offsetOf_v2 (r := 2) (x := 8) rfl) (by decide +kernel)
theorem dX4_offsetOf_35 : decode cX4_offsetOf 35 = .ok (.iload 4, 2) := dk_21 (dq_lk dX4_offsetOf_v2 (r := 3) (x := 21) rfl) (dq_lk dX4_offsetOf_v2 (r := 4) (x := 4) rfl)
theorem dX4_offsetOf_37 : decode cX4_offsetOf 37 = .ok (.ifCond .ge 7, 3) := dk_156 (dq_lk dX4_offsetOf_v2 (r := 5) (x := 156) rfl) (dq_lk dX4_offsetOf_v2 (r := 6) (x := 0) rfl) (dq_lk dX4_offsetOf_v2 (r := 7) (x := 7) rfl) (by decide +kernel)
theorem dX4_offsetOf_40 : decode cX4_offsetOf 40 = .ok (.iconst 1, 1) := dk_4 (dq_lk dX4_offsetOf_v2 (r := 8) (x := 4) rfl)
theorem dX4_offsetOf_41 : decode cX4_offsetOf 41 = .ok (.goto 4, 3) := dk_167 (dq_lk dX4_offsetOf_v2 (r := 9) (x := 167) rfl) (dq_lk dX4_offsetOf_v2 (r := 10) (x := 0) rfl) (dq_lk dX4_offsetOf_v2 (r := 11) (x := 4) rfl) (by decide +kernel)
theorem dX4_offsetOf_44 : decode cX4_offsetOf 44 = .ok (.iconst 0, 1) := dk_3 (dq_lk dX4_offsetOf_v2 (r := 12) (x := 3) rfl)
theorem dX4_offsetOf_45 : decode cX4_offsetOf 45 = .ok (.istore 5, 2) := dk_54 (dq_lk dX4_offsetOf_v2 (r := 13) (x := 54) rfl) (dq_lk dX4_offsetOf_v2 (r := 14) (x := 5) rfl)
theorem dX4_offsetOf_47 : decode cX4_offsetOf 47 = .ok (.iload_n 2, 1) := dk_28 (dq_lk dX4_offsetOf_v2 (r := 15) (x := 28) rfl)
theorem dX4_offsetOf_48 : decode cX4_offsetOf 48 = .ok (.i2l, 1) := dk_133 (dq_lk dX4_offsetOf_v3 (r := 0) (x := 133) rfl)
theorem dX4_offsetOf_49 : decode cX4_offsetOf 49 = .ok (.ldc2_w 72, 3) := dk_20 (dq_lk dX4_offsetOf_v3 (r := 1) (x := 20) rfl) (dq_lk dX4_offsetOf_v3 (r := 2) (x := 0) rfl) (dq_lk dX4_offsetOf_v3 (r := 3) (x := 72) rfl)
theorem dX4_offsetOf_52 : decode cX4_offsetOf 52 = .ok (.ldc2_w 74, 3) := dk_20 (dq_lk dX4_offsetOf_v3 (r := 4) (x := 20) rfl) (dq_lk dX4_offsetOf_v3 (r := 5) (x := 0) rfl) (dq_lk dX4_offsetOf_v3 (r := 6) (x := 74) rfl)
theorem dX4_offsetOf_55 : decode cX4_offsetOf 55 = .ok (.invokestatic 38, 3) := dk_184 (dq_lk dX4_offsetOf_v3 (r := 7) (x := 184) rfl) (dq_lk dX4_offsetOf_v3 (r := 8) (x := 0) rfl) (dq_lk dX4_offsetOf_v3 (r := 9) (x := 38) rfl)
theorem dX4_offsetOf_58 : decode cX4_offsetOf 58 = .ok (.ifCond .eq 37, 3) := dk_153 (dq_lk dX4_offsetOf_v3 (r := 10) (x := 153) rfl) (dq_lk dX4_offsetOf_v3 (r := 11) (x := 0) rfl) (dq_lk dX4_offsetOf_v3 (r := 12) (x := 37) rfl) (by decide +kernel)
theorem dX4_offsetOf_61 : decode cX4_offsetOf 61 = .ok (.iload_n 3, 1) := dk_29 (dq_lk dX4_offsetOf_v3 (r := 13) (x := 29) rfl)
theorem dX4_offsetOf_62 : decode cX4_offsetOf 62 = .ok (.i2l, 1) := dk_133 (dq_lk dX4_offsetOf_v3 (r := 14) (x := 133) rfl)
theorem dX4_offsetOf_63 : decode cX4_offsetOf 63 = .ok (.ldc2_w 76, 3) := dk_20 (dq_lk dX4_offsetOf_v3 (r := 15) (x := 20) rfl) (dq_lk dX4_offsetOf_v4 (r := 0) (x := 0) rfl) (dq_lk dX4_offsetOf_v4 (r := 1) (x := 76) rfl)
theorem dX4_offsetOf_66 : decode cX4_offsetOf 66 = .ok (.ldc2_w 78, 3) := dk_20 (dq_lk dX4_offsetOf_v4 (r := 2) (x := 20) rfl) (dq_lk dX4_offsetOf_v4 (r := 3) (x := 0) rfl) (dq_lk dX4_offsetOf_v4 (r := 4) (x := 78) rfl)
theorem dX4_offsetOf_69 : decode cX4_offsetOf 69 = .ok (.invokestatic 38, 3) := dk_184 (dq_lk dX4_offsetOf_v4 (r := 5) (x := 184) rfl) (dq_lk dX4_offsetOf_v4 (r := 6) (x := 0) rfl) (dq_lk dX4_offsetOf_v4 (r := 7) (x := 38) rfl)
theorem dX4_offsetOf_72 : decode cX4_offsetOf 72 = .ok (.ifCond .eq 23, 3) := dk_153 (dq_lk dX4_offsetOf_v4 (r := 8) (x := 153) rfl) (dq_lk dX4_offsetOf_v4 (r := 9) (x := 0) rfl) (dq_lk dX4_offsetOf_v4 (r := 10) (x := 23) rfl) (by decide +kernel)
theorem dX4_offsetOf_75 : decode cX4_offsetOf 75 = .ok (.iload 4, 2) := dk_21 (dq_lk dX4_offsetOf_v4 (r := 11) (x := 21) rfl) (dq_lk dX4_offsetOf_v4 (r := 12) (x := 4) rfl)
theorem dX4_offsetOf_77 : decode cX4_offsetOf 77 = .ok (.i2l, 1) := dk_133 (dq_lk dX4_offsetOf_v4 (r := 13) (x := 133) rfl)
theorem dX4_offsetOf_78 : decode cX4_offsetOf 78 = .ok (.ldc2_w 76, 3) := dk_20 (dq_lk dX4_offsetOf_v4 (r := 14) (x := 20) rfl) (dq_lk dX4_offsetOf_v4 (r := 15) (x := 0) rfl) (dq_lk dX4_offsetOf_v5 (r := 0) (x := 76) rfl)
theorem dX4_offsetOf_81 : decode cX4_offsetOf 81 = .ok (.ldc2_w 78, 3) := dk_20 (dq_lk dX4_offsetOf_v5 (r := 1) (x := 20) rfl) (dq_lk dX4_offsetOf_v5 (r := 2) (x := 0) rfl) (dq_lk dX4_offsetOf_v5 (r := 3) (x := 78) rfl)
theorem dX4_offsetOf_84 : decode cX4_offsetOf 84 = .ok (.invokestatic 38, 3) := dk_184 (dq_lk dX4_offsetOf_v5 (r := 4) (x := 184) rfl) (dq_lk dX4_offsetOf_v5 (r := 5) (x := 0) rfl) (dq_lk dX4_offsetOf_v5 (r := 6) (x := 38) rfl)
theorem dX4_offsetOf_87 : decode cX4_offsetOf 87 = .ok (.ifCond .eq 8, 3) := dk_153 (dq_lk dX4_offsetOf_v5 (r := 7) (x := 153) rfl) (dq_lk dX4_offsetOf_v5 (r := 8) (x := 0) rfl) (dq_lk dX4_offsetOf_v5 (r := 9) (x := 8) rfl) (by decide +kernel)
theorem dX4_offsetOf_90 : decode cX4_offsetOf 90 = .ok (.iload 5, 2) := dk_21 (dq_lk dX4_offsetOf_v5 (r := 10) (x := 21) rfl) (dq_lk dX4_offsetOf_v5 (r := 11) (x := 5) rfl)
theorem dX4_offsetOf_92 : decode cX4_offsetOf 92 = .ok (.ifCond .eq 8, 3) := dk_153 (dq_lk dX4_offsetOf_v5 (r := 12) (x := 153) rfl) (dq_lk dX4_offsetOf_v5 (r := 13) (x := 0) rfl) (dq_lk dX4_offsetOf_v5 (r := 14) (x := 8) rfl) (by decide +kernel)
theorem dX4_offsetOf_95 : decode cX4_offsetOf 95 = .ok (.aload_n 0, 1) := dk_42 (dq_lk dX4_offsetOf_v5 (r := 15) (x := 42) rfl)
theorem dX4_offsetOf_96 : decode cX4_offsetOf 96 = .ok (.invokevirtual 80, 3) := dk_182 (dq_lk dX4_offsetOf_v6 (r := 0) (x := 182) rfl) (dq_lk dX4_offsetOf_v6 (r := 1) (x := 0) rfl) (dq_lk dX4_offsetOf_v6 (r := 2) (x := 80) rfl)
theorem dX4_offsetOf_99 : decode cX4_offsetOf 99 = .ok (.ireturn, 1) := dk_172 (dq_lk dX4_offsetOf_v6 (r := 3) (x := 172) rfl)
theorem dX4_offsetOf_100 : decode cX4_offsetOf 100 = .ok (.sipush 3600, 3) := dk_17 (dq_lk dX4_offsetOf_v6 (r := 4) (x := 17) rfl) (dq_lk dX4_offsetOf_v6 (r := 5) (x := 14) rfl) (dq_lk dX4_offsetOf_v6 (r := 6) (x := 16) rfl) (by decide +kernel)
theorem dX4_offsetOf_103 : decode cX4_offsetOf 103 = .ok (.iload_n 2, 1) := dk_28 (dq_lk dX4_offsetOf_v6 (r := 7) (x := 28) rfl)
theorem dX4_offsetOf_104 : decode cX4_offsetOf 104 = .ok (.imul, 1) := dk_104 (dq_lk dX4_offsetOf_v6 (r := 8) (x := 104) rfl)
theorem dX4_offsetOf_105 : decode cX4_offsetOf 105 = .ok (.bipush 60, 2) := dk_16 (dq_lk dX4_offsetOf_v6 (r := 9) (x := 16) rfl) (dq_lk dX4_offsetOf_v6 (r := 10) (x := 60) rfl) (by decide +kernel)
theorem dX4_offsetOf_107 : decode cX4_offsetOf 107 = .ok (.iload_n 3, 1) := dk_29 (dq_lk dX4_offsetOf_v6 (r := 11) (x := 29) rfl)
theorem dX4_offsetOf_108 : decode cX4_offsetOf 108 = .ok (.imul, 1) := dk_104 (dq_lk dX4_offsetOf_v6 (r := 12) (x := 104) rfl)
theorem dX4_offsetOf_109 : decode cX4_offsetOf 109 = .ok (.iadd, 1) := dk_96 (dq_lk dX4_offsetOf_v6 (r := 13) (x := 96) rfl)
theorem dX4_offsetOf_110 : decode cX4_offsetOf 110 = .ok (.iload 4, 2) := dk_21 (dq_lk dX4_offsetOf_v6 (r := 14) (x := 21) rfl) (dq_lk dX4_offsetOf_v6 (r := 15) (x := 4) rfl)
theorem dX4_offsetOf_112 : decode cX4_offsetOf 112 = .ok (.iadd, 1) := dk_96 (dq_lk dX4_offsetOf_v7 (r := 0) (x := 96) rfl)
theorem dX4_offsetOf_113 : decode cX4_offsetOf 113 = .ok (.istore 6, 2) := dk_54 (dq_lk dX4_offsetOf_v7 (r := 1) (x := 54) rfl) (dq_lk dX4_offsetOf_v7 (r := 2) (x := 6) rfl)
theorem dX4_offsetOf_115 : decode cX4_offsetOf 115 = .ok (.iload 6, 2) := dk_21 (dq_lk dX4_offsetOf_v7 (r := 3) (x := 21) rfl) (dq_lk dX4_offsetOf_v7 (r := 4) (x := 6) rfl)
theorem dX4_offsetOf_117 : decode cX4_offsetOf 117 = .ok (.i2l, 1) := dk_133 (dq_lk dX4_offsetOf_v7 (r := 5) (x := 133) rfl)
theorem dX4_offsetOf_118 : decode cX4_offsetOf 118 = .ok (.ldc2_w 64, 3) := dk_20 (dq_lk dX4_offsetOf_v7 (r := 6) (x := 20) rfl) (dq_lk dX4_offsetOf_v7 (r := 7) (x := 0) rfl) (dq_lk dX4_offsetOf_v7 (r := 8) (x := 64) rfl)
theorem dX4_offsetOf_121 : decode cX4_offsetOf 121 = .ok (.ldc2_w 66, 3) := dk_20 (dq_lk dX4_offsetOf_v7 (r := 9) (x := 20) rfl) (dq_lk dX4_offsetOf_v7 (r := 10) (x := 0) rfl) (dq_lk dX4_offsetOf_v7 (r := 11) (x := 66) rfl)
theorem dX4_offsetOf_124 : decode cX4_offsetOf 124 = .ok (.invokestatic 38, 3) := dk_184 (dq_lk dX4_offsetOf_v7 (r := 12) (x := 184) rfl) (dq_lk dX4_offsetOf_v7 (r := 13) (x := 0) rfl) (dq_lk dX4_offsetOf_v7 (r := 14) (x := 38) rfl)
theorem dX4_offsetOf_127 : decode cX4_offsetOf 127 = .ok (.ifCond .ne 8, 3) := dk_154 (dq_lk dX4_offsetOf_v7 (r := 15) (x := 154) rfl) (dq_lk dX4_offsetOf_v8 (r := 0) (x := 0) rfl) (dq_lk dX4_offsetOf_v8 (r := 1) (x := 8) rfl) (by decide +kernel)
theorem dX4_offsetOf_130 : decode cX4_offsetOf 130 = .ok (.aload_n 0, 1) := dk_42 (dq_lk dX4_offsetOf_v8 (r := 2) (x := 42) rfl)
theorem dX4_offsetOf_131 : decode cX4_offsetOf 131 = .ok (.invokevirtual 80, 3) := dk_182 (dq_lk dX4_offsetOf_v8 (r := 3) (x := 182) rfl) (dq_lk dX4_offsetOf_v8 (r := 4) (x := 0) rfl) (dq_lk dX4_offsetOf_v8 (r := 5) (x := 80) rfl)
theorem dX4_offsetOf_134 : decode cX4_offsetOf 134 = .ok (.ireturn, 1) := dk_172 (dq_lk dX4_offsetOf_v8 (r := 6) (x := 172) rfl)
theorem dX4_offsetOf_135 : decode cX4_offsetOf 135 = .ok (.aload_n 0, 1) := dk_42 (dq_lk dX4_offsetOf_v8 (r := 7) (x := 42) rfl)
theorem dX4_offsetOf_136 : decode cX4_offsetOf 136 = .ok (.getfield 7, 3) := dk_180 (dq_lk dX4_offsetOf_v8 (r := 8) (x := 180) rfl) (dq_lk dX4_offsetOf_v8 (r := 9) (x := 0) rfl) (dq_lk dX4_offsetOf_v8 (r := 10) (x := 7) rfl)
theorem dX4_offsetOf_139 : decode cX4_offsetOf 139 = .ok (.iload_n 1, 1) := dk_27 (dq_lk dX4_offsetOf_v8 (r := 11) (x := 27) rfl)
theorem dX4_offsetOf_140 : decode cX4_offsetOf 140 = .ok (.iload 6, 2) := dk_21 (dq_lk dX4_offsetOf_v8 (r := 12) (x := 21) rfl) (dq_lk dX4_offsetOf_v8 (r := 13) (x := 6) rfl)
theorem dX4_offsetOf_142 : decode cX4_offsetOf 142 = .ok (.iastore, 1) := dk_79 (dq_lk dX4_offsetOf_v8 (r := 14) (x := 79) rfl)
theorem dX4_offsetOf_143 : decode cX4_offsetOf 143 = .ok (.iload 6, 2) := dk_21 (dq_lk dX4_offsetOf_v8 (r := 15) (x := 21) rfl) (dq_lk dX4_offsetOf_v9 (r := 0) (x := 6) rfl)
theorem dX4_offsetOf_145 : decode cX4_offsetOf 145 = .ok (.ireturn, 1) := dk_172 (dq_lk dX4_offsetOf_v9 (r := 1) (x := 172) rfl)
end
-- 30 make
section
/-! Rows that make objects and arrays. (Own work.) -/
section MK
variable {X : mC} {own : String} {cc : ByteArray} {nL : Nat} {R : Room} {hh : List (Nat × Nat × Nat × Nat)} {tys : List (ClassId × FieldType)} {pc : Nat} {lv : List (Nat × Option Value)} {st : List Value} {ws : va_W} {k n : Nat}
variable {Φ : Option Value → va_W → Prop} {Ψ : String → va_W → Prop} {mc ms : Nat} {ret : Option FieldType}

set_option maxRecDepth 20000 in
theorem kob_X2 : (Cond.methodLink RX2 3 Lib.objectInit) ∈ mW := mtb_1 (List.mem_of_getElem? (i := 29) rfl) rfl
set_option maxRecDepth 20000 in
theorem kob_X1 : (Cond.methodLink RX1 3 Lib.objectInit) ∈ mW := mtb_1 (List.mem_of_getElem? (i := 38) rfl) rfl
set_option maxRecDepth 20000 in
theorem kob_X3 : (Cond.methodLink RX3 1 Lib.objectInit) ∈ mW := mtb_2 (List.mem_of_getElem? (i := 144) rfl) rfl
set_option maxRecDepth 20000 in
theorem kob_X4 : (Cond.methodLink RX4 1 Lib.objectInit) ∈ mW := mtb_5 (List.mem_of_getElem? (i := 52) rfl) rfl
set_option maxRecDepth 20000 in
theorem koi : (Cond.instanceMethod Lib.objectInit) ∈ mW := mtb_1 (List.mem_of_getElem? (i := 30) rfl) rfl
set_option maxRecDepth 20000 in
theorem koc : (Cond.code Lib.objectInit ⟨#[0xb1]⟩ 1 none) ∈ mW := mtb_1 (List.mem_of_getElem? (i := 31) rfl) rfl
set_option maxRecDepth 20000 in
theorem kao : (Cond.arrayOver (.object RX1)) ∈ mW := mtb_1 (List.mem_of_getElem? (i := 33) rfl) rfl
set_option maxRecDepth 20000 in
theorem kim_X2 : (Cond.instanceMethod yX2_init) ∈ mW := mtb_1 (List.mem_of_getElem? (i := 27) rfl) rfl
set_option maxRecDepth 20000 in
theorem kil_X2 : (Cond.methodLink RL 129 yX2_init) ∈ mW := mtb_1 (List.mem_of_getElem? (i := 26) rfl) rfl
set_option maxRecDepth 20000 in
theorem kcd_X2 : (Cond.code yX2_init cX2_init 1 none) ∈ mW := mtb_1 (List.mem_of_getElem? (i := 28) rfl) rfl
set_option maxRecDepth 20000 in
theorem kim_X1 : (Cond.instanceMethod yX1_init) ∈ mW := mtb_1 (List.mem_of_getElem? (i := 36) rfl) rfl
set_option maxRecDepth 20000 in
theorem kiN_X1 : (Cond.methodLinkNest RX2 19 yX1_init RX2) ∈ mW := mtb_1 (List.mem_of_getElem? (i := 35) rfl) rfl
set_option maxRecDepth 20000 in
theorem kcd_X1 : (Cond.code yX1_init cX1_init 1 none) ∈ mW := mtb_1 (List.mem_of_getElem? (i := 37) rfl) rfl
set_option maxRecDepth 20000 in
theorem kim_X3 : (Cond.instanceMethod yX3_init) ∈ mW := mtb_2 (List.mem_of_getElem? (i := 142) rfl) rfl
set_option maxRecDepth 20000 in
theorem kiN_X3 : (Cond.methodLinkNest RL 133 yX3_init RL) ∈ mW := mtb_2 (List.mem_of_getElem? (i := 141) rfl) rfl
set_option maxRecDepth 20000 in
theorem kcd_X3 : (Cond.code yX3_init cX3_init 1 none) ∈ mW := mtb_2 (List.mem_of_getElem? (i := 143) rfl) rfl
set_option maxRecDepth 20000 in
theorem kim_X4 : (Cond.instanceMethod yX4_init) ∈ mW := mtb_5 (List.mem_of_getElem? (i := 50) rfl) rfl
set_option maxRecDepth 20000 in
theorem kil_X4 : (Cond.methodLink RL 132 yX4_init) ∈ mW := mtb_5 (List.mem_of_getElem? (i := 49) rfl) rfl
set_option maxRecDepth 20000 in
theorem kcd_X4 : (Cond.code yX4_init cX4_init 1 none) ∈ mW := mtb_5 (List.mem_of_getElem? (i := 51) rfl) rfl
theorem r_part {B C pl : va_W} (is : List Nat) (hn : va_nd is = true) (hs : is.map (fun i => B[i]?) = C.map some) (kk : mV X pc lv st (C ++ pl) k n) : mV X pc lv st (B ++ pl) k n := by
  obtain ⟨p, l, e, R', s, m, args, below, meth, c, Q, D, tys', A⟩ := X
  exact fun H locs ls hP hD hS hl => kk H locs ls (va_P.part hP is hs) (va_D.part hD is hn hs) hS hl
theorem r_objInit {idx : Nat} {a : Nat} (hX : mOK X own cc nL R hh tys) (hw : Cond.methodLink own idx Lib.objectInit ∈ mW) (hf : 1 ≤ R.frames) (hlo : (st.map fun v => v.category).sum + 12 ≤ R.locals) (hd : decode cc pc = .ok (.invokespecial idx, 3)) (kk : mV X (pc + 3) lv st ws k n) : mV X pc lv (.ref a :: st) ws k n := by
  obtain ⟨p, l, e, R', s, m, args, below, meth, c, Q, D, tys', A⟩ := X
  obtain ⟨hx, hb, hml, hR, hown, hts, hK, hty, hlk, hA, hst, hlt, htab⟩ := hX
  subst hR
  exact fun H locs ls hP hD hS hl => W.objInit hx hb hown (hts _ hw) (hts _ koi) (hts _ koc) (g := F0 m pc ls (.ref a :: st)) rfl hl.1 rfl hd hf (by show 2 * 0 + _ + 12 ≤ _; omega) (kk H locs ls hP hD hS hl)
theorem r_newA {N : Nat} {cA : ClassId} {at0 : ArrayType} {ty : FieldType} {a0 : vp_A} (hX : mOK X own cc nL R hh tys) (t0 : Nat) (ht : tys[t0]? = some (cA, ty)) (hw : Cond.arrayClass ty ∈ mW) (hat : newarray.typeOf at0 = ty) (hca : componentBytes ty ≤ 8) (hra : ∀ (U : State) (c1 c2 : ClassId), va_RA U c1 ty → va_RA U c2 ty → c1 = c2) (ha : ∀ cA : ClassId, vp_cell cA a0 = arrV cA N (fun _ => defaultValue ty)) (hN : N < 100000) (hd : decode cc pc = .ok (.newarray at0, 2)) (hc : k + 1 ≤ R.cells) (hs : n + N ≤ R.slots) (kk : ∀ q, mV X (pc + 2) lv (.ref q :: st) ((q, .inl (cA, a0)) :: ws) (k + 1) (n + N)) : mV X pc lv (.int (nI N) :: st) ws k n := by
  obtain ⟨p, l, e, R', s, m, args, below, meth, c, Q, D, tys', A⟩ := X
  obtain ⟨hx, hb, hml, hR, hown, hts, hK, hty, hlk, hA, hst, hlt, htab⟩ := hX
  subst hR
  subst hat
  refine fun H locs ls hP hD hS hl => va_newa (atype := at0) hx hb (hts _ hw) rfl hK hP hD hS hA (a0 := a0) (N' := N) ha (nI_pos (by omega)) (nI_clamp (by omega)) (Nat.le_trans (Nat.mul_le_mul (Nat.le_of_lt hN) hca) (by decide)) hc hs hd (fun q cA' H1 hK1 hP1 hD1 hS1 => ?_)
  have e : cA' = cA := hra s _ _ (hK1.2 tys.length (cA', newarray.typeOf at0) (by simp)).2 (hK.2 t0 _ ht).2
  subst e
  exact kk q H1 locs ls (va_P.swap (a := []) (b := ws) (c := [_]) hP1) (va_D.swap (a := []) (b := ws) (c := [_]) hD1) hS1 hl
theorem r_newL {N : Nat} {cA : ClassId} (hX : mOK X own cc nL R hh tys) (t0 : Nat) (ht : tys[t0]? = some (cA, .long)) (hN : N < 100000) (hd : decode cc pc = .ok (.newarray .long, 2)) (hc : k + 1 ≤ R.cells) (hs : n + N ≤ R.slots) (kk : ∀ q, mV X (pc + 2) lv (.ref q :: st) ((q, .inl (cA, N, .inr (.inl (fun _ => 0)))) :: ws) (k + 1) (n + N)) : mV X pc lv (.int (nI N) :: st) ws k n :=
  r_newA hX t0 ht ka_long rfl (by decide) (fun U c1 c2 h1 h2 => Option.some.inj ((show U.vm.findClass _ = some c1 from h1).symm.trans h2)) (fun cA => by rw [vp_cell_l]; rfl) hN hd hc hs kk
theorem r_newI {N : Nat} {cA : ClassId} (hX : mOK X own cc nL R hh tys) (t0 : Nat) (ht : tys[t0]? = some (cA, .int)) (hN : N < 100000) (hd : decode cc pc = .ok (.newarray .int, 2)) (hc : k + 1 ≤ R.cells) (hs : n + N ≤ R.slots) (kk : ∀ q, mV X (pc + 2) lv (.ref q :: st) ((q, .inl (cA, N, .inl (fun _ => 0))) :: ws) (k + 1) (n + N)) : mV X pc lv (.int (nI N) :: st) ws k n :=
  r_newA hX t0 ht ka_int rfl (by decide) (fun U c1 c2 h1 h2 => Option.some.inj ((show U.vm.findClass _ = some c1 from h1).symm.trans h2)) (fun cA => by rw [vp_cell_i]; rfl) hN hd hc hs kk
theorem r_newQ {N idx : Nat} {cA : ClassId} {C : String} (hX : mOK X own cc nL R hh tys) (t0 : Nat) (ht : tys[t0]? = some (cA, .object C)) (hw : Cond.classLink own idx C ∈ mW) (hw2 : Cond.arrayOver (.object C) ∈ mW) (hN : N < 100000) (hd : decode cc pc = .ok (.anewarray idx, 3)) (hc : k + 1 ≤ R.cells) (hs : n + N ≤ R.slots) (kk : ∀ q, mV X (pc + 3) lv (.ref q :: st) ((q, .inl (cA, N, .inr (.inr (.inr (.inr (fun _ => none)))))) :: ws) (k + 1) (n + N)) : mV X pc lv (.int (nI N) :: st) ws k n := by
  obtain ⟨p, l, e, R', s, m, args, below, meth, c, Q, D, tys', A⟩ := X
  obtain ⟨hx, hb, hml, hR, hown, hts, hK, hty, hlk, hA, hst, hlt, htab⟩ := hX
  subst hR
  refine fun H locs ls hP hD hS hl => va_newq hx hb hown (hts _ hw) (va_AO.of (hts _ hw2)) hK hP hD hS hA (N' := N) (nI_pos (by omega)) (nI_clamp (by omega)) (by omega) hc hs hd (fun q cA' H1 hK1 hP1 hD1 hS1 => ?_)
  have e : cA' = cA := by
    obtain ⟨_, _, _, _, _, h1⟩ := (hK.2 t0 _ ht).2
    obtain ⟨_, _, _, _, _, h2⟩ := (hK1.2 tys.length (cA', .object C) (by simp)).2
    exact Option.some.inj (h2.symm.trans h1)
  subst e
  exact kk q H1 locs ls (va_P.swap (a := []) (b := ws) (c := [_]) hP1) (va_D.swap (a := []) (b := ws) (c := [_]) hD1) hS1 hl
theorem r_astq {qk ci N v : Nat} {a : Nat} {cA : ClassId} {r : vw_C} {vs : List Value} {f : Nat → Option Nat} {i : Int32} (hX : mOK X own cc nL R hh tys) (q0 t0 : Nat) (he : ws[q0]? = some (a, .inl (cA, N, .inr (.inr (.inr (.inr f)))))) (ht : tys[t0]? = some (cA, .object r.1)) (hv : ws[qk]? = some (v, .inr (ci, vs))) (hc : vwCl[ci]? = some r) (hin : vp_in i N) (hd : decode cc pc = .ok (.aastore, 1)) (kk : mV X (pc + 1) lv st (ws.set q0 (a, .inl (cA, N, .inr (.inr (.inr (.inr (va_up f i.toNatClampNeg (some v)))))))) k n) : mV X pc lv (.ref v :: .int i :: .ref a :: st) ws k n := by
  obtain ⟨p, l, e, R', s, m, args, below, meth, c, Q, D, tys', A⟩ := X
  obtain ⟨hx, hb, hml, hR, hown, hts, hK, hty, hlk, hA, hst, hlt, htab⟩ := hX
  exact fun H locs ls hP hD hS hl => va_astq hx hb hK hP hD hS q0 t0 qk ci he ht hv hc hin hd (fun H1 locs1 hP1 hD1 hS1 => kk H1 locs1 ls hP1 hD1 hS1 hl)
theorem r_new {idx ci N : Nat} {C : String} {T : u_T} {ty : Nat → FieldType} {fs : List Value} (hX : mOK X own cc nL R hh tys) (hin : ∀ w ∈ u_ws C T N, w ∈ mW) (hty2 : ∀ j, j < N → parseFieldDescriptor (T j).2.2.1 = some (ty j)) (hw : Cond.classLink own idx C ∈ mW) (hw2 : Cond.instantiable C N ∈ mW) (hw3 : Cond.initialized C ∈ mW) (hc : vwCl[ci]? = some (C, T, N)) (hfs : ∀ j, j < N → defaultValue (ty j) = vp_V fs j) (hce : k + 1 ≤ R.cells) (hsl : n + N ≤ R.slots) (hd : decode cc pc = .ok (.new idx, 3)) (kk : ∀ q, mV X (pc + 3) lv (.ref q :: st) ((q, .inr (ci, fs)) :: ws) (k + 1) (n + N)) : mV X pc lv st ws k n := by
  obtain ⟨p, l, e, R', s, m, args, below, meth, c, Q, D, tys', A⟩ := X
  obtain ⟨hx, hb, hml, hR, hown, hts, hK, hty, hlk, hA, hst, hlt, htab⟩ := hX
  subst hR
  exact fun H locs ls hP hD hS hl => va_new hx hb hts hin ty hty2 hown (hts _ hw) (hts _ hw2) (hts _ hw3) hK hP hD hS hA hc hfs hce hsl hd (fun q H1 hP1 hD1 hS1 => kk q H1 locs ls (va_P.swap (a := []) (b := ws) (c := [_]) hP1) (va_D.swap (a := []) (b := ws) (c := [_]) hD1) hS1 hl)
end MK
def mWI (own : String) (idx : Nat) (y : MethodName) (b : ByteArray) (nL : Nat) (cnt : Nat) : Prop :=
  Cond.methodLink own idx y ∈ mW ∧ Cond.instanceMethod y ∈ mW ∧ Cond.initialized y.cls ∈ mW ∧ Cond.code y b nL none ∈ mW ∧ (y.cls ≠ "java/lang/invoke/MethodHandle" ∧ y.cls ≠ "java/lang/invoke/VarHandle") ∧ (parseMethodDescriptor y.desc).map (fun d => d.parameters.length) = some cnt ∧ y.name = "<init>"
def mWIN (own host : String) (idx : Nat) (y : MethodName) (b : ByteArray) (nL : Nat) (cnt : Nat) : Prop :=
  Cond.methodLinkNest own idx y host ∈ mW ∧ Cond.instanceMethod y ∈ mW ∧ Cond.initialized y.cls ∈ mW ∧ Cond.code y b nL none ∈ mW ∧ (y.cls ≠ "java/lang/invoke/MethodHandle" ∧ y.cls ≠ "java/lang/invoke/VarHandle") ∧ (parseMethodDescriptor y.desc).map (fun d => d.parameters.length) = some cnt ∧ y.name = "<init>"
section MK2
variable {X : mC} {own : String} {cc : ByteArray} {nL : Nat} {R : Room} {hh : List (Nat × Nat × Nat × Nat)} {tys : List (ClassId × FieldType)} {pc : Nat} {lv : List (Nat × Option Value)} {st : List Value} {ws : va_W} {k n : Nat}

theorem r_callI {y : MethodName} {b : ByteArray} {nL2 idx cnt a : Nat} {rm : Room} {as rest : List Value} {Φ2 : Option Value → va_W → Prop} (hX : mOK X own cc nL R hh tys) (hc : mCt tys y b nL2 none rm (.ref a :: as) ws Φ2 mNo) (hw : mWI own idx y b nL2 cnt) (hst0 : st = as.reverse ++ .ref a :: rest) (hlen : as.length = cnt) (hro : (rest.map fun v => v.category).sum ≤ 8) (hrm : rm.frames + 1 ≤ R.frames ∧ 8 + (nL2 + 11) + rm.locals ≤ R.locals) (hce : k + rm.cells ≤ R.cells ∧ n + rm.slots ≤ R.slots) (hd : decode cc pc = .ok (.invokespecial idx, 3)) (kk : ∀ v ws', Φ2 v ws' → mV X (pc + 3) lv (mPush v rest) ws' (k + rm.cells) (n + rm.slots)) : mV X pc lv st ws k n := by
  obtain ⟨p, l, e, R', s, m, args, below, meth, c, Q, D, tys', A⟩ := X
  obtain ⟨hx, hb, hml, hR, hown, hts, hK, hty, hlk, hA, hst, hlt, htab⟩ := hX
  obtain ⟨w1, w2, w3, w4, w5, w6, w7⟩ := hw
  subst hR
  intro H locs ls hP hD hS hl
  have hrun := va_runI (own := own) (index := idx) (cells := k) (slots := n) (locs := locs) (e := e) (below := below) (meth := meth) (rest := rest) (g := F0 m pc ls st) ⟨hx, hb, hml, hown, hts⟩ (mMet (hc l D A hlt) (fun E st t h => by obtain ⟨_, h, _⟩ := h; exact h)) ⟨⟨rfl, rfl, hrm.1, hrm.2, mWords hts w4, List.mem_cons_self, hts _ w4, hts _ w3, w5, mCount w6, hts _ w1⟩, w7, hts _ w2⟩ ⟨mU_blind, fun U hU hW => ⟨rfl, mU_at hP hD hS hK hA hst hU hW⟩⟩ rfl hlen (hl.1.trans hml) hst0 (lv_room hro) hd hce
  intro T hT Y
  obtain ⟨v, st₀, t, T', L, h0, Y', hL, e1, e2, ⟨v', ws', hv, hp, hP', hD', hF⟩, stp⟩ := hrun T hT Y
  cases hv
  obtain ⟨-, -, k3⟩ := vx_keep h0 e1 hS (fun _ _ h => h) (fun _ h => h) hL hF
  obtain ⟨t2, a1, b1⟩ := kk v ws' hp T'.heap (locs ++ L) ls (by rw [e1]; exact hP') hD' k3 hl T' rfl Y'
  rw [← mPush_eq] at a1
  exact ⟨t2, stp t2 a1, b1⟩

theorem r_callIN {host : String} {y : MethodName} {b : ByteArray} {nL2 idx cnt a : Nat} {rm : Room} {as rest : List Value} {Φ2 : Option Value → va_W → Prop} (hX : mOK X own cc nL R hh tys) (hc : mCt tys y b nL2 none rm (.ref a :: as) ws Φ2 mNo) (hw : mWIN own host idx y b nL2 cnt) (hst0 : st = as.reverse ++ .ref a :: rest) (hlen : as.length = cnt) (hro : (rest.map fun v => v.category).sum ≤ 8) (hrm : rm.frames + 1 ≤ R.frames ∧ 8 + (nL2 + 11) + rm.locals ≤ R.locals) (hce : k + rm.cells ≤ R.cells ∧ n + rm.slots ≤ R.slots) (hd : decode cc pc = .ok (.invokespecial idx, 3)) (kk : ∀ v ws', Φ2 v ws' → mV X (pc + 3) lv (mPush v rest) ws' (k + rm.cells) (n + rm.slots)) : mV X pc lv st ws k n := by
  obtain ⟨p, l, e, R', s, m, args, below, meth, c, Q, D, tys', A⟩ := X
  obtain ⟨hx, hb, hml, hR, hown, hts, hK, hty, hlk, hA, hst, hlt, htab⟩ := hX
  obtain ⟨w1, w2, w3, w4, w5, w6, w7⟩ := hw
  subst hR
  intro H locs ls hP hD hS hl
  have hrun := va_runIN (host := host) (own := own) (index := idx) (cells := k) (slots := n) (locs := locs) (e := e) (below := below) (meth := meth) (rest := rest) (g := F0 m pc ls st) ⟨hx, hb, hml, hown, hts⟩ (mMet (hc l D A hlt) (fun E st t h => by obtain ⟨_, h, _⟩ := h; exact h)) ⟨⟨⟨rfl, rfl, hrm.1, hrm.2, mWords hts w4, List.mem_cons_self⟩, hts _ w4, hts _ w3, w5, mCount w6, hts _ w1⟩, w7, hts _ w2⟩ ⟨mU_blind, fun U hU hW => ⟨rfl, mU_at hP hD hS hK hA hst hU hW⟩⟩ rfl hlen (hl.1.trans hml) hst0 (lv_room hro) hd hce
  intro T hT Y
  obtain ⟨v, st₀, t, T', L, h0, Y', hL, e1, e2, ⟨v', ws', hv, hp, hP', hD', hF⟩, stp⟩ := hrun T hT Y
  cases hv
  obtain ⟨-, -, k3⟩ := vx_keep h0 e1 hS (fun _ _ h => h) (fun _ h => h) hL hF
  obtain ⟨t2, a1, b1⟩ := kk v ws' hp T'.heap (locs ++ L) ls (by rw [e1]; exact hP') hD' k3 hl T' rfl Y'
  rw [← mPush_eq] at a1
  exact ⟨t2, stp t2 a1, b1⟩

end MK2
theorem mCt.ofI {tys : List (ClassId × FieldType)} {y : MethodName} {cc : ByteArray} {nL : Nat} {ret : Option FieldType} {rm : Room} {as : List Value} {ws : va_W} {Φ : Option Value → va_W → Prop} {Ψ : String → va_W → Prop} (hy : plainFor y = true) (hyn : y.name = "<init>") (hlen : (lg_sl as).length ≤ nL)
    (body : ∀ X, mOK X y.cls cc nL rm [] tys → mIni X → mE X Φ Ψ ret rm.cells rm.slots → mV X 0 (mlv as) [] ws 0 0) : mCt tys y cc nL ret rm as ws Φ Ψ := by
  intro l D A hst
  refine vx_ofWF (cc := cc) (maxL := nL) (ret := ret) hy rfl ?_
  intro p e s m args below meth c s₁ B hml ht hv
  obtain ⟨rfl, hP, hD, hK, hA, hs⟩ := hv
  have hts := atoms_spec (ws := Cond.code y cc nL ret :: mW) B.pre
  have htab : c.exceptionTable.toList = tableOf [] := List.eq_nil_iff_forall_not_mem.mpr (fun x hx => ht x hx)
  have h0 := body (p, l, e, _, s, m, _, below, meth, c, _, D, tys, A) ⟨B.exec, B.bytes, hml, rfl, findClass_of_methodNamed B.named, fun w hw => hts w (List.mem_cons_of_mem _ hw), hK, rfl, B.notSynchronized, hA, hs, hst, htab⟩ ((name_of_methodNamed B.named B.method).1.trans hyn) ⟨B.returns, rfl⟩
  have hl := lv_entry as hlen
  rw [lg_entry_eq]
  exact h0 s.heap [] _ hP hD va_S.rf ⟨hl.1.trans hml.symm, hl.2.1, fun i v h => hl.2.2 (i, v) (lget_mem h)⟩

theorem kI_X1 : mWIN RX2 RX2 19 yX1_init cX1_init 1 0 := ⟨kiN_X1, kim_X1, kt_X1, kcd_X1, ⟨by decide +kernel, by decide +kernel⟩, by decide +kernel, rfl⟩
theorem kI_X2 : mWI RL 129 yX2_init cX2_init 1 0 := ⟨kil_X2, kim_X2, kt_X2, kcd_X2, ⟨by decide +kernel, by decide +kernel⟩, by decide +kernel, rfl⟩
theorem kI_X3 : mWIN RL RL 133 yX3_init cX3_init 1 0 := ⟨kiN_X3, kim_X3, kt_X3, kcd_X3, ⟨by decide +kernel, by decide +kernel⟩, by decide +kernel, rfl⟩
theorem kI_X4 : mWI RL 132 yX4_init cX4_init 1 0 := ⟨kil_X4, kim_X4, kt_X4, kcd_X4, ⟨by decide +kernel, by decide +kernel⟩, by decide +kernel, rfl⟩
end
-- 31 init
section
/-! The constructors. (Rows by a program of this repository.) -/
theorem r_arrq {X : mC} {pc : Nat} {lv : List (Nat × Option Value)} {st : List Value} {ws : va_W} {k n a N : Nat} {cA : ClassId} {f g : Nat → Option Nat} (q0 : Nat) (he : ws[q0]? = some (a, .inl (cA, N, .inr (.inr (.inr (.inr f)))))) (hfg : ∀ j, j < N → f j = g j) (kk : mV X pc lv st (ws.set q0 (a, .inl (cA, N, .inr (.inr (.inr (.inr g)))))) k n) : mV X pc lv st ws k n := by
  obtain ⟨p, l, e, R', s, m, args, below, meth, c, Q, D, tys', A⟩ := X
  have ec : vp_cell cA (N, .inr (.inr (.inr (.inr f)))) = vp_cell cA (N, .inr (.inr (.inr (.inr g)))) := by
    have e9 : (fun j : Fin N => va_rf (f j.val)) = (fun j : Fin N => va_rf (g j.val)) := funext fun j => by rw [hfg j.val j.isLt]
    rw [vp_cell_q, vp_cell_q]
    simp only [arrV, e9]
  exact fun H locs ls hP hD hS hl => kk H locs ls (hP.set hD he (by
    have h0 : H[a]? = some (vp_cell cA (N, .inr (.inr (.inr (.inr f))))) := hP q0 _ he
    rw [ec] at h0
    exact h0) (fun q _ => rfl)) (hD.set he) hS hl
theorem dX1_init_v0 : (cX1_init.data.toList.drop 0).take 16 = [42, 183, 0, 3, 177] := by decide +kernel
theorem dX1_init_0 : decode cX1_init 0 = .ok (.aload_n 0, 1) := dk_42 (dq_lk dX1_init_v0 (r := 0) (x := 42) rfl)
theorem dX1_init_1 : decode cX1_init 1 = .ok (.invokespecial 3, 3) := dk_183 (dq_lk dX1_init_v0 (r := 1) (x := 183) rfl) (dq_lk dX1_init_v0 (r := 2) (x := 0) rfl) (dq_lk dX1_init_v0 (r := 3) (x := 3) rfl)
theorem dX1_init_4 : decode cX1_init 4 = .ok (.return_, 1) := dk_177 (dq_lk dX1_init_v0 (r := 4) (x := 177) rfl)
theorem c_X1_init (tys : List (ClassId × FieldType)) (ws : va_W) (a : Nat) : mCt tys yX1_init cX1_init 1 none ⟨1, 0, 0, 12⟩ [.ref a] ws (fun v ws' => v = none ∧ ws' = ws) mNo := by
  refine mCt.of (by decide +kernel) (Nat.le_of_ble_eq_true rfl) (fun X hX hE => ?_)
  replace hX : mOK X RX1 cX1_init 1 ⟨1, 0, 0, 12⟩ [] tys := hX
  refine r_aload_n hX dX1_init_0 rfl rfl (r_objInit hX kob_X1 (Nat.le_of_ble_eq_true rfl) (Nat.le_of_ble_eq_true rfl) dX1_init_1 ?_)
  exact r_vret hX hE dX1_init_4 (Nat.le_of_ble_eq_true rfl) (Nat.le_of_ble_eq_true rfl) ⟨rfl, rfl⟩
theorem dX3_init_v0 : (cX3_init.data.toList.drop 0).take 16 = [42, 183, 0, 1, 177] := by decide +kernel
theorem dX3_init_0 : decode cX3_init 0 = .ok (.aload_n 0, 1) := dk_42 (dq_lk dX3_init_v0 (r := 0) (x := 42) rfl)
theorem dX3_init_1 : decode cX3_init 1 = .ok (.invokespecial 1, 3) := dk_183 (dq_lk dX3_init_v0 (r := 1) (x := 183) rfl) (dq_lk dX3_init_v0 (r := 2) (x := 0) rfl) (dq_lk dX3_init_v0 (r := 3) (x := 1) rfl)
theorem dX3_init_4 : decode cX3_init 4 = .ok (.return_, 1) := dk_177 (dq_lk dX3_init_v0 (r := 4) (x := 177) rfl)
theorem c_X3_init (tys : List (ClassId × FieldType)) (ws : va_W) (a : Nat) : mCt tys yX3_init cX3_init 1 none ⟨1, 0, 0, 12⟩ [.ref a] ws (fun v ws' => v = none ∧ ws' = ws) mNo := by
  refine mCt.of (by decide +kernel) (Nat.le_of_ble_eq_true rfl) (fun X hX hE => ?_)
  replace hX : mOK X RX3 cX3_init 1 ⟨1, 0, 0, 12⟩ [] tys := hX
  refine r_aload_n hX dX3_init_0 rfl rfl (r_objInit hX kob_X3 (Nat.le_of_ble_eq_true rfl) (Nat.le_of_ble_eq_true rfl) dX3_init_1 ?_)
  exact r_vret hX hE dX3_init_4 (Nat.le_of_ble_eq_true rfl) (Nat.le_of_ble_eq_true rfl) ⟨rfl, rfl⟩
theorem mX1z : ∀ j, j < 3 → defaultValue (tyX1 j) = vp_V [.long 0, .int 0, .int 0] j := by
  intro j hj
  have h9 : j = 0 ∨ j = 1 ∨ j = 2 := by omega
  rcases h9 with rfl | rfl | rfl <;> rfl
def mO0 : Nat → Int32 := upd (upd (upd (upd (fun _ => 0) (0 : Int32).toNatClampNeg 0) (1 : Int32).toNatClampNeg 3600) (2 : Int32).toNatClampNeg (-18000)) (3 : Int32).toNatClampNeg 20700
def mN0 : Nat → Int64 := vp_updL (vp_updL (vp_updL (vp_updL (fun _ => 0) (0 : Int32).toNatClampNeg 0) (1 : Int32).toNatClampNeg 0) (2 : Int32).toNatClampNeg 0) (3 : Int32).toNatClampNeg 0
def mK0 : mK := (mO0, mN0, fun _ => (0, 0, 0), 0, 0)
def mJ0 : mJ := ((0, 0, 0), mO0, fun _ => 0, fun _ => 0, fun _ => 0, fun _ => 0, fun _ => 0)
theorem mfor4 {α : Type} {f g : Nat → α} (h0 : f 0 = g 0) (h1 : f 1 = g 1) (h2 : f 2 = g 2) (h3 : f 3 = g 3) : ∀ j, j < 4 → f j = g j := by
  intro j hj
  have h9 : j = 0 ∨ j = 1 ∨ j = 2 ∨ j = 3 := by omega
  rcases h9 with rfl | rfl | rfl | rfl <;> assumption
theorem mfor3 {α : Type} {f g : Nat → α} (h0 : f 0 = g 0) (h1 : f 1 = g 1) (h2 : f 2 = g 2) : ∀ j, j < 3 → f j = g j := by
  intro j hj
  have h9 : j = 0 ∨ j = 1 ∨ j = 2 := by omega
  rcases h9 with rfl | rfl | rfl <;> assumption
theorem dX2_init_w0 : (cX2_init.data.toList.drop 0).take 64 = [42, 183, 0, 3, 42, 7, 188, 10, 89, 3, 3, 79, 89, 4, 17, 14, 16, 79, 89, 5, 17, 185, 176, 79, 89, 6, 17, 80, 220, 79, 181, 0, 9, 42, 7, 188, 11, 89, 3, 9, 80, 89, 4, 9, 80, 89, 5, 9, 80, 89, 6, 9, 80, 181, 0, 13, 42, 7, 189, 0, 17, 89, 3, 187] := by decide +kernel
theorem dX2_init_w1 : (cX2_init.data.toList.drop 64).take 64 = [0, 17, 89, 183, 0, 19, 83, 89, 4, 187, 0, 17, 89, 183, 0, 19, 83, 89, 5, 187, 0, 17, 89, 183, 0, 19, 83, 89, 6, 187, 0, 17, 89, 183, 0, 19, 83, 181, 0, 20, 42, 6, 189, 0, 17, 89, 3, 187, 0, 17, 89, 183, 0, 19, 83, 89, 4, 187, 0, 17, 89, 183, 0, 19] := by decide +kernel
theorem dX2_init_w2 : (cX2_init.data.toList.drop 128).take 64 = [83, 89, 5, 187, 0, 17, 89, 183, 0, 19, 83, 181, 0, 24, 42, 187, 0, 17, 89, 183, 0, 19, 181, 0, 27, 42, 187, 0, 17, 89, 183, 0, 19, 181, 0, 31, 177] := by decide +kernel
theorem dX2_init_v0 : (cX2_init.data.toList.drop 0).take 16 = [42, 183, 0, 3, 42, 7, 188, 10, 89, 3, 3, 79, 89, 4, 17, 14] := dq_sub (n := 0) (j := 0) dX2_init_w0 (by decide) rfl
theorem dX2_init_v1 : (cX2_init.data.toList.drop 16).take 16 = [16, 79, 89, 5, 17, 185, 176, 79, 89, 6, 17, 80, 220, 79, 181, 0] := dq_sub (n := 0) (j := 16) dX2_init_w0 (by decide) rfl
theorem dX2_init_v2 : (cX2_init.data.toList.drop 32).take 16 = [9, 42, 7, 188, 11, 89, 3, 9, 80, 89, 4, 9, 80, 89, 5, 9] := dq_sub (n := 0) (j := 32) dX2_init_w0 (by decide) rfl
theorem dX2_init_v3 : (cX2_init.data.toList.drop 48).take 16 = [80, 89, 6, 9, 80, 181, 0, 13, 42, 7, 189, 0, 17, 89, 3, 187] := dq_sub (n := 0) (j := 48) dX2_init_w0 (by decide) rfl
theorem dX2_init_v4 : (cX2_init.data.toList.drop 64).take 16 = [0, 17, 89, 183, 0, 19, 83, 89, 4, 187, 0, 17, 89, 183, 0, 19] := dq_sub (n := 64) (j := 0) dX2_init_w1 (by decide) rfl
theorem dX2_init_v5 : (cX2_init.data.toList.drop 80).take 16 = [83, 89, 5, 187, 0, 17, 89, 183, 0, 19, 83, 89, 6, 187, 0, 17] := dq_sub (n := 64) (j := 16) dX2_init_w1 (by decide) rfl
theorem dX2_init_v6 : (cX2_init.data.toList.drop 96).take 16 = [89, 183, 0, 19, 83, 181, 0, 20, 42, 6, 189, 0, 17, 89, 3, 187] := dq_sub (n := 64) (j := 32) dX2_init_w1 (by decide) rfl
theorem dX2_init_v7 : (cX2_init.data.toList.drop 112).take 16 = [0, 17, 89, 183, 0, 19, 83, 89, 4, 187, 0, 17, 89, 183, 0, 19] := dq_sub (n := 64) (j := 48) dX2_init_w1 (by decide) rfl
theorem dX2_init_v8 : (cX2_init.data.toList.drop 128).take 16 = [83, 89, 5, 187, 0, 17, 89, 183, 0, 19, 83, 181, 0, 24, 42, 187] := dq_sub (n := 128) (j := 0) dX2_init_w2 (by decide) rfl
theorem dX2_init_v9 : (cX2_init.data.toList.drop 144).take 16 = [0, 17, 89, 183, 0, 19, 181, 0, 27, 42, 187, 0, 17, 89, 183, 0] := dq_sub (n := 128) (j := 16) dX2_init_w2 (by decide) rfl
theorem dX2_init_v10 : (cX2_init.data.toList.drop 160).take 16 = [19, 181, 0, 31, 177] := dq_sub (n := 128) (j := 32) dX2_init_w2 (by decide) rfl
theorem dX2_init_0 : decode cX2_init 0 = .ok (.aload_n 0, 1) := dk_42 (dq_lk dX2_init_v0 (r := 0) (x := 42) rfl)
theorem dX2_init_1 : decode cX2_init 1 = .ok (.invokespecial 3, 3) := dk_183 (dq_lk dX2_init_v0 (r := 1) (x := 183) rfl) (dq_lk dX2_init_v0 (r := 2) (x := 0) rfl) (dq_lk dX2_init_v0 (r := 3) (x := 3) rfl)
theorem dX2_init_4 : decode cX2_init 4 = .ok (.aload_n 0, 1) := dk_42 (dq_lk dX2_init_v0 (r := 4) (x := 42) rfl)
theorem dX2_init_5 : decode cX2_init 5 = .ok (.iconst 4, 1) := dk_7 (dq_lk dX2_init_v0 (r := 5) (x := 7) rfl)
theorem dX2_init_6 : decode cX2_init 6 = .ok (.newarray .int, 2) := by decide +kernel
theorem dX2_init_8 : decode cX2_init 8 = .ok (.dup, 1) := dk_89 (dq_lk dX2_init_v0 (r := 8) (x := 89) rfl)
theorem dX2_init_9 : decode cX2_init 9 = .ok (.iconst 0, 1) := dk_3 (dq_lk dX2_init_v0 (r := 9) (x := 3) rfl)
theorem dX2_init_10 : decode cX2_init 10 = .ok (.iconst 0, 1) := dk_3 (dq_lk dX2_init_v0 (r := 10) (x := 3) rfl)
theorem dX2_init_11 : decode cX2_init 11 = .ok (.iastore, 1) := dk_79 (dq_lk dX2_init_v0 (r := 11) (x := 79) rfl)
theorem dX2_init_12 : decode cX2_init 12 = .ok (.dup, 1) := dk_89 (dq_lk dX2_init_v0 (r := 12) (x := 89) rfl)
theorem dX2_init_13 : decode cX2_init 13 = .ok (.iconst 1, 1) := dk_4 (dq_lk dX2_init_v0 (r := 13) (x := 4) rfl)
theorem dX2_init_14 : decode cX2_init 14 = .ok (.sipush 3600, 3) := dk_17 (dq_lk dX2_init_v0 (r := 14) (x := 17) rfl) (dq_lk dX2_init_v0 (r := 15) (x := 14) rfl) (dq_lk dX2_init_v1 (r := 0) (x := 16) rfl) (by decide +kernel)
theorem dX2_init_17 : decode cX2_init 17 = .ok (.iastore, 1) := dk_79 (dq_lk dX2_init_v1 (r := 1) (x := 79) rfl)
theorem dX2_init_18 : decode cX2_init 18 = .ok (.dup, 1) := dk_89 (dq_lk dX2_init_v1 (r := 2) (x := 89) rfl)
theorem dX2_init_19 : decode cX2_init 19 = .ok (.iconst 2, 1) := dk_5 (dq_lk dX2_init_v1 (r := 3) (x := 5) rfl)
theorem dX2_init_20 : decode cX2_init 20 = .ok (.sipush (-18000), 3) := dk_17 (dq_lk dX2_init_v1 (r := 4) (x := 17) rfl) (dq_lk dX2_init_v1 (r := 5) (x := 185) rfl) (dq_lk dX2_init_v1 (r := 6) (x := 176) rfl) (by decide +kernel)
theorem dX2_init_23 : decode cX2_init 23 = .ok (.iastore, 1) := dk_79 (dq_lk dX2_init_v1 (r := 7) (x := 79) rfl)
theorem dX2_init_24 : decode cX2_init 24 = .ok (.dup, 1) := dk_89 (dq_lk dX2_init_v1 (r := 8) (x := 89) rfl)
theorem dX2_init_25 : decode cX2_init 25 = .ok (.iconst 3, 1) := dk_6 (dq_lk dX2_init_v1 (r := 9) (x := 6) rfl)
theorem dX2_init_26 : decode cX2_init 26 = .ok (.sipush 20700, 3) := dk_17 (dq_lk dX2_init_v1 (r := 10) (x := 17) rfl) (dq_lk dX2_init_v1 (r := 11) (x := 80) rfl) (dq_lk dX2_init_v1 (r := 12) (x := 220) rfl) (by decide +kernel)
theorem dX2_init_29 : decode cX2_init 29 = .ok (.iastore, 1) := dk_79 (dq_lk dX2_init_v1 (r := 13) (x := 79) rfl)
theorem dX2_init_30 : decode cX2_init 30 = .ok (.putfield 9, 3) := dk_181 (dq_lk dX2_init_v1 (r := 14) (x := 181) rfl) (dq_lk dX2_init_v1 (r := 15) (x := 0) rfl) (dq_lk dX2_init_v2 (r := 0) (x := 9) rfl)
theorem dX2_init_33 : decode cX2_init 33 = .ok (.aload_n 0, 1) := dk_42 (dq_lk dX2_init_v2 (r := 1) (x := 42) rfl)
theorem dX2_init_34 : decode cX2_init 34 = .ok (.iconst 4, 1) := dk_7 (dq_lk dX2_init_v2 (r := 2) (x := 7) rfl)
theorem dX2_init_35 : decode cX2_init 35 = .ok (.newarray .long, 2) := by decide +kernel
theorem dX2_init_37 : decode cX2_init 37 = .ok (.dup, 1) := dk_89 (dq_lk dX2_init_v2 (r := 5) (x := 89) rfl)
theorem dX2_init_38 : decode cX2_init 38 = .ok (.iconst 0, 1) := dk_3 (dq_lk dX2_init_v2 (r := 6) (x := 3) rfl)
theorem dX2_init_39 : decode cX2_init 39 = .ok (.lconst 0, 1) := dk_9 (dq_lk dX2_init_v2 (r := 7) (x := 9) rfl)
theorem dX2_init_40 : decode cX2_init 40 = .ok (.lastore, 1) := dk_80 (dq_lk dX2_init_v2 (r := 8) (x := 80) rfl)
theorem dX2_init_41 : decode cX2_init 41 = .ok (.dup, 1) := dk_89 (dq_lk dX2_init_v2 (r := 9) (x := 89) rfl)
theorem dX2_init_42 : decode cX2_init 42 = .ok (.iconst 1, 1) := dk_4 (dq_lk dX2_init_v2 (r := 10) (x := 4) rfl)
theorem dX2_init_43 : decode cX2_init 43 = .ok (.lconst 0, 1) := dk_9 (dq_lk dX2_init_v2 (r := 11) (x := 9) rfl)
theorem dX2_init_44 : decode cX2_init 44 = .ok (.lastore, 1) := dk_80 (dq_lk dX2_init_v2 (r := 12) (x := 80) rfl)
theorem dX2_init_45 : decode cX2_init 45 = .ok (.dup, 1) := dk_89 (dq_lk dX2_init_v2 (r := 13) (x := 89) rfl)
theorem dX2_init_46 : decode cX2_init 46 = .ok (.iconst 2, 1) := dk_5 (dq_lk dX2_init_v2 (r := 14) (x := 5) rfl)
theorem dX2_init_47 : decode cX2_init 47 = .ok (.lconst 0, 1) := dk_9 (dq_lk dX2_init_v2 (r := 15) (x := 9) rfl)
theorem dX2_init_48 : decode cX2_init 48 = .ok (.lastore, 1) := dk_80 (dq_lk dX2_init_v3 (r := 0) (x := 80) rfl)
theorem dX2_init_49 : decode cX2_init 49 = .ok (.dup, 1) := dk_89 (dq_lk dX2_init_v3 (r := 1) (x := 89) rfl)
theorem dX2_init_50 : decode cX2_init 50 = .ok (.iconst 3, 1) := dk_6 (dq_lk dX2_init_v3 (r := 2) (x := 6) rfl)
theorem dX2_init_51 : decode cX2_init 51 = .ok (.lconst 0, 1) := dk_9 (dq_lk dX2_init_v3 (r := 3) (x := 9) rfl)
theorem dX2_init_52 : decode cX2_init 52 = .ok (.lastore, 1) := dk_80 (dq_lk dX2_init_v3 (r := 4) (x := 80) rfl)
theorem dX2_init_53 : decode cX2_init 53 = .ok (.putfield 13, 3) := dk_181 (dq_lk dX2_init_v3 (r := 5) (x := 181) rfl) (dq_lk dX2_init_v3 (r := 6) (x := 0) rfl) (dq_lk dX2_init_v3 (r := 7) (x := 13) rfl)
theorem dX2_init_56 : decode cX2_init 56 = .ok (.aload_n 0, 1) := dk_42 (dq_lk dX2_init_v3 (r := 8) (x := 42) rfl)
theorem dX2_init_57 : decode cX2_init 57 = .ok (.iconst 4, 1) := dk_7 (dq_lk dX2_init_v3 (r := 9) (x := 7) rfl)
theorem dX2_init_58 : decode cX2_init 58 = .ok (.anewarray 17, 3) := dk_189 (dq_lk dX2_init_v3 (r := 10) (x := 189) rfl) (dq_lk dX2_init_v3 (r := 11) (x := 0) rfl) (dq_lk dX2_init_v3 (r := 12) (x := 17) rfl)
theorem dX2_init_61 : decode cX2_init 61 = .ok (.dup, 1) := dk_89 (dq_lk dX2_init_v3 (r := 13) (x := 89) rfl)
theorem dX2_init_62 : decode cX2_init 62 = .ok (.iconst 0, 1) := dk_3 (dq_lk dX2_init_v3 (r := 14) (x := 3) rfl)
theorem dX2_init_63 : decode cX2_init 63 = .ok (.new 17, 3) := dk_187 (dq_lk dX2_init_v3 (r := 15) (x := 187) rfl) (dq_lk dX2_init_v4 (r := 0) (x := 0) rfl) (dq_lk dX2_init_v4 (r := 1) (x := 17) rfl)
theorem dX2_init_66 : decode cX2_init 66 = .ok (.dup, 1) := dk_89 (dq_lk dX2_init_v4 (r := 2) (x := 89) rfl)
theorem dX2_init_67 : decode cX2_init 67 = .ok (.invokespecial 19, 3) := dk_183 (dq_lk dX2_init_v4 (r := 3) (x := 183) rfl) (dq_lk dX2_init_v4 (r := 4) (x := 0) rfl) (dq_lk dX2_init_v4 (r := 5) (x := 19) rfl)
theorem dX2_init_70 : decode cX2_init 70 = .ok (.aastore, 1) := dk_83 (dq_lk dX2_init_v4 (r := 6) (x := 83) rfl)
theorem dX2_init_71 : decode cX2_init 71 = .ok (.dup, 1) := dk_89 (dq_lk dX2_init_v4 (r := 7) (x := 89) rfl)
theorem dX2_init_72 : decode cX2_init 72 = .ok (.iconst 1, 1) := dk_4 (dq_lk dX2_init_v4 (r := 8) (x := 4) rfl)
theorem dX2_init_73 : decode cX2_init 73 = .ok (.new 17, 3) := dk_187 (dq_lk dX2_init_v4 (r := 9) (x := 187) rfl) (dq_lk dX2_init_v4 (r := 10) (x := 0) rfl) (dq_lk dX2_init_v4 (r := 11) (x := 17) rfl)
theorem dX2_init_76 : decode cX2_init 76 = .ok (.dup, 1) := dk_89 (dq_lk dX2_init_v4 (r := 12) (x := 89) rfl)
theorem dX2_init_77 : decode cX2_init 77 = .ok (.invokespecial 19, 3) := dk_183 (dq_lk dX2_init_v4 (r := 13) (x := 183) rfl) (dq_lk dX2_init_v4 (r := 14) (x := 0) rfl) (dq_lk dX2_init_v4 (r := 15) (x := 19) rfl)
theorem dX2_init_80 : decode cX2_init 80 = .ok (.aastore, 1) := dk_83 (dq_lk dX2_init_v5 (r := 0) (x := 83) rfl)
theorem dX2_init_81 : decode cX2_init 81 = .ok (.dup, 1) := dk_89 (dq_lk dX2_init_v5 (r := 1) (x := 89) rfl)
theorem dX2_init_82 : decode cX2_init 82 = .ok (.iconst 2, 1) := dk_5 (dq_lk dX2_init_v5 (r := 2) (x := 5) rfl)
theorem dX2_init_83 : decode cX2_init 83 = .ok (.new 17, 3) := dk_187 (dq_lk dX2_init_v5 (r := 3) (x := 187) rfl) (dq_lk dX2_init_v5 (r := 4) (x := 0) rfl) (dq_lk dX2_init_v5 (r := 5) (x := 17) rfl)
theorem dX2_init_86 : decode cX2_init 86 = .ok (.dup, 1) := dk_89 (dq_lk dX2_init_v5 (r := 6) (x := 89) rfl)
theorem dX2_init_87 : decode cX2_init 87 = .ok (.invokespecial 19, 3) := dk_183 (dq_lk dX2_init_v5 (r := 7) (x := 183) rfl) (dq_lk dX2_init_v5 (r := 8) (x := 0) rfl) (dq_lk dX2_init_v5 (r := 9) (x := 19) rfl)
theorem dX2_init_90 : decode cX2_init 90 = .ok (.aastore, 1) := dk_83 (dq_lk dX2_init_v5 (r := 10) (x := 83) rfl)
theorem dX2_init_91 : decode cX2_init 91 = .ok (.dup, 1) := dk_89 (dq_lk dX2_init_v5 (r := 11) (x := 89) rfl)
theorem dX2_init_92 : decode cX2_init 92 = .ok (.iconst 3, 1) := dk_6 (dq_lk dX2_init_v5 (r := 12) (x := 6) rfl)
theorem dX2_init_93 : decode cX2_init 93 = .ok (.new 17, 3) := dk_187 (dq_lk dX2_init_v5 (r := 13) (x := 187) rfl) (dq_lk dX2_init_v5 (r := 14) (x := 0) rfl) (dq_lk dX2_init_v5 (r := 15) (x := 17) rfl)
theorem dX2_init_96 : decode cX2_init 96 = .ok (.dup, 1) := dk_89 (dq_lk dX2_init_v6 (r := 0) (x := 89) rfl)
theorem dX2_init_97 : decode cX2_init 97 = .ok (.invokespecial 19, 3) := dk_183 (dq_lk dX2_init_v6 (r := 1) (x := 183) rfl) (dq_lk dX2_init_v6 (r := 2) (x := 0) rfl) (dq_lk dX2_init_v6 (r := 3) (x := 19) rfl)
theorem dX2_init_100 : decode cX2_init 100 = .ok (.aastore, 1) := dk_83 (dq_lk dX2_init_v6 (r := 4) (x := 83) rfl)
theorem dX2_init_101 : decode cX2_init 101 = .ok (.putfield 20, 3) := dk_181 (dq_lk dX2_init_v6 (r := 5) (x := 181) rfl) (dq_lk dX2_init_v6 (r := 6) (x := 0) rfl) (dq_lk dX2_init_v6 (r := 7) (x := 20) rfl)
theorem dX2_init_104 : decode cX2_init 104 = .ok (.aload_n 0, 1) := dk_42 (dq_lk dX2_init_v6 (r := 8) (x := 42) rfl)
theorem dX2_init_105 : decode cX2_init 105 = .ok (.iconst 3, 1) := dk_6 (dq_lk dX2_init_v6 (r := 9) (x := 6) rfl)
theorem dX2_init_106 : decode cX2_init 106 = .ok (.anewarray 17, 3) := dk_189 (dq_lk dX2_init_v6 (r := 10) (x := 189) rfl) (dq_lk dX2_init_v6 (r := 11) (x := 0) rfl) (dq_lk dX2_init_v6 (r := 12) (x := 17) rfl)
theorem dX2_init_109 : decode cX2_init 109 = .ok (.dup, 1) := dk_89 (dq_lk dX2_init_v6 (r := 13) (x := 89) rfl)
theorem dX2_init_110 : decode cX2_init 110 = .ok (.iconst 0, 1) := dk_3 (dq_lk dX2_init_v6 (r := 14) (x := 3) rfl)
theorem dX2_init_111 : decode cX2_init 111 = .ok (.new 17, 3) := dk_187 (dq_lk dX2_init_v6 (r := 15) (x := 187) rfl) (dq_lk dX2_init_v7 (r := 0) (x := 0) rfl) (dq_lk dX2_init_v7 (r := 1) (x := 17) rfl)
theorem dX2_init_114 : decode cX2_init 114 = .ok (.dup, 1) := dk_89 (dq_lk dX2_init_v7 (r := 2) (x := 89) rfl)
theorem dX2_init_115 : decode cX2_init 115 = .ok (.invokespecial 19, 3) := dk_183 (dq_lk dX2_init_v7 (r := 3) (x := 183) rfl) (dq_lk dX2_init_v7 (r := 4) (x := 0) rfl) (dq_lk dX2_init_v7 (r := 5) (x := 19) rfl)
theorem dX2_init_118 : decode cX2_init 118 = .ok (.aastore, 1) := dk_83 (dq_lk dX2_init_v7 (r := 6) (x := 83) rfl)
theorem dX2_init_119 : decode cX2_init 119 = .ok (.dup, 1) := dk_89 (dq_lk dX2_init_v7 (r := 7) (x := 89) rfl)
theorem dX2_init_120 : decode cX2_init 120 = .ok (.iconst 1, 1) := dk_4 (dq_lk dX2_init_v7 (r := 8) (x := 4) rfl)
theorem dX2_init_121 : decode cX2_init 121 = .ok (.new 17, 3) := dk_187 (dq_lk dX2_init_v7 (r := 9) (x := 187) rfl) (dq_lk dX2_init_v7 (r := 10) (x := 0) rfl) (dq_lk dX2_init_v7 (r := 11) (x := 17) rfl)
theorem dX2_init_124 : decode cX2_init 124 = .ok (.dup, 1) := dk_89 (dq_lk dX2_init_v7 (r := 12) (x := 89) rfl)
theorem dX2_init_125 : decode cX2_init 125 = .ok (.invokespecial 19, 3) := dk_183 (dq_lk dX2_init_v7 (r := 13) (x := 183) rfl) (dq_lk dX2_init_v7 (r := 14) (x := 0) rfl) (dq_lk dX2_init_v7 (r := 15) (x := 19) rfl)
theorem dX2_init_128 : decode cX2_init 128 = .ok (.aastore, 1) := dk_83 (dq_lk dX2_init_v8 (r := 0) (x := 83) rfl)
theorem dX2_init_129 : decode cX2_init 129 = .ok (.dup, 1) := dk_89 (dq_lk dX2_init_v8 (r := 1) (x := 89) rfl)
theorem dX2_init_130 : decode cX2_init 130 = .ok (.iconst 2, 1) := dk_5 (dq_lk dX2_init_v8 (r := 2) (x := 5) rfl)
theorem dX2_init_131 : decode cX2_init 131 = .ok (.new 17, 3) := dk_187 (dq_lk dX2_init_v8 (r := 3) (x := 187) rfl) (dq_lk dX2_init_v8 (r := 4) (x := 0) rfl) (dq_lk dX2_init_v8 (r := 5) (x := 17) rfl)
theorem dX2_init_134 : decode cX2_init 134 = .ok (.dup, 1) := dk_89 (dq_lk dX2_init_v8 (r := 6) (x := 89) rfl)
theorem dX2_init_135 : decode cX2_init 135 = .ok (.invokespecial 19, 3) := dk_183 (dq_lk dX2_init_v8 (r := 7) (x := 183) rfl) (dq_lk dX2_init_v8 (r := 8) (x := 0) rfl) (dq_lk dX2_init_v8 (r := 9) (x := 19) rfl)
theorem dX2_init_138 : decode cX2_init 138 = .ok (.aastore, 1) := dk_83 (dq_lk dX2_init_v8 (r := 10) (x := 83) rfl)
theorem dX2_init_139 : decode cX2_init 139 = .ok (.putfield 24, 3) := dk_181 (dq_lk dX2_init_v8 (r := 11) (x := 181) rfl) (dq_lk dX2_init_v8 (r := 12) (x := 0) rfl) (dq_lk dX2_init_v8 (r := 13) (x := 24) rfl)
theorem dX2_init_142 : decode cX2_init 142 = .ok (.aload_n 0, 1) := dk_42 (dq_lk dX2_init_v8 (r := 14) (x := 42) rfl)
theorem dX2_init_143 : decode cX2_init 143 = .ok (.new 17, 3) := dk_187 (dq_lk dX2_init_v8 (r := 15) (x := 187) rfl) (dq_lk dX2_init_v9 (r := 0) (x := 0) rfl) (dq_lk dX2_init_v9 (r := 1) (x := 17) rfl)
theorem dX2_init_146 : decode cX2_init 146 = .ok (.dup, 1) := dk_89 (dq_lk dX2_init_v9 (r := 2) (x := 89) rfl)
theorem dX2_init_147 : decode cX2_init 147 = .ok (.invokespecial 19, 3) := dk_183 (dq_lk dX2_init_v9 (r := 3) (x := 183) rfl) (dq_lk dX2_init_v9 (r := 4) (x := 0) rfl) (dq_lk dX2_init_v9 (r := 5) (x := 19) rfl)
theorem dX2_init_150 : decode cX2_init 150 = .ok (.putfield 27, 3) := dk_181 (dq_lk dX2_init_v9 (r := 6) (x := 181) rfl) (dq_lk dX2_init_v9 (r := 7) (x := 0) rfl) (dq_lk dX2_init_v9 (r := 8) (x := 27) rfl)
theorem dX2_init_153 : decode cX2_init 153 = .ok (.aload_n 0, 1) := dk_42 (dq_lk dX2_init_v9 (r := 9) (x := 42) rfl)
theorem dX2_init_154 : decode cX2_init 154 = .ok (.new 17, 3) := dk_187 (dq_lk dX2_init_v9 (r := 10) (x := 187) rfl) (dq_lk dX2_init_v9 (r := 11) (x := 0) rfl) (dq_lk dX2_init_v9 (r := 12) (x := 17) rfl)
theorem dX2_init_157 : decode cX2_init 157 = .ok (.dup, 1) := dk_89 (dq_lk dX2_init_v9 (r := 13) (x := 89) rfl)
theorem dX2_init_158 : decode cX2_init 158 = .ok (.invokespecial 19, 3) := dk_183 (dq_lk dX2_init_v9 (r := 14) (x := 183) rfl) (dq_lk dX2_init_v9 (r := 15) (x := 0) rfl) (dq_lk dX2_init_v10 (r := 0) (x := 19) rfl)
theorem dX2_init_161 : decode cX2_init 161 = .ok (.putfield 31, 3) := dk_181 (dq_lk dX2_init_v10 (r := 1) (x := 181) rfl) (dq_lk dX2_init_v10 (r := 2) (x := 0) rfl) (dq_lk dX2_init_v10 (r := 3) (x := 31) rfl)
theorem dX2_init_164 : decode cX2_init 164 = .ok (.return_, 1) := dk_177 (dq_lk dX2_init_v10 (r := 4) (x := 177) rfl)
set_option maxHeartbeats 4000000 in
set_option maxRecDepth 20000 in
theorem c_X2_init (cs : ClassId × ClassId × ClassId) (a : Nat) (rest : va_W) : mCt (mTy cs) yX2_init cX2_init 1 none ⟨2, 13, 42, 33⟩ [.ref a] ((a, .inr (3, [.null, .null, .null, .null, .null, .null, .int 0, .int 0])) :: rest) (fun v ws' => v = none ∧ ∃ ad : Nat → Nat, ad 0 = a ∧ ws' = mWd ad cs mK0 rest) mNo := by
  refine mCt.ofI (by decide +kernel) rfl (Nat.le_of_ble_eq_true rfl) (fun X hX hi hE => ?_)
  replace hX : mOK X RX2 cX2_init 1 ⟨2, 13, 42, 33⟩ [] (mTy cs) := hX
  refine r_aload_n hX dX2_init_0 rfl rfl (r_objInit hX kob_X2 (Nat.le_of_ble_eq_true rfl) (Nat.le_of_ble_eq_true rfl) dX2_init_1 (r_aload_n hX dX2_init_4 rfl rfl (r_iconst (v := nI 4) hX dX2_init_5 (by decide) (r_newI (N := 4) hX 0 rfl (by decide) dX2_init_6 (Nat.le_of_ble_eq_true rfl) (Nat.le_of_ble_eq_true rfl) (fun q1 => ?_)))))
  refine r_dup hX dX2_init_8 rfl (r_iconst (v := 0) hX dX2_init_9 (by decide) (r_iconst (v := 0) hX dX2_init_10 (by decide) (r_iast hX 0 0 rfl rfl (vp_in_nI (n := 0) (N := 4) (by decide) (by decide)) dX2_init_11 (r_eqw (ws' := (q1, .inl (cs.1, 4, .inl (upd (fun _ => 0) (0 : Int32).toNatClampNeg (0)))) :: (a, .inr (3, [.null, .null, .null, .null, .null, .null, .int 0, .int 0])) :: rest) rfl (r_dup hX dX2_init_12 rfl (r_iconst (v := 1) hX dX2_init_13 (by decide) (r_sipush (v := 3600) hX dX2_init_14 (by decide) ?_)))))))
  refine r_iast hX 0 0 rfl rfl (vp_in_nI (n := 1) (N := 4) (by decide) (by decide)) dX2_init_17 (r_eqw (ws' := (q1, .inl (cs.1, 4, .inl (upd (upd (fun _ => 0) (0 : Int32).toNatClampNeg (0)) (1 : Int32).toNatClampNeg (3600)))) :: (a, .inr (3, [.null, .null, .null, .null, .null, .null, .int 0, .int 0])) :: rest) rfl (r_dup hX dX2_init_18 rfl (r_iconst (v := 2) hX dX2_init_19 (by decide) (r_sipush (v := -18000) hX dX2_init_20 (by decide) (r_iast hX 0 0 rfl rfl (vp_in_nI (n := 2) (N := 4) (by decide) (by decide)) dX2_init_23 (r_eqw (ws' := (q1, .inl (cs.1, 4, .inl (upd (upd (upd (fun _ => 0) (0 : Int32).toNatClampNeg (0)) (1 : Int32).toNatClampNeg (3600)) (2 : Int32).toNatClampNeg (-18000)))) :: (a, .inr (3, [.null, .null, .null, .null, .null, .null, .int 0, .int 0])) :: rest) rfl (r_dup hX dX2_init_24 rfl ?_)))))))
  refine r_iconst (v := 3) hX dX2_init_25 (by decide) (r_sipush (v := 20700) hX dX2_init_26 (by decide) (r_iast hX 0 0 rfl rfl (vp_in_nI (n := 3) (N := 4) (by decide) (by decide)) dX2_init_29 (r_eqw (ws' := (q1, .inl (cs.1, 4, .inl (upd (upd (upd (upd (fun _ => 0) (0 : Int32).toNatClampNeg (0)) (1 : Int32).toNatClampNeg (3600)) (2 : Int32).toNatClampNeg (-18000)) (3 : Int32).toNatClampNeg (20700)))) :: (a, .inr (3, [.null, .null, .null, .null, .null, .null, .int 0, .int 0])) :: rest) rfl (r_putF (y := yX2_init) hX hi kf_X2_9 1 rfl rfl rfl rfl rfl (Nat.le_of_ble_eq_true rfl) dX2_init_30 (r_eqw (ws' := (q1, .inl (cs.1, 4, .inl (upd (upd (upd (upd (fun _ => 0) (0 : Int32).toNatClampNeg (0)) (1 : Int32).toNatClampNeg (3600)) (2 : Int32).toNatClampNeg (-18000)) (3 : Int32).toNatClampNeg (20700)))) :: (a, .inr (3, [.ref q1, .null, .null, .null, .null, .null, .int 0, .int 0])) :: rest) rfl (r_aload_n hX dX2_init_33 rfl rfl (r_iconst (v := nI 4) hX dX2_init_34 (by decide) ?_)))))))
  refine r_newL (N := 4) hX 1 rfl (by decide) dX2_init_35 (Nat.le_of_ble_eq_true rfl) (Nat.le_of_ble_eq_true rfl) (fun q2 => ?_)
  refine r_dup hX dX2_init_37 rfl (r_iconst (v := 0) hX dX2_init_38 (by decide) (r_lconst (v := 0) hX dX2_init_39 (by decide) (r_last hX 0 1 rfl rfl (vp_in_nI (n := 0) (N := 4) (by decide) (by decide)) dX2_init_40 (r_eqw (ws' := (q2, .inl (cs.2.1, 4, .inr (.inl (vp_updL (fun _ => 0) (0 : Int32).toNatClampNeg (0))))) :: (q1, .inl (cs.1, 4, .inl (upd (upd (upd (upd (fun _ => 0) (0 : Int32).toNatClampNeg (0)) (1 : Int32).toNatClampNeg (3600)) (2 : Int32).toNatClampNeg (-18000)) (3 : Int32).toNatClampNeg (20700)))) :: (a, .inr (3, [.ref q1, .null, .null, .null, .null, .null, .int 0, .int 0])) :: rest) rfl (r_dup hX dX2_init_41 rfl (r_iconst (v := 1) hX dX2_init_42 (by decide) (r_lconst (v := 0) hX dX2_init_43 (by decide) ?_)))))))
  refine r_last hX 0 1 rfl rfl (vp_in_nI (n := 1) (N := 4) (by decide) (by decide)) dX2_init_44 (r_eqw (ws' := (q2, .inl (cs.2.1, 4, .inr (.inl (vp_updL (vp_updL (fun _ => 0) (0 : Int32).toNatClampNeg (0)) (1 : Int32).toNatClampNeg (0))))) :: (q1, .inl (cs.1, 4, .inl (upd (upd (upd (upd (fun _ => 0) (0 : Int32).toNatClampNeg (0)) (1 : Int32).toNatClampNeg (3600)) (2 : Int32).toNatClampNeg (-18000)) (3 : Int32).toNatClampNeg (20700)))) :: (a, .inr (3, [.ref q1, .null, .null, .null, .null, .null, .int 0, .int 0])) :: rest) rfl (r_dup hX dX2_init_45 rfl (r_iconst (v := 2) hX dX2_init_46 (by decide) (r_lconst (v := 0) hX dX2_init_47 (by decide) (r_last hX 0 1 rfl rfl (vp_in_nI (n := 2) (N := 4) (by decide) (by decide)) dX2_init_48 (r_eqw (ws' := (q2, .inl (cs.2.1, 4, .inr (.inl (vp_updL (vp_updL (vp_updL (fun _ => 0) (0 : Int32).toNatClampNeg (0)) (1 : Int32).toNatClampNeg (0)) (2 : Int32).toNatClampNeg (0))))) :: (q1, .inl (cs.1, 4, .inl (upd (upd (upd (upd (fun _ => 0) (0 : Int32).toNatClampNeg (0)) (1 : Int32).toNatClampNeg (3600)) (2 : Int32).toNatClampNeg (-18000)) (3 : Int32).toNatClampNeg (20700)))) :: (a, .inr (3, [.ref q1, .null, .null, .null, .null, .null, .int 0, .int 0])) :: rest) rfl (r_dup hX dX2_init_49 rfl ?_)))))))
  refine r_iconst (v := 3) hX dX2_init_50 (by decide) (r_lconst (v := 0) hX dX2_init_51 (by decide) (r_last hX 0 1 rfl rfl (vp_in_nI (n := 3) (N := 4) (by decide) (by decide)) dX2_init_52 (r_eqw (ws' := (q2, .inl (cs.2.1, 4, .inr (.inl (vp_updL (vp_updL (vp_updL (vp_updL (fun _ => 0) (0 : Int32).toNatClampNeg (0)) (1 : Int32).toNatClampNeg (0)) (2 : Int32).toNatClampNeg (0)) (3 : Int32).toNatClampNeg (0))))) :: (q1, .inl (cs.1, 4, .inl (upd (upd (upd (upd (fun _ => 0) (0 : Int32).toNatClampNeg (0)) (1 : Int32).toNatClampNeg (3600)) (2 : Int32).toNatClampNeg (-18000)) (3 : Int32).toNatClampNeg (20700)))) :: (a, .inr (3, [.ref q1, .null, .null, .null, .null, .null, .int 0, .int 0])) :: rest) rfl (r_putF (y := yX2_init) hX hi kf_X2_13 2 rfl rfl rfl rfl rfl (Nat.le_of_ble_eq_true rfl) dX2_init_53 ?_))))
  refine r_eqw (ws' := (q2, .inl (cs.2.1, 4, .inr (.inl (vp_updL (vp_updL (vp_updL (vp_updL (fun _ => 0) (0 : Int32).toNatClampNeg (0)) (1 : Int32).toNatClampNeg (0)) (2 : Int32).toNatClampNeg (0)) (3 : Int32).toNatClampNeg (0))))) :: (q1, .inl (cs.1, 4, .inl (upd (upd (upd (upd (fun _ => 0) (0 : Int32).toNatClampNeg (0)) (1 : Int32).toNatClampNeg (3600)) (2 : Int32).toNatClampNeg (-18000)) (3 : Int32).toNatClampNeg (20700)))) :: (a, .inr (3, [.ref q1, .ref q2, .null, .null, .null, .null, .int 0, .int 0])) :: rest) rfl (r_aload_n hX dX2_init_56 rfl rfl (r_iconst (v := nI 4) hX dX2_init_57 (by decide) (r_newQ (N := 4) hX 2 rfl kl_X2_17 kao (by decide) dX2_init_58 (Nat.le_of_ble_eq_true rfl) (Nat.le_of_ble_eq_true rfl) (fun q3 => ?_))))
  refine r_dup hX dX2_init_61 rfl (r_iconst (v := 0) hX dX2_init_62 (by decide) (r_new hX kinX1 tyX1_ok kl_X2_17 ki_X1 kt_X1 (show vwCl[2]? = _ from rfl) (fs := [.long 0, .int 0, .int 0]) mX1z (Nat.le_of_ble_eq_true rfl) (Nat.le_of_ble_eq_true rfl) dX2_init_63 (fun q4 => ?_)))
  refine r_dup hX dX2_init_66 rfl (r_callIN hX (c_X1_init _ _ _) kI_X1 rfl rfl (Nat.le_of_ble_eq_true rfl) ⟨(Nat.le_of_ble_eq_true rfl), (Nat.le_of_ble_eq_true rfl)⟩ ⟨(Nat.le_of_ble_eq_true rfl), (Nat.le_of_ble_eq_true rfl)⟩ dX2_init_67 (fun v9 ws9 h9 => ?_))
  obtain ⟨rfl, hw9⟩ := h9
  subst ws9
  dsimp only [mPush]
  refine r_astq (r := (RX1, TX1, 3)) hX 1 2 rfl rfl (qk := 0) rfl rfl (vp_in_nI (n := 0) (N := 4) (by decide) (by decide)) dX2_init_70 (r_eqw (ws' := (q4, .inr (2, [.long 0, .int 0, .int 0])) :: (q3, .inl (cs.2.2, 4, .inr (.inr (.inr (.inr (va_up (fun _ => none) (0 : Int32).toNatClampNeg (some q4))))))) :: (q2, .inl (cs.2.1, 4, .inr (.inl (vp_updL (vp_updL (vp_updL (vp_updL (fun _ => 0) (0 : Int32).toNatClampNeg (0)) (1 : Int32).toNatClampNeg (0)) (2 : Int32).toNatClampNeg (0)) (3 : Int32).toNatClampNeg (0))))) :: (q1, .inl (cs.1, 4, .inl (upd (upd (upd (upd (fun _ => 0) (0 : Int32).toNatClampNeg (0)) (1 : Int32).toNatClampNeg (3600)) (2 : Int32).toNatClampNeg (-18000)) (3 : Int32).toNatClampNeg (20700)))) :: (a, .inr (3, [.ref q1, .ref q2, .null, .null, .null, .null, .int 0, .int 0])) :: rest) rfl (r_dup hX dX2_init_71 rfl (r_iconst (v := 1) hX dX2_init_72 (by decide) (r_new hX kinX1 tyX1_ok kl_X2_17 ki_X1 kt_X1 (show vwCl[2]? = _ from rfl) (fs := [.long 0, .int 0, .int 0]) mX1z (Nat.le_of_ble_eq_true rfl) (Nat.le_of_ble_eq_true rfl) dX2_init_73 (fun q5 => ?_)))))
  refine r_dup hX dX2_init_76 rfl (r_callIN hX (c_X1_init _ _ _) kI_X1 rfl rfl (Nat.le_of_ble_eq_true rfl) ⟨(Nat.le_of_ble_eq_true rfl), (Nat.le_of_ble_eq_true rfl)⟩ ⟨(Nat.le_of_ble_eq_true rfl), (Nat.le_of_ble_eq_true rfl)⟩ dX2_init_77 (fun v9 ws9 h9 => ?_))
  obtain ⟨rfl, hw9⟩ := h9
  subst ws9
  dsimp only [mPush]
  refine r_astq (r := (RX1, TX1, 3)) hX 2 2 rfl rfl (qk := 0) rfl rfl (vp_in_nI (n := 1) (N := 4) (by decide) (by decide)) dX2_init_80 (r_eqw (ws' := (q5, .inr (2, [.long 0, .int 0, .int 0])) :: (q4, .inr (2, [.long 0, .int 0, .int 0])) :: (q3, .inl (cs.2.2, 4, .inr (.inr (.inr (.inr (va_up (va_up (fun _ => none) (0 : Int32).toNatClampNeg (some q4)) (1 : Int32).toNatClampNeg (some q5))))))) :: (q2, .inl (cs.2.1, 4, .inr (.inl (vp_updL (vp_updL (vp_updL (vp_updL (fun _ => 0) (0 : Int32).toNatClampNeg (0)) (1 : Int32).toNatClampNeg (0)) (2 : Int32).toNatClampNeg (0)) (3 : Int32).toNatClampNeg (0))))) :: (q1, .inl (cs.1, 4, .inl (upd (upd (upd (upd (fun _ => 0) (0 : Int32).toNatClampNeg (0)) (1 : Int32).toNatClampNeg (3600)) (2 : Int32).toNatClampNeg (-18000)) (3 : Int32).toNatClampNeg (20700)))) :: (a, .inr (3, [.ref q1, .ref q2, .null, .null, .null, .null, .int 0, .int 0])) :: rest) rfl (r_dup hX dX2_init_81 rfl (r_iconst (v := 2) hX dX2_init_82 (by decide) (r_new hX kinX1 tyX1_ok kl_X2_17 ki_X1 kt_X1 (show vwCl[2]? = _ from rfl) (fs := [.long 0, .int 0, .int 0]) mX1z (Nat.le_of_ble_eq_true rfl) (Nat.le_of_ble_eq_true rfl) dX2_init_83 (fun q6 => ?_)))))
  refine r_dup hX dX2_init_86 rfl (r_callIN hX (c_X1_init _ _ _) kI_X1 rfl rfl (Nat.le_of_ble_eq_true rfl) ⟨(Nat.le_of_ble_eq_true rfl), (Nat.le_of_ble_eq_true rfl)⟩ ⟨(Nat.le_of_ble_eq_true rfl), (Nat.le_of_ble_eq_true rfl)⟩ dX2_init_87 (fun v9 ws9 h9 => ?_))
  obtain ⟨rfl, hw9⟩ := h9
  subst ws9
  dsimp only [mPush]
  refine r_astq (r := (RX1, TX1, 3)) hX 3 2 rfl rfl (qk := 0) rfl rfl (vp_in_nI (n := 2) (N := 4) (by decide) (by decide)) dX2_init_90 (r_eqw (ws' := (q6, .inr (2, [.long 0, .int 0, .int 0])) :: (q5, .inr (2, [.long 0, .int 0, .int 0])) :: (q4, .inr (2, [.long 0, .int 0, .int 0])) :: (q3, .inl (cs.2.2, 4, .inr (.inr (.inr (.inr (va_up (va_up (va_up (fun _ => none) (0 : Int32).toNatClampNeg (some q4)) (1 : Int32).toNatClampNeg (some q5)) (2 : Int32).toNatClampNeg (some q6))))))) :: (q2, .inl (cs.2.1, 4, .inr (.inl (vp_updL (vp_updL (vp_updL (vp_updL (fun _ => 0) (0 : Int32).toNatClampNeg (0)) (1 : Int32).toNatClampNeg (0)) (2 : Int32).toNatClampNeg (0)) (3 : Int32).toNatClampNeg (0))))) :: (q1, .inl (cs.1, 4, .inl (upd (upd (upd (upd (fun _ => 0) (0 : Int32).toNatClampNeg (0)) (1 : Int32).toNatClampNeg (3600)) (2 : Int32).toNatClampNeg (-18000)) (3 : Int32).toNatClampNeg (20700)))) :: (a, .inr (3, [.ref q1, .ref q2, .null, .null, .null, .null, .int 0, .int 0])) :: rest) rfl (r_dup hX dX2_init_91 rfl (r_iconst (v := 3) hX dX2_init_92 (by decide) (r_new hX kinX1 tyX1_ok kl_X2_17 ki_X1 kt_X1 (show vwCl[2]? = _ from rfl) (fs := [.long 0, .int 0, .int 0]) mX1z (Nat.le_of_ble_eq_true rfl) (Nat.le_of_ble_eq_true rfl) dX2_init_93 (fun q7 => ?_)))))
  refine r_dup hX dX2_init_96 rfl (r_callIN hX (c_X1_init _ _ _) kI_X1 rfl rfl (Nat.le_of_ble_eq_true rfl) ⟨(Nat.le_of_ble_eq_true rfl), (Nat.le_of_ble_eq_true rfl)⟩ ⟨(Nat.le_of_ble_eq_true rfl), (Nat.le_of_ble_eq_true rfl)⟩ dX2_init_97 (fun v9 ws9 h9 => ?_))
  obtain ⟨rfl, hw9⟩ := h9
  subst ws9
  dsimp only [mPush]
  refine r_astq (r := (RX1, TX1, 3)) hX 4 2 rfl rfl (qk := 0) rfl rfl (vp_in_nI (n := 3) (N := 4) (by decide) (by decide)) dX2_init_100 (r_eqw (ws' := (q7, .inr (2, [.long 0, .int 0, .int 0])) :: (q6, .inr (2, [.long 0, .int 0, .int 0])) :: (q5, .inr (2, [.long 0, .int 0, .int 0])) :: (q4, .inr (2, [.long 0, .int 0, .int 0])) :: (q3, .inl (cs.2.2, 4, .inr (.inr (.inr (.inr (va_up (va_up (va_up (va_up (fun _ => none) (0 : Int32).toNatClampNeg (some q4)) (1 : Int32).toNatClampNeg (some q5)) (2 : Int32).toNatClampNeg (some q6)) (3 : Int32).toNatClampNeg (some q7))))))) :: (q2, .inl (cs.2.1, 4, .inr (.inl (vp_updL (vp_updL (vp_updL (vp_updL (fun _ => 0) (0 : Int32).toNatClampNeg (0)) (1 : Int32).toNatClampNeg (0)) (2 : Int32).toNatClampNeg (0)) (3 : Int32).toNatClampNeg (0))))) :: (q1, .inl (cs.1, 4, .inl (upd (upd (upd (upd (fun _ => 0) (0 : Int32).toNatClampNeg (0)) (1 : Int32).toNatClampNeg (3600)) (2 : Int32).toNatClampNeg (-18000)) (3 : Int32).toNatClampNeg (20700)))) :: (a, .inr (3, [.ref q1, .ref q2, .null, .null, .null, .null, .int 0, .int 0])) :: rest) rfl (r_putF (y := yX2_init) hX hi kf_X2_20 7 rfl rfl rfl rfl rfl (Nat.le_of_ble_eq_true rfl) dX2_init_101 ?_))
  refine r_eqw (ws' := (q7, .inr (2, [.long 0, .int 0, .int 0])) :: (q6, .inr (2, [.long 0, .int 0, .int 0])) :: (q5, .inr (2, [.long 0, .int 0, .int 0])) :: (q4, .inr (2, [.long 0, .int 0, .int 0])) :: (q3, .inl (cs.2.2, 4, .inr (.inr (.inr (.inr (va_up (va_up (va_up (va_up (fun _ => none) (0 : Int32).toNatClampNeg (some q4)) (1 : Int32).toNatClampNeg (some q5)) (2 : Int32).toNatClampNeg (some q6)) (3 : Int32).toNatClampNeg (some q7))))))) :: (q2, .inl (cs.2.1, 4, .inr (.inl (vp_updL (vp_updL (vp_updL (vp_updL (fun _ => 0) (0 : Int32).toNatClampNeg (0)) (1 : Int32).toNatClampNeg (0)) (2 : Int32).toNatClampNeg (0)) (3 : Int32).toNatClampNeg (0))))) :: (q1, .inl (cs.1, 4, .inl (upd (upd (upd (upd (fun _ => 0) (0 : Int32).toNatClampNeg (0)) (1 : Int32).toNatClampNeg (3600)) (2 : Int32).toNatClampNeg (-18000)) (3 : Int32).toNatClampNeg (20700)))) :: (a, .inr (3, [.ref q1, .ref q2, .ref q3, .null, .null, .null, .int 0, .int 0])) :: rest) rfl (r_aload_n hX dX2_init_104 rfl rfl (r_iconst (v := nI 3) hX dX2_init_105 (by decide) (r_newQ (N := 3) hX 2 rfl kl_X2_17 kao (by decide) dX2_init_106 (Nat.le_of_ble_eq_true rfl) (Nat.le_of_ble_eq_true rfl) (fun q8 => ?_))))
  refine r_dup hX dX2_init_109 rfl (r_iconst (v := 0) hX dX2_init_110 (by decide) (r_new hX kinX1 tyX1_ok kl_X2_17 ki_X1 kt_X1 (show vwCl[2]? = _ from rfl) (fs := [.long 0, .int 0, .int 0]) mX1z (Nat.le_of_ble_eq_true rfl) (Nat.le_of_ble_eq_true rfl) dX2_init_111 (fun q9 => ?_)))
  refine r_dup hX dX2_init_114 rfl (r_callIN hX (c_X1_init _ _ _) kI_X1 rfl rfl (Nat.le_of_ble_eq_true rfl) ⟨(Nat.le_of_ble_eq_true rfl), (Nat.le_of_ble_eq_true rfl)⟩ ⟨(Nat.le_of_ble_eq_true rfl), (Nat.le_of_ble_eq_true rfl)⟩ dX2_init_115 (fun v9 ws9 h9 => ?_))
  obtain ⟨rfl, hw9⟩ := h9
  subst ws9
  dsimp only [mPush]
  refine r_astq (r := (RX1, TX1, 3)) hX 1 2 rfl rfl (qk := 0) rfl rfl (vp_in_nI (n := 0) (N := 3) (by decide) (by decide)) dX2_init_118 (r_eqw (ws' := (q9, .inr (2, [.long 0, .int 0, .int 0])) :: (q8, .inl (cs.2.2, 3, .inr (.inr (.inr (.inr (va_up (fun _ => none) (0 : Int32).toNatClampNeg (some q9))))))) :: (q7, .inr (2, [.long 0, .int 0, .int 0])) :: (q6, .inr (2, [.long 0, .int 0, .int 0])) :: (q5, .inr (2, [.long 0, .int 0, .int 0])) :: (q4, .inr (2, [.long 0, .int 0, .int 0])) :: (q3, .inl (cs.2.2, 4, .inr (.inr (.inr (.inr (va_up (va_up (va_up (va_up (fun _ => none) (0 : Int32).toNatClampNeg (some q4)) (1 : Int32).toNatClampNeg (some q5)) (2 : Int32).toNatClampNeg (some q6)) (3 : Int32).toNatClampNeg (some q7))))))) :: (q2, .inl (cs.2.1, 4, .inr (.inl (vp_updL (vp_updL (vp_updL (vp_updL (fun _ => 0) (0 : Int32).toNatClampNeg (0)) (1 : Int32).toNatClampNeg (0)) (2 : Int32).toNatClampNeg (0)) (3 : Int32).toNatClampNeg (0))))) :: (q1, .inl (cs.1, 4, .inl (upd (upd (upd (upd (fun _ => 0) (0 : Int32).toNatClampNeg (0)) (1 : Int32).toNatClampNeg (3600)) (2 : Int32).toNatClampNeg (-18000)) (3 : Int32).toNatClampNeg (20700)))) :: (a, .inr (3, [.ref q1, .ref q2, .ref q3, .null, .null, .null, .int 0, .int 0])) :: rest) rfl (r_dup hX dX2_init_119 rfl ?_))
  refine r_iconst (v := 1) hX dX2_init_120 (by decide) (r_new hX kinX1 tyX1_ok kl_X2_17 ki_X1 kt_X1 (show vwCl[2]? = _ from rfl) (fs := [.long 0, .int 0, .int 0]) mX1z (Nat.le_of_ble_eq_true rfl) (Nat.le_of_ble_eq_true rfl) dX2_init_121 (fun q10 => ?_))
  refine r_dup hX dX2_init_124 rfl (r_callIN hX (c_X1_init _ _ _) kI_X1 rfl rfl (Nat.le_of_ble_eq_true rfl) ⟨(Nat.le_of_ble_eq_true rfl), (Nat.le_of_ble_eq_true rfl)⟩ ⟨(Nat.le_of_ble_eq_true rfl), (Nat.le_of_ble_eq_true rfl)⟩ dX2_init_125 (fun v9 ws9 h9 => ?_))
  obtain ⟨rfl, hw9⟩ := h9
  subst ws9
  dsimp only [mPush]
  refine r_astq (r := (RX1, TX1, 3)) hX 2 2 rfl rfl (qk := 0) rfl rfl (vp_in_nI (n := 1) (N := 3) (by decide) (by decide)) dX2_init_128 ?_
  refine r_eqw (ws' := (q10, .inr (2, [.long 0, .int 0, .int 0])) :: (q9, .inr (2, [.long 0, .int 0, .int 0])) :: (q8, .inl (cs.2.2, 3, .inr (.inr (.inr (.inr (va_up (va_up (fun _ => none) (0 : Int32).toNatClampNeg (some q9)) (1 : Int32).toNatClampNeg (some q10))))))) :: (q7, .inr (2, [.long 0, .int 0, .int 0])) :: (q6, .inr (2, [.long 0, .int 0, .int 0])) :: (q5, .inr (2, [.long 0, .int 0, .int 0])) :: (q4, .inr (2, [.long 0, .int 0, .int 0])) :: (q3, .inl (cs.2.2, 4, .inr (.inr (.inr (.inr (va_up (va_up (va_up (va_up (fun _ => none) (0 : Int32).toNatClampNeg (some q4)) (1 : Int32).toNatClampNeg (some q5)) (2 : Int32).toNatClampNeg (some q6)) (3 : Int32).toNatClampNeg (some q7))))))) :: (q2, .inl (cs.2.1, 4, .inr (.inl (vp_updL (vp_updL (vp_updL (vp_updL (fun _ => 0) (0 : Int32).toNatClampNeg (0)) (1 : Int32).toNatClampNeg (0)) (2 : Int32).toNatClampNeg (0)) (3 : Int32).toNatClampNeg (0))))) :: (q1, .inl (cs.1, 4, .inl (upd (upd (upd (upd (fun _ => 0) (0 : Int32).toNatClampNeg (0)) (1 : Int32).toNatClampNeg (3600)) (2 : Int32).toNatClampNeg (-18000)) (3 : Int32).toNatClampNeg (20700)))) :: (a, .inr (3, [.ref q1, .ref q2, .ref q3, .null, .null, .null, .int 0, .int 0])) :: rest) rfl (r_dup hX dX2_init_129 rfl (r_iconst (v := 2) hX dX2_init_130 (by decide) ?_))
  refine r_new hX kinX1 tyX1_ok kl_X2_17 ki_X1 kt_X1 (show vwCl[2]? = _ from rfl) (fs := [.long 0, .int 0, .int 0]) mX1z (Nat.le_of_ble_eq_true rfl) (Nat.le_of_ble_eq_true rfl) dX2_init_131 (fun q11 => ?_)
  refine r_dup hX dX2_init_134 rfl (r_callIN hX (c_X1_init _ _ _) kI_X1 rfl rfl (Nat.le_of_ble_eq_true rfl) ⟨(Nat.le_of_ble_eq_true rfl), (Nat.le_of_ble_eq_true rfl)⟩ ⟨(Nat.le_of_ble_eq_true rfl), (Nat.le_of_ble_eq_true rfl)⟩ dX2_init_135 (fun v9 ws9 h9 => ?_))
  obtain ⟨rfl, hw9⟩ := h9
  subst ws9
  dsimp only [mPush]
  refine r_astq (r := (RX1, TX1, 3)) hX 3 2 rfl rfl (qk := 0) rfl rfl (vp_in_nI (n := 2) (N := 3) (by decide) (by decide)) dX2_init_138 ?_
  refine r_eqw (ws' := (q11, .inr (2, [.long 0, .int 0, .int 0])) :: (q10, .inr (2, [.long 0, .int 0, .int 0])) :: (q9, .inr (2, [.long 0, .int 0, .int 0])) :: (q8, .inl (cs.2.2, 3, .inr (.inr (.inr (.inr (va_up (va_up (va_up (fun _ => none) (0 : Int32).toNatClampNeg (some q9)) (1 : Int32).toNatClampNeg (some q10)) (2 : Int32).toNatClampNeg (some q11))))))) :: (q7, .inr (2, [.long 0, .int 0, .int 0])) :: (q6, .inr (2, [.long 0, .int 0, .int 0])) :: (q5, .inr (2, [.long 0, .int 0, .int 0])) :: (q4, .inr (2, [.long 0, .int 0, .int 0])) :: (q3, .inl (cs.2.2, 4, .inr (.inr (.inr (.inr (va_up (va_up (va_up (va_up (fun _ => none) (0 : Int32).toNatClampNeg (some q4)) (1 : Int32).toNatClampNeg (some q5)) (2 : Int32).toNatClampNeg (some q6)) (3 : Int32).toNatClampNeg (some q7))))))) :: (q2, .inl (cs.2.1, 4, .inr (.inl (vp_updL (vp_updL (vp_updL (vp_updL (fun _ => 0) (0 : Int32).toNatClampNeg (0)) (1 : Int32).toNatClampNeg (0)) (2 : Int32).toNatClampNeg (0)) (3 : Int32).toNatClampNeg (0))))) :: (q1, .inl (cs.1, 4, .inl (upd (upd (upd (upd (fun _ => 0) (0 : Int32).toNatClampNeg (0)) (1 : Int32).toNatClampNeg (3600)) (2 : Int32).toNatClampNeg (-18000)) (3 : Int32).toNatClampNeg (20700)))) :: (a, .inr (3, [.ref q1, .ref q2, .ref q3, .null, .null, .null, .int 0, .int 0])) :: rest) rfl ?_
  refine r_putF (y := yX2_init) hX hi kf_X2_24 11 rfl rfl rfl rfl rfl (Nat.le_of_ble_eq_true rfl) dX2_init_139 ?_
  refine r_eqw (ws' := (q11, .inr (2, [.long 0, .int 0, .int 0])) :: (q10, .inr (2, [.long 0, .int 0, .int 0])) :: (q9, .inr (2, [.long 0, .int 0, .int 0])) :: (q8, .inl (cs.2.2, 3, .inr (.inr (.inr (.inr (va_up (va_up (va_up (fun _ => none) (0 : Int32).toNatClampNeg (some q9)) (1 : Int32).toNatClampNeg (some q10)) (2 : Int32).toNatClampNeg (some q11))))))) :: (q7, .inr (2, [.long 0, .int 0, .int 0])) :: (q6, .inr (2, [.long 0, .int 0, .int 0])) :: (q5, .inr (2, [.long 0, .int 0, .int 0])) :: (q4, .inr (2, [.long 0, .int 0, .int 0])) :: (q3, .inl (cs.2.2, 4, .inr (.inr (.inr (.inr (va_up (va_up (va_up (va_up (fun _ => none) (0 : Int32).toNatClampNeg (some q4)) (1 : Int32).toNatClampNeg (some q5)) (2 : Int32).toNatClampNeg (some q6)) (3 : Int32).toNatClampNeg (some q7))))))) :: (q2, .inl (cs.2.1, 4, .inr (.inl (vp_updL (vp_updL (vp_updL (vp_updL (fun _ => 0) (0 : Int32).toNatClampNeg (0)) (1 : Int32).toNatClampNeg (0)) (2 : Int32).toNatClampNeg (0)) (3 : Int32).toNatClampNeg (0))))) :: (q1, .inl (cs.1, 4, .inl (upd (upd (upd (upd (fun _ => 0) (0 : Int32).toNatClampNeg (0)) (1 : Int32).toNatClampNeg (3600)) (2 : Int32).toNatClampNeg (-18000)) (3 : Int32).toNatClampNeg (20700)))) :: (a, .inr (3, [.ref q1, .ref q2, .ref q3, .ref q8, .null, .null, .int 0, .int 0])) :: rest) rfl ?_
  refine r_aload_n hX dX2_init_142 rfl rfl (r_new hX kinX1 tyX1_ok kl_X2_17 ki_X1 kt_X1 (show vwCl[2]? = _ from rfl) (fs := [.long 0, .int 0, .int 0]) mX1z (Nat.le_of_ble_eq_true rfl) (Nat.le_of_ble_eq_true rfl) dX2_init_143 (fun q12 => ?_))
  refine r_dup hX dX2_init_146 rfl (r_callIN hX (c_X1_init _ _ _) kI_X1 rfl rfl (Nat.le_of_ble_eq_true rfl) ⟨(Nat.le_of_ble_eq_true rfl), (Nat.le_of_ble_eq_true rfl)⟩ ⟨(Nat.le_of_ble_eq_true rfl), (Nat.le_of_ble_eq_true rfl)⟩ dX2_init_147 (fun v9 ws9 h9 => ?_))
  obtain ⟨rfl, hw9⟩ := h9
  subst ws9
  dsimp only [mPush]
  refine r_putF (y := yX2_init) hX hi kf_X2_27 12 rfl rfl rfl rfl rfl (Nat.le_of_ble_eq_true rfl) dX2_init_150 ?_
  refine r_eqw (ws' := (q12, .inr (2, [.long 0, .int 0, .int 0])) :: (q11, .inr (2, [.long 0, .int 0, .int 0])) :: (q10, .inr (2, [.long 0, .int 0, .int 0])) :: (q9, .inr (2, [.long 0, .int 0, .int 0])) :: (q8, .inl (cs.2.2, 3, .inr (.inr (.inr (.inr (va_up (va_up (va_up (fun _ => none) (0 : Int32).toNatClampNeg (some q9)) (1 : Int32).toNatClampNeg (some q10)) (2 : Int32).toNatClampNeg (some q11))))))) :: (q7, .inr (2, [.long 0, .int 0, .int 0])) :: (q6, .inr (2, [.long 0, .int 0, .int 0])) :: (q5, .inr (2, [.long 0, .int 0, .int 0])) :: (q4, .inr (2, [.long 0, .int 0, .int 0])) :: (q3, .inl (cs.2.2, 4, .inr (.inr (.inr (.inr (va_up (va_up (va_up (va_up (fun _ => none) (0 : Int32).toNatClampNeg (some q4)) (1 : Int32).toNatClampNeg (some q5)) (2 : Int32).toNatClampNeg (some q6)) (3 : Int32).toNatClampNeg (some q7))))))) :: (q2, .inl (cs.2.1, 4, .inr (.inl (vp_updL (vp_updL (vp_updL (vp_updL (fun _ => 0) (0 : Int32).toNatClampNeg (0)) (1 : Int32).toNatClampNeg (0)) (2 : Int32).toNatClampNeg (0)) (3 : Int32).toNatClampNeg (0))))) :: (q1, .inl (cs.1, 4, .inl (upd (upd (upd (upd (fun _ => 0) (0 : Int32).toNatClampNeg (0)) (1 : Int32).toNatClampNeg (3600)) (2 : Int32).toNatClampNeg (-18000)) (3 : Int32).toNatClampNeg (20700)))) :: (a, .inr (3, [.ref q1, .ref q2, .ref q3, .ref q8, .ref q12, .null, .int 0, .int 0])) :: rest) rfl ?_
  refine r_aload_n hX dX2_init_153 rfl rfl (r_new hX kinX1 tyX1_ok kl_X2_17 ki_X1 kt_X1 (show vwCl[2]? = _ from rfl) (fs := [.long 0, .int 0, .int 0]) mX1z (Nat.le_of_ble_eq_true rfl) (Nat.le_of_ble_eq_true rfl) dX2_init_154 (fun q13 => ?_))
  refine r_dup hX dX2_init_157 rfl (r_callIN hX (c_X1_init _ _ _) kI_X1 rfl rfl (Nat.le_of_ble_eq_true rfl) ⟨(Nat.le_of_ble_eq_true rfl), (Nat.le_of_ble_eq_true rfl)⟩ ⟨(Nat.le_of_ble_eq_true rfl), (Nat.le_of_ble_eq_true rfl)⟩ dX2_init_158 (fun v9 ws9 h9 => ?_))
  obtain ⟨rfl, hw9⟩ := h9
  subst ws9
  dsimp only [mPush]
  refine r_putF (y := yX2_init) hX hi kf_X2_31 13 rfl rfl rfl rfl rfl (Nat.le_of_ble_eq_true rfl) dX2_init_161 ?_
  refine r_eqw (ws' := (q13, .inr (2, [.long 0, .int 0, .int 0])) :: (q12, .inr (2, [.long 0, .int 0, .int 0])) :: (q11, .inr (2, [.long 0, .int 0, .int 0])) :: (q10, .inr (2, [.long 0, .int 0, .int 0])) :: (q9, .inr (2, [.long 0, .int 0, .int 0])) :: (q8, .inl (cs.2.2, 3, .inr (.inr (.inr (.inr (va_up (va_up (va_up (fun _ => none) (0 : Int32).toNatClampNeg (some q9)) (1 : Int32).toNatClampNeg (some q10)) (2 : Int32).toNatClampNeg (some q11))))))) :: (q7, .inr (2, [.long 0, .int 0, .int 0])) :: (q6, .inr (2, [.long 0, .int 0, .int 0])) :: (q5, .inr (2, [.long 0, .int 0, .int 0])) :: (q4, .inr (2, [.long 0, .int 0, .int 0])) :: (q3, .inl (cs.2.2, 4, .inr (.inr (.inr (.inr (va_up (va_up (va_up (va_up (fun _ => none) (0 : Int32).toNatClampNeg (some q4)) (1 : Int32).toNatClampNeg (some q5)) (2 : Int32).toNatClampNeg (some q6)) (3 : Int32).toNatClampNeg (some q7))))))) :: (q2, .inl (cs.2.1, 4, .inr (.inl (vp_updL (vp_updL (vp_updL (vp_updL (fun _ => 0) (0 : Int32).toNatClampNeg (0)) (1 : Int32).toNatClampNeg (0)) (2 : Int32).toNatClampNeg (0)) (3 : Int32).toNatClampNeg (0))))) :: (q1, .inl (cs.1, 4, .inl (upd (upd (upd (upd (fun _ => 0) (0 : Int32).toNatClampNeg (0)) (1 : Int32).toNatClampNeg (3600)) (2 : Int32).toNatClampNeg (-18000)) (3 : Int32).toNatClampNeg (20700)))) :: (a, .inr (3, [.ref q1, .ref q2, .ref q3, .ref q8, .ref q12, .ref q13, .int 0, .int 0])) :: rest) rfl ?_
  refine r_arrq (g := fun j => some ((fun i => [a, q1, q2, q3, q8, q4, q5, q6, q7, q9, q10, q11, q12, q13].getD i 0) (j + 0 + 5))) 10 rfl (mfor4 rfl rfl rfl rfl) ?_
  refine r_eqw (ws' := (q13, .inr (2, [.long 0, .int 0, .int 0])) :: (q12, .inr (2, [.long 0, .int 0, .int 0])) :: (q11, .inr (2, [.long 0, .int 0, .int 0])) :: (q10, .inr (2, [.long 0, .int 0, .int 0])) :: (q9, .inr (2, [.long 0, .int 0, .int 0])) :: (q8, .inl (cs.2.2, 3, .inr (.inr (.inr (.inr (va_up (va_up (va_up (fun _ => none) (0 : Int32).toNatClampNeg (some q9)) (1 : Int32).toNatClampNeg (some q10)) (2 : Int32).toNatClampNeg (some q11))))))) :: (q7, .inr (2, [.long 0, .int 0, .int 0])) :: (q6, .inr (2, [.long 0, .int 0, .int 0])) :: (q5, .inr (2, [.long 0, .int 0, .int 0])) :: (q4, .inr (2, [.long 0, .int 0, .int 0])) :: (q3, .inl (cs.2.2, 4, .inr (.inr (.inr (.inr (fun j => some ((fun i => [a, q1, q2, q3, q8, q4, q5, q6, q7, q9, q10, q11, q12, q13].getD i 0) (j + 0 + 5)))))))) :: (q2, .inl (cs.2.1, 4, .inr (.inl (vp_updL (vp_updL (vp_updL (vp_updL (fun _ => 0) (0 : Int32).toNatClampNeg (0)) (1 : Int32).toNatClampNeg (0)) (2 : Int32).toNatClampNeg (0)) (3 : Int32).toNatClampNeg (0))))) :: (q1, .inl (cs.1, 4, .inl (upd (upd (upd (upd (fun _ => 0) (0 : Int32).toNatClampNeg (0)) (1 : Int32).toNatClampNeg (3600)) (2 : Int32).toNatClampNeg (-18000)) (3 : Int32).toNatClampNeg (20700)))) :: (a, .inr (3, [.ref q1, .ref q2, .ref q3, .ref q8, .ref q12, .ref q13, .int 0, .int 0])) :: rest) rfl ?_
  refine r_arrq (g := fun j => some ((fun i => [a, q1, q2, q3, q8, q4, q5, q6, q7, q9, q10, q11, q12, q13].getD i 0) (j + 4 + 5))) 5 rfl (mfor3 rfl rfl rfl) ?_
  refine r_eqw (ws' := (q13, .inr (2, [.long 0, .int 0, .int 0])) :: (q12, .inr (2, [.long 0, .int 0, .int 0])) :: (q11, .inr (2, [.long 0, .int 0, .int 0])) :: (q10, .inr (2, [.long 0, .int 0, .int 0])) :: (q9, .inr (2, [.long 0, .int 0, .int 0])) :: (q8, .inl (cs.2.2, 3, .inr (.inr (.inr (.inr (fun j => some ((fun i => [a, q1, q2, q3, q8, q4, q5, q6, q7, q9, q10, q11, q12, q13].getD i 0) (j + 4 + 5)))))))) :: (q7, .inr (2, [.long 0, .int 0, .int 0])) :: (q6, .inr (2, [.long 0, .int 0, .int 0])) :: (q5, .inr (2, [.long 0, .int 0, .int 0])) :: (q4, .inr (2, [.long 0, .int 0, .int 0])) :: (q3, .inl (cs.2.2, 4, .inr (.inr (.inr (.inr (fun j => some ((fun i => [a, q1, q2, q3, q8, q4, q5, q6, q7, q9, q10, q11, q12, q13].getD i 0) (j + 0 + 5)))))))) :: (q2, .inl (cs.2.1, 4, .inr (.inl (vp_updL (vp_updL (vp_updL (vp_updL (fun _ => 0) (0 : Int32).toNatClampNeg (0)) (1 : Int32).toNatClampNeg (0)) (2 : Int32).toNatClampNeg (0)) (3 : Int32).toNatClampNeg (0))))) :: (q1, .inl (cs.1, 4, .inl (upd (upd (upd (upd (fun _ => 0) (0 : Int32).toNatClampNeg (0)) (1 : Int32).toNatClampNeg (3600)) (2 : Int32).toNatClampNeg (-18000)) (3 : Int32).toNatClampNeg (20700)))) :: (a, .inr (3, [.ref q1, .ref q2, .ref q3, .ref q8, .ref q12, .ref q13, .int 0, .int 0])) :: rest) rfl ?_
  refine r_part (B := [(q13, .inr (2, [.long 0, .int 0, .int 0])), (q12, .inr (2, [.long 0, .int 0, .int 0])), (q11, .inr (2, [.long 0, .int 0, .int 0])), (q10, .inr (2, [.long 0, .int 0, .int 0])), (q9, .inr (2, [.long 0, .int 0, .int 0])), (q8, .inl (cs.2.2, 3, .inr (.inr (.inr (.inr (fun j => some ((fun i => [a, q1, q2, q3, q8, q4, q5, q6, q7, q9, q10, q11, q12, q13].getD i 0) (j + 4 + 5)))))))), (q7, .inr (2, [.long 0, .int 0, .int 0])), (q6, .inr (2, [.long 0, .int 0, .int 0])), (q5, .inr (2, [.long 0, .int 0, .int 0])), (q4, .inr (2, [.long 0, .int 0, .int 0])), (q3, .inl (cs.2.2, 4, .inr (.inr (.inr (.inr (fun j => some ((fun i => [a, q1, q2, q3, q8, q4, q5, q6, q7, q9, q10, q11, q12, q13].getD i 0) (j + 0 + 5)))))))), (q2, .inl (cs.2.1, 4, .inr (.inl (vp_updL (vp_updL (vp_updL (vp_updL (fun _ => 0) (0 : Int32).toNatClampNeg (0)) (1 : Int32).toNatClampNeg (0)) (2 : Int32).toNatClampNeg (0)) (3 : Int32).toNatClampNeg (0))))), (q1, .inl (cs.1, 4, .inl (upd (upd (upd (upd (fun _ => 0) (0 : Int32).toNatClampNeg (0)) (1 : Int32).toNatClampNeg (3600)) (2 : Int32).toNatClampNeg (-18000)) (3 : Int32).toNatClampNeg (20700)))), (a, .inr (3, [.ref q1, .ref q2, .ref q3, .ref q8, .ref q12, .ref q13, .int 0, .int 0]))]) (C := mWd (fun i => [a, q1, q2, q3, q8, q4, q5, q6, q7, q9, q10, q11, q12, q13].getD i 0) cs mK0 []) (pl := rest) [13, 12, 11, 10, 5, 9, 8, 7, 6, 4, 3, 2, 1, 0] rfl rfl ?_
  exact r_vret hX hE dX2_init_164 (Nat.le_of_ble_eq_true rfl) (Nat.le_of_ble_eq_true rfl) ⟨rfl, (fun i => [a, q1, q2, q3, q8, q4, q5, q6, q7, q9, q10, q11, q12, q13].getD i 0), rfl, rfl⟩
theorem dX4_init_w0 : (cX4_init.data.toList.drop 0).take 64 = [42, 183, 0, 1, 42, 7, 188, 10, 89, 3, 3, 79, 89, 4, 17, 14, 16, 79, 89, 5, 17, 185, 176, 79, 89, 6, 17, 80, 220, 79, 181, 0, 7, 42, 7, 188, 11, 181, 0, 13, 42, 16, 7, 188, 10, 181, 0, 17, 42, 16, 7, 188, 10, 181, 0, 20, 42, 16, 7, 188, 10, 181, 0, 23] := by decide +kernel
theorem dX4_init_w1 : (cX4_init.data.toList.drop 64).take 64 = [42, 16, 7, 188, 10, 181, 0, 26, 177] := by decide +kernel
theorem dX4_init_v0 : (cX4_init.data.toList.drop 0).take 16 = [42, 183, 0, 1, 42, 7, 188, 10, 89, 3, 3, 79, 89, 4, 17, 14] := dq_sub (n := 0) (j := 0) dX4_init_w0 (by decide) rfl
theorem dX4_init_v1 : (cX4_init.data.toList.drop 16).take 16 = [16, 79, 89, 5, 17, 185, 176, 79, 89, 6, 17, 80, 220, 79, 181, 0] := dq_sub (n := 0) (j := 16) dX4_init_w0 (by decide) rfl
theorem dX4_init_v2 : (cX4_init.data.toList.drop 32).take 16 = [7, 42, 7, 188, 11, 181, 0, 13, 42, 16, 7, 188, 10, 181, 0, 17] := dq_sub (n := 0) (j := 32) dX4_init_w0 (by decide) rfl
theorem dX4_init_v3 : (cX4_init.data.toList.drop 48).take 16 = [42, 16, 7, 188, 10, 181, 0, 20, 42, 16, 7, 188, 10, 181, 0, 23] := dq_sub (n := 0) (j := 48) dX4_init_w0 (by decide) rfl
theorem dX4_init_v4 : (cX4_init.data.toList.drop 64).take 16 = [42, 16, 7, 188, 10, 181, 0, 26, 177] := dq_sub (n := 64) (j := 0) dX4_init_w1 (by decide) rfl
theorem dX4_init_0 : decode cX4_init 0 = .ok (.aload_n 0, 1) := dk_42 (dq_lk dX4_init_v0 (r := 0) (x := 42) rfl)
theorem dX4_init_1 : decode cX4_init 1 = .ok (.invokespecial 1, 3) := dk_183 (dq_lk dX4_init_v0 (r := 1) (x := 183) rfl) (dq_lk dX4_init_v0 (r := 2) (x := 0) rfl) (dq_lk dX4_init_v0 (r := 3) (x := 1) rfl)
theorem dX4_init_4 : decode cX4_init 4 = .ok (.aload_n 0, 1) := dk_42 (dq_lk dX4_init_v0 (r := 4) (x := 42) rfl)
theorem dX4_init_5 : decode cX4_init 5 = .ok (.iconst 4, 1) := dk_7 (dq_lk dX4_init_v0 (r := 5) (x := 7) rfl)
theorem dX4_init_6 : decode cX4_init 6 = .ok (.newarray .int, 2) := by decide +kernel
theorem dX4_init_8 : decode cX4_init 8 = .ok (.dup, 1) := dk_89 (dq_lk dX4_init_v0 (r := 8) (x := 89) rfl)
theorem dX4_init_9 : decode cX4_init 9 = .ok (.iconst 0, 1) := dk_3 (dq_lk dX4_init_v0 (r := 9) (x := 3) rfl)
theorem dX4_init_10 : decode cX4_init 10 = .ok (.iconst 0, 1) := dk_3 (dq_lk dX4_init_v0 (r := 10) (x := 3) rfl)
theorem dX4_init_11 : decode cX4_init 11 = .ok (.iastore, 1) := dk_79 (dq_lk dX4_init_v0 (r := 11) (x := 79) rfl)
theorem dX4_init_12 : decode cX4_init 12 = .ok (.dup, 1) := dk_89 (dq_lk dX4_init_v0 (r := 12) (x := 89) rfl)
theorem dX4_init_13 : decode cX4_init 13 = .ok (.iconst 1, 1) := dk_4 (dq_lk dX4_init_v0 (r := 13) (x := 4) rfl)
theorem dX4_init_14 : decode cX4_init 14 = .ok (.sipush 3600, 3) := dk_17 (dq_lk dX4_init_v0 (r := 14) (x := 17) rfl) (dq_lk dX4_init_v0 (r := 15) (x := 14) rfl) (dq_lk dX4_init_v1 (r := 0) (x := 16) rfl) (by decide +kernel)
theorem dX4_init_17 : decode cX4_init 17 = .ok (.iastore, 1) := dk_79 (dq_lk dX4_init_v1 (r := 1) (x := 79) rfl)
theorem dX4_init_18 : decode cX4_init 18 = .ok (.dup, 1) := dk_89 (dq_lk dX4_init_v1 (r := 2) (x := 89) rfl)
theorem dX4_init_19 : decode cX4_init 19 = .ok (.iconst 2, 1) := dk_5 (dq_lk dX4_init_v1 (r := 3) (x := 5) rfl)
theorem dX4_init_20 : decode cX4_init 20 = .ok (.sipush (-18000), 3) := dk_17 (dq_lk dX4_init_v1 (r := 4) (x := 17) rfl) (dq_lk dX4_init_v1 (r := 5) (x := 185) rfl) (dq_lk dX4_init_v1 (r := 6) (x := 176) rfl) (by decide +kernel)
theorem dX4_init_23 : decode cX4_init 23 = .ok (.iastore, 1) := dk_79 (dq_lk dX4_init_v1 (r := 7) (x := 79) rfl)
theorem dX4_init_24 : decode cX4_init 24 = .ok (.dup, 1) := dk_89 (dq_lk dX4_init_v1 (r := 8) (x := 89) rfl)
theorem dX4_init_25 : decode cX4_init 25 = .ok (.iconst 3, 1) := dk_6 (dq_lk dX4_init_v1 (r := 9) (x := 6) rfl)
theorem dX4_init_26 : decode cX4_init 26 = .ok (.sipush 20700, 3) := dk_17 (dq_lk dX4_init_v1 (r := 10) (x := 17) rfl) (dq_lk dX4_init_v1 (r := 11) (x := 80) rfl) (dq_lk dX4_init_v1 (r := 12) (x := 220) rfl) (by decide +kernel)
theorem dX4_init_29 : decode cX4_init 29 = .ok (.iastore, 1) := dk_79 (dq_lk dX4_init_v1 (r := 13) (x := 79) rfl)
theorem dX4_init_30 : decode cX4_init 30 = .ok (.putfield 7, 3) := dk_181 (dq_lk dX4_init_v1 (r := 14) (x := 181) rfl) (dq_lk dX4_init_v1 (r := 15) (x := 0) rfl) (dq_lk dX4_init_v2 (r := 0) (x := 7) rfl)
theorem dX4_init_33 : decode cX4_init 33 = .ok (.aload_n 0, 1) := dk_42 (dq_lk dX4_init_v2 (r := 1) (x := 42) rfl)
theorem dX4_init_34 : decode cX4_init 34 = .ok (.iconst 4, 1) := dk_7 (dq_lk dX4_init_v2 (r := 2) (x := 7) rfl)
theorem dX4_init_35 : decode cX4_init 35 = .ok (.newarray .long, 2) := by decide +kernel
theorem dX4_init_37 : decode cX4_init 37 = .ok (.putfield 13, 3) := dk_181 (dq_lk dX4_init_v2 (r := 5) (x := 181) rfl) (dq_lk dX4_init_v2 (r := 6) (x := 0) rfl) (dq_lk dX4_init_v2 (r := 7) (x := 13) rfl)
theorem dX4_init_40 : decode cX4_init 40 = .ok (.aload_n 0, 1) := dk_42 (dq_lk dX4_init_v2 (r := 8) (x := 42) rfl)
theorem dX4_init_41 : decode cX4_init 41 = .ok (.bipush 7, 2) := dk_16 (dq_lk dX4_init_v2 (r := 9) (x := 16) rfl) (dq_lk dX4_init_v2 (r := 10) (x := 7) rfl) (by decide +kernel)
theorem dX4_init_43 : decode cX4_init 43 = .ok (.newarray .int, 2) := by decide +kernel
theorem dX4_init_45 : decode cX4_init 45 = .ok (.putfield 17, 3) := dk_181 (dq_lk dX4_init_v2 (r := 13) (x := 181) rfl) (dq_lk dX4_init_v2 (r := 14) (x := 0) rfl) (dq_lk dX4_init_v2 (r := 15) (x := 17) rfl)
theorem dX4_init_48 : decode cX4_init 48 = .ok (.aload_n 0, 1) := dk_42 (dq_lk dX4_init_v3 (r := 0) (x := 42) rfl)
theorem dX4_init_49 : decode cX4_init 49 = .ok (.bipush 7, 2) := dk_16 (dq_lk dX4_init_v3 (r := 1) (x := 16) rfl) (dq_lk dX4_init_v3 (r := 2) (x := 7) rfl) (by decide +kernel)
theorem dX4_init_51 : decode cX4_init 51 = .ok (.newarray .int, 2) := by decide +kernel
theorem dX4_init_53 : decode cX4_init 53 = .ok (.putfield 20, 3) := dk_181 (dq_lk dX4_init_v3 (r := 5) (x := 181) rfl) (dq_lk dX4_init_v3 (r := 6) (x := 0) rfl) (dq_lk dX4_init_v3 (r := 7) (x := 20) rfl)
theorem dX4_init_56 : decode cX4_init 56 = .ok (.aload_n 0, 1) := dk_42 (dq_lk dX4_init_v3 (r := 8) (x := 42) rfl)
theorem dX4_init_57 : decode cX4_init 57 = .ok (.bipush 7, 2) := dk_16 (dq_lk dX4_init_v3 (r := 9) (x := 16) rfl) (dq_lk dX4_init_v3 (r := 10) (x := 7) rfl) (by decide +kernel)
theorem dX4_init_59 : decode cX4_init 59 = .ok (.newarray .int, 2) := by decide +kernel
theorem dX4_init_61 : decode cX4_init 61 = .ok (.putfield 23, 3) := dk_181 (dq_lk dX4_init_v3 (r := 13) (x := 181) rfl) (dq_lk dX4_init_v3 (r := 14) (x := 0) rfl) (dq_lk dX4_init_v3 (r := 15) (x := 23) rfl)
theorem dX4_init_64 : decode cX4_init 64 = .ok (.aload_n 0, 1) := dk_42 (dq_lk dX4_init_v4 (r := 0) (x := 42) rfl)
theorem dX4_init_65 : decode cX4_init 65 = .ok (.bipush 7, 2) := dk_16 (dq_lk dX4_init_v4 (r := 1) (x := 16) rfl) (dq_lk dX4_init_v4 (r := 2) (x := 7) rfl) (by decide +kernel)
theorem dX4_init_67 : decode cX4_init 67 = .ok (.newarray .int, 2) := by decide +kernel
theorem dX4_init_69 : decode cX4_init 69 = .ok (.putfield 26, 3) := dk_181 (dq_lk dX4_init_v4 (r := 5) (x := 181) rfl) (dq_lk dX4_init_v4 (r := 6) (x := 0) rfl) (dq_lk dX4_init_v4 (r := 7) (x := 26) rfl)
theorem dX4_init_72 : decode cX4_init 72 = .ok (.return_, 1) := dk_177 (dq_lk dX4_init_v4 (r := 8) (x := 177) rfl)
set_option maxHeartbeats 4000000 in
set_option maxRecDepth 20000 in
theorem c_X4_init (cs : ClassId × ClassId × ClassId) (a : Nat) (rest : va_W) : mCt (mTy cs) yX4_init cX4_init 1 none ⟨2, 6, 36, 33⟩ [.ref a] ((a, .inr (5, [.int 0, .int 0, .int 0, .null, .null, .null, .null, .null, .null])) :: rest) (fun v ws' => v = none ∧ ∃ ae : Nat → Nat, ae 0 = a ∧ ws' = mMd ae cs mJ0 rest) mNo := by
  refine mCt.ofI (by decide +kernel) rfl (Nat.le_of_ble_eq_true rfl) (fun X hX hi hE => ?_)
  replace hX : mOK X RX4 cX4_init 1 ⟨2, 6, 36, 33⟩ [] (mTy cs) := hX
  refine r_aload_n hX dX4_init_0 rfl rfl (r_objInit hX kob_X4 (Nat.le_of_ble_eq_true rfl) (Nat.le_of_ble_eq_true rfl) dX4_init_1 (r_aload_n hX dX4_init_4 rfl rfl (r_iconst (v := nI 4) hX dX4_init_5 (by decide) (r_newI (N := 4) hX 0 rfl (by decide) dX4_init_6 (Nat.le_of_ble_eq_true rfl) (Nat.le_of_ble_eq_true rfl) (fun q1 => ?_)))))
  refine r_dup hX dX4_init_8 rfl (r_iconst (v := 0) hX dX4_init_9 (by decide) (r_iconst (v := 0) hX dX4_init_10 (by decide) (r_iast hX 0 0 rfl rfl (vp_in_nI (n := 0) (N := 4) (by decide) (by decide)) dX4_init_11 (r_eqw (ws' := (q1, .inl (cs.1, 4, .inl (upd (fun _ => 0) (0 : Int32).toNatClampNeg (0)))) :: (a, .inr (5, [.int 0, .int 0, .int 0, .null, .null, .null, .null, .null, .null])) :: rest) rfl (r_dup hX dX4_init_12 rfl (r_iconst (v := 1) hX dX4_init_13 (by decide) (r_sipush (v := 3600) hX dX4_init_14 (by decide) ?_)))))))
  refine r_iast hX 0 0 rfl rfl (vp_in_nI (n := 1) (N := 4) (by decide) (by decide)) dX4_init_17 (r_eqw (ws' := (q1, .inl (cs.1, 4, .inl (upd (upd (fun _ => 0) (0 : Int32).toNatClampNeg (0)) (1 : Int32).toNatClampNeg (3600)))) :: (a, .inr (5, [.int 0, .int 0, .int 0, .null, .null, .null, .null, .null, .null])) :: rest) rfl (r_dup hX dX4_init_18 rfl (r_iconst (v := 2) hX dX4_init_19 (by decide) (r_sipush (v := -18000) hX dX4_init_20 (by decide) (r_iast hX 0 0 rfl rfl (vp_in_nI (n := 2) (N := 4) (by decide) (by decide)) dX4_init_23 (r_eqw (ws' := (q1, .inl (cs.1, 4, .inl (upd (upd (upd (fun _ => 0) (0 : Int32).toNatClampNeg (0)) (1 : Int32).toNatClampNeg (3600)) (2 : Int32).toNatClampNeg (-18000)))) :: (a, .inr (5, [.int 0, .int 0, .int 0, .null, .null, .null, .null, .null, .null])) :: rest) rfl (r_dup hX dX4_init_24 rfl ?_)))))))
  refine r_iconst (v := 3) hX dX4_init_25 (by decide) (r_sipush (v := 20700) hX dX4_init_26 (by decide) (r_iast hX 0 0 rfl rfl (vp_in_nI (n := 3) (N := 4) (by decide) (by decide)) dX4_init_29 (r_eqw (ws' := (q1, .inl (cs.1, 4, .inl (upd (upd (upd (upd (fun _ => 0) (0 : Int32).toNatClampNeg (0)) (1 : Int32).toNatClampNeg (3600)) (2 : Int32).toNatClampNeg (-18000)) (3 : Int32).toNatClampNeg (20700)))) :: (a, .inr (5, [.int 0, .int 0, .int 0, .null, .null, .null, .null, .null, .null])) :: rest) rfl (r_putF (y := yX4_init) hX hi kf_X4_7 1 rfl rfl rfl rfl rfl (Nat.le_of_ble_eq_true rfl) dX4_init_30 (r_eqw (ws' := (q1, .inl (cs.1, 4, .inl (upd (upd (upd (upd (fun _ => 0) (0 : Int32).toNatClampNeg (0)) (1 : Int32).toNatClampNeg (3600)) (2 : Int32).toNatClampNeg (-18000)) (3 : Int32).toNatClampNeg (20700)))) :: (a, .inr (5, [.int 0, .int 0, .int 0, .ref q1, .null, .null, .null, .null, .null])) :: rest) rfl (r_aload_n hX dX4_init_33 rfl rfl (r_iconst (v := nI 4) hX dX4_init_34 (by decide) ?_)))))))
  refine r_newL (N := 4) hX 1 rfl (by decide) dX4_init_35 (Nat.le_of_ble_eq_true rfl) (Nat.le_of_ble_eq_true rfl) (fun q2 => ?_)
  refine r_putF (y := yX4_init) hX hi kf_X4_13 2 rfl rfl rfl rfl rfl (Nat.le_of_ble_eq_true rfl) dX4_init_37 (r_eqw (ws' := (q2, .inl (cs.2.1, 4, .inr (.inl (fun _ => 0)))) :: (q1, .inl (cs.1, 4, .inl (upd (upd (upd (upd (fun _ => 0) (0 : Int32).toNatClampNeg (0)) (1 : Int32).toNatClampNeg (3600)) (2 : Int32).toNatClampNeg (-18000)) (3 : Int32).toNatClampNeg (20700)))) :: (a, .inr (5, [.int 0, .int 0, .int 0, .ref q1, .ref q2, .null, .null, .null, .null])) :: rest) rfl (r_aload_n hX dX4_init_40 rfl rfl (r_bipush (v := nI 7) hX dX4_init_41 (by decide) (r_newI (N := 7) hX 0 rfl (by decide) dX4_init_43 (Nat.le_of_ble_eq_true rfl) (Nat.le_of_ble_eq_true rfl) (fun q3 => ?_)))))
  refine r_putF (y := yX4_init) hX hi kf_X4_17 3 rfl rfl rfl rfl rfl (Nat.le_of_ble_eq_true rfl) dX4_init_45 (r_eqw (ws' := (q3, .inl (cs.1, 7, .inl (fun _ => 0))) :: (q2, .inl (cs.2.1, 4, .inr (.inl (fun _ => 0)))) :: (q1, .inl (cs.1, 4, .inl (upd (upd (upd (upd (fun _ => 0) (0 : Int32).toNatClampNeg (0)) (1 : Int32).toNatClampNeg (3600)) (2 : Int32).toNatClampNeg (-18000)) (3 : Int32).toNatClampNeg (20700)))) :: (a, .inr (5, [.int 0, .int 0, .int 0, .ref q1, .ref q2, .ref q3, .null, .null, .null])) :: rest) rfl (r_aload_n hX dX4_init_48 rfl rfl (r_bipush (v := nI 7) hX dX4_init_49 (by decide) (r_newI (N := 7) hX 0 rfl (by decide) dX4_init_51 (Nat.le_of_ble_eq_true rfl) (Nat.le_of_ble_eq_true rfl) (fun q4 => ?_)))))
  refine r_putF (y := yX4_init) hX hi kf_X4_20 4 rfl rfl rfl rfl rfl (Nat.le_of_ble_eq_true rfl) dX4_init_53 (r_eqw (ws' := (q4, .inl (cs.1, 7, .inl (fun _ => 0))) :: (q3, .inl (cs.1, 7, .inl (fun _ => 0))) :: (q2, .inl (cs.2.1, 4, .inr (.inl (fun _ => 0)))) :: (q1, .inl (cs.1, 4, .inl (upd (upd (upd (upd (fun _ => 0) (0 : Int32).toNatClampNeg (0)) (1 : Int32).toNatClampNeg (3600)) (2 : Int32).toNatClampNeg (-18000)) (3 : Int32).toNatClampNeg (20700)))) :: (a, .inr (5, [.int 0, .int 0, .int 0, .ref q1, .ref q2, .ref q3, .ref q4, .null, .null])) :: rest) rfl (r_aload_n hX dX4_init_56 rfl rfl (r_bipush (v := nI 7) hX dX4_init_57 (by decide) (r_newI (N := 7) hX 0 rfl (by decide) dX4_init_59 (Nat.le_of_ble_eq_true rfl) (Nat.le_of_ble_eq_true rfl) (fun q5 => ?_)))))
  refine r_putF (y := yX4_init) hX hi kf_X4_23 5 rfl rfl rfl rfl rfl (Nat.le_of_ble_eq_true rfl) dX4_init_61 (r_eqw (ws' := (q5, .inl (cs.1, 7, .inl (fun _ => 0))) :: (q4, .inl (cs.1, 7, .inl (fun _ => 0))) :: (q3, .inl (cs.1, 7, .inl (fun _ => 0))) :: (q2, .inl (cs.2.1, 4, .inr (.inl (fun _ => 0)))) :: (q1, .inl (cs.1, 4, .inl (upd (upd (upd (upd (fun _ => 0) (0 : Int32).toNatClampNeg (0)) (1 : Int32).toNatClampNeg (3600)) (2 : Int32).toNatClampNeg (-18000)) (3 : Int32).toNatClampNeg (20700)))) :: (a, .inr (5, [.int 0, .int 0, .int 0, .ref q1, .ref q2, .ref q3, .ref q4, .ref q5, .null])) :: rest) rfl (r_aload_n hX dX4_init_64 rfl rfl (r_bipush (v := nI 7) hX dX4_init_65 (by decide) (r_newI (N := 7) hX 0 rfl (by decide) dX4_init_67 (Nat.le_of_ble_eq_true rfl) (Nat.le_of_ble_eq_true rfl) (fun q6 => ?_)))))
  refine r_putF (y := yX4_init) hX hi kf_X4_26 6 rfl rfl rfl rfl rfl (Nat.le_of_ble_eq_true rfl) dX4_init_69 (r_eqw (ws' := (q6, .inl (cs.1, 7, .inl (fun _ => 0))) :: (q5, .inl (cs.1, 7, .inl (fun _ => 0))) :: (q4, .inl (cs.1, 7, .inl (fun _ => 0))) :: (q3, .inl (cs.1, 7, .inl (fun _ => 0))) :: (q2, .inl (cs.2.1, 4, .inr (.inl (fun _ => 0)))) :: (q1, .inl (cs.1, 4, .inl (upd (upd (upd (upd (fun _ => 0) (0 : Int32).toNatClampNeg (0)) (1 : Int32).toNatClampNeg (3600)) (2 : Int32).toNatClampNeg (-18000)) (3 : Int32).toNatClampNeg (20700)))) :: (a, .inr (5, [.int 0, .int 0, .int 0, .ref q1, .ref q2, .ref q3, .ref q4, .ref q5, .ref q6])) :: rest) rfl (r_part (B := [(q6, .inl (cs.1, 7, .inl (fun _ => 0))), (q5, .inl (cs.1, 7, .inl (fun _ => 0))), (q4, .inl (cs.1, 7, .inl (fun _ => 0))), (q3, .inl (cs.1, 7, .inl (fun _ => 0))), (q2, .inl (cs.2.1, 4, .inr (.inl (fun _ => 0)))), (q1, .inl (cs.1, 4, .inl (upd (upd (upd (upd (fun _ => 0) (0 : Int32).toNatClampNeg (0)) (1 : Int32).toNatClampNeg (3600)) (2 : Int32).toNatClampNeg (-18000)) (3 : Int32).toNatClampNeg (20700)))), (a, .inr (5, [.int 0, .int 0, .int 0, .ref q1, .ref q2, .ref q3, .ref q4, .ref q5, .ref q6]))]) (C := mMd (fun i => [a, q1, q2, q3, q4, q5, q6].getD i 0) cs mJ0 []) (pl := rest) [6, 5, 4, 3, 2, 1, 0] rfl rfl ?_))
  exact r_vret hX hE dX4_init_72 (Nat.le_of_ble_eq_true rfl) (Nat.le_of_ble_eq_true rfl) ⟨rfl, (fun i => [a, q1, q2, q3, q4, q5, q6].getD i 0), rfl, rfl⟩
end
-- 32 text
section
/-! Rows for texts. (Own work.) -/
set_option maxRecDepth 20000 in
theorem klC : (Cond.castable "[B" "java/lang/Cloneable") ∈ mW := mtb_3 (List.mem_of_getElem? (i := 74) rfl) rfl
set_option maxRecDepth 20000 in
theorem klE : (Cond.selects "[B" ⟨"[B", "clone", "()Ljava/lang/Object;"⟩ ⟨"java/lang/Object", "clone", "()Ljava/lang/Object;"⟩) ∈ mW := mtb_3 (List.mem_of_getElem? (i := 73) rfl) rfl
set_option maxRecDepth 20000 in
theorem klI : (Cond.instanceMethod ⟨"java/lang/Object", "clone", "()Ljava/lang/Object;"⟩) ∈ mW := mtb_3 (List.mem_of_getElem? (i := 72) rfl) rfl
set_option maxRecDepth 20000 in
theorem klN : (Cond.native ⟨"java/lang/Object", "clone", "()Ljava/lang/Object;"⟩) ∈ mW := mtb_3 (List.mem_of_getElem? (i := 71) rfl) rfl
set_option maxRecDepth 20000 in
theorem klS : (Cond.sameMethod "[B" "java/lang/Object" "clone" "()Ljava/lang/Object;") ∈ mW := mtb_3 (List.mem_of_getElem? (i := 70) rfl) rfl
set_option maxRecDepth 20000 in
theorem kaC : (Cond.code Lib.MathLoose.abs_long.x Lib.MathLoose.abs_long.code 2 (some .long)) ∈ mW := mtb_3 (List.mem_of_getElem? (i := 37) rfl) rfl
set_option maxRecDepth 20000 in
theorem knC : (Cond.code Lib.Math.min.name Lib.Math.min.code 2 (some .int)) ∈ mW := mtb_3 (List.mem_of_getElem? (i := 78) rfl) rfl
set_option maxRecDepth 20000 in
theorem kxC : (Cond.code Lib.Math.max.name Lib.Math.max.code 2 (some .int)) ∈ mW := mtb_3 (List.mem_of_getElem? (i := 60) rfl) rfl
set_option maxRecDepth 20000 in
theorem kxI : (Cond.initialized "java/lang/Math") ∈ mW := mtb_1 (List.mem_of_getElem? (i := 10) rfl) rfl
set_option maxRecDepth 20000 in
theorem kaS : (Cond.static Lib.MathLoose.abs_long.x) ∈ mW := mtb_3 (List.mem_of_getElem? (i := 36) rfl) rfl
set_option maxRecDepth 20000 in
theorem knS : (Cond.static Lib.Math.min.name) ∈ mW := mtb_3 (List.mem_of_getElem? (i := 77) rfl) rfl
set_option maxRecDepth 20000 in
theorem kxS : (Cond.static Lib.Math.max.name) ∈ mW := mtb_3 (List.mem_of_getElem? (i := 59) rfl) rfl
set_option maxRecDepth 20000 in
theorem kcI : (Cond.initialized "java/lang/System") ∈ mW := mtb_1 (List.mem_of_getElem? (i := 17) rfl) rfl
set_option maxRecDepth 20000 in
theorem kcS : (Cond.static arraycopyName) ∈ mW := mtb_3 (List.mem_of_getElem? (i := 80) rfl) rfl
set_option maxRecDepth 20000 in
theorem kcN : (Cond.native arraycopyName) ∈ mW := mtb_3 (List.mem_of_getElem? (i := 81) rfl) rfl
set_option maxRecDepth 20000 in
theorem kab : (Cond.arrayClass .byte) ∈ mW := mtb_1 (List.mem_of_getElem? (i := 188) rfl) rfl
section MT
variable {X : mC} {own : String} {cc : ByteArray} {nL : Nat} {R : Room} {hh : List (Nat × Nat × Nat × Nat)} {tys : List (ClassId × FieldType)} {pc : Nat} {lv : List (Nat × Option Value)} {st : List Value} {ws : va_W} {k n : Nat}
variable {Φ : Option Value → va_W → Prop} {Ψ : String → va_W → Prop} {mc ms : Nat} {ret : Option FieldType}

theorem r_ishl {x : Int32} (hX : mOK X own cc nL R hh tys) (hd : decode cc pc = .ok (.ishl, 1)) (kk : mV X (pc + 1) lv (.int x :: st) ws k n) : mV X pc lv (.int 0 :: .int x :: st) ws k n := by
  obtain ⟨p, l, e, R', s, m, args, below, meth, c, Q, D, tys', A⟩ := X
  obtain ⟨hx, hb, hml, hR, hown, hts, hK, hty, hlk, hA, hst, hlt, htab⟩ := hX
  exact fun H locs ls hP hD hS hl => lv_ishl hx hb hd (by rw [sb_shl0]; exact kk H locs ls hP hD hS hl)
theorem r_ishr {x : Int32} (hX : mOK X own cc nL R hh tys) (hd : decode cc pc = .ok (.ishr, 1)) (kk : mV X (pc + 1) lv (.int x :: st) ws k n) : mV X pc lv (.int 0 :: .int x :: st) ws k n := by
  obtain ⟨p, l, e, R', s, m, args, below, meth, c, Q, D, tys', A⟩ := X
  obtain ⟨hx, hb, hml, hR, hown, hts, hK, hty, hlk, hA, hst, hlt, htab⟩ := hX
  exact fun H locs ls hP hD hS hl => lv_ishr hx hb hd (by rw [sb_shr0]; exact kk H locs ls hP hD hS hl)
theorem r_ishr1 {x y : Int32} (hX : mOK X own cc nL R hh tys) (hd : decode cc pc = .ok (.ishr, 1))  (kk : mV X (pc + 1) lv (.int (x >>> (y &&& 31)) :: st) ws k n) : mV X pc lv (.int y :: .int x :: st) ws k n := by
  obtain ⟨p, l, e, R', s, m, args, below, meth, c, Q, D, tys', A⟩ := X
  obtain ⟨hx, hb, hml, hR, hown, hts, hK, hty, hlk, hA, hst, hlt, htab⟩ := hX
  exact fun H locs ls hP hD hS hl => lv_ishr hx hb hd  (kk H locs ls hP hD hS hl)
theorem r_i2b {x : Int32} (hX : mOK X own cc nL R hh tys) (hd : decode cc pc = .ok (.i2b, 1))  (kk : mV X (pc + 1) lv (.int x.toInt8.toInt32 :: st) ws k n) : mV X pc lv (.int x :: st) ws k n := by
  obtain ⟨p, l, e, R', s, m, args, below, meth, c, Q, D, tys', A⟩ := X
  obtain ⟨hx, hb, hml, hR, hown, hts, hK, hty, hlk, hA, hst, hlt, htab⟩ := hX
  exact fun H locs ls hP hD hS hl => lv_i2b hx hb hd rfl (kk H locs ls hP hD hS hl)
theorem r_i2c {x v : Int32} (hX : mOK X own cc nL R hh tys) (hd : decode cc pc = .ok (.i2c, 1)) (hv : (x.toUInt32 % 65536).toInt32 = v) (kk : mV X (pc + 1) lv (.int v :: st) ws k n) : mV X pc lv (.int x :: st) ws k n := by
  obtain ⟨p, l, e, R', s, m, args, below, meth, c, Q, D, tys', A⟩ := X
  obtain ⟨hx, hb, hml, hR, hown, hts, hK, hty, hlk, hA, hst, hlt, htab⟩ := hX
  exact fun H locs ls hP hD hS hl => lv_i2c hx hb hd hv (kk H locs ls hP hD hS hl)
theorem r_dupx1 {va vb : Value} (hX : mOK X own cc nL R hh tys) (hd : decode cc pc = .ok (.dup_x1, 1)) (h1 : va.category = 1) (h2 : vb.category = 1) (kk : mV X (pc + 1) lv (va :: vb :: va :: st) ws k n) : mV X pc lv (va :: vb :: st) ws k n := by
  obtain ⟨p, l, e, R', s, m, args, below, meth, c, Q, D, tys', A⟩ := X
  obtain ⟨hx, hb, hml, hR, hown, hts, hK, hty, hlk, hA, hst, hlt, htab⟩ := hX
  exact fun H locs ls hP hD hS hl => lv_dup_x1 hx hb hd h1 h2 (kk H locs ls hP hD hS hl)
theorem r_null (hX : mOK X own cc nL R hh tys) (hd : decode cc pc = .ok (.aconst_null, 1)) (kk : mV X (pc + 1) lv (.null :: st) ws k n) : mV X pc lv st ws k n := by
  obtain ⟨p, l, e, R', s, m, args, below, meth, c, Q, D, tys', A⟩ := X
  obtain ⟨hx, hb, hml, hR, hown, hts, hK, hty, hlk, hA, hst, hlt, htab⟩ := hX
  exact fun H locs ls hP hD hS hl => lv_null hx hb hd (kk H locs ls hP hD hS hl)
theorem r_compact {idx : Nat} (hX : mOK X own cc nL R hh tys) (hw : Cond.fieldLink own idx "java/lang/String" "COMPACT_STRINGS" "Z" ∈ mW) (hd : decode cc pc = .ok (.getstatic idx, 3)) (kk : mV X (pc + 3) lv (.int 1 :: st) ws k n) : mV X pc lv st ws k n := by
  obtain ⟨p, l, e, R', s, m, args, below, meth, c, Q, D, tys', A⟩ := X
  obtain ⟨hx, hb, hml, hR, hown, hts, hK, hty, hlk, hA, hst, hlt, htab⟩ := hX
  exact fun H locs ls hP hD hS hl => va_gets hx hb hst.2.2.2.2.1 hS hown (hts _ hw) (fun _ h => h) hd (kk H locs ls hP hD hS hl)
/-- a table of bytes that nobody writes -/
def mTb (X : mC) (t : Nat) (f : Nat → Int32) : Prop := match X with
  | (_, _, _, _, s, _, _, _, _, _, _, _, _, A) => va_T .byte t 100 (fun j => .int (f j)) A s s.heap
theorem r_ones {idx : Nat} (hX : mOK X own cc nL R hh tys) (hw : Cond.fieldLink own idx "java/lang/Integer" "DigitOnes" "[B" ∈ mW) (hd : decode cc pc = .ok (.getstatic idx, 3)) (kk : ∀ t, mTb X t (fun j => nI (48 + j % 10)) → mV X (pc + 3) lv (.ref t :: st) ws k n) : mV X pc lv st ws k n := by
  obtain ⟨p, l, e, R', s, m, args, below, meth, c, Q, D, tys', A⟩ := X
  obtain ⟨hx, hb, hml, hR, hown, hts, hK, hty, hlk, hA, hst, hlt, htab⟩ := hX
  obtain ⟨t, h1, h2⟩ := hst.2.2.2.2.2.1
  exact fun H locs ls hP hD hS hl => va_gets hx hb h1 hS hown (hts _ hw) (fun _ h => h) hd (kk t h2 H locs ls hP hD hS hl)
theorem r_tens {idx : Nat} (hX : mOK X own cc nL R hh tys) (hw : Cond.fieldLink own idx "java/lang/Integer" "DigitTens" "[B" ∈ mW) (hd : decode cc pc = .ok (.getstatic idx, 3)) (kk : ∀ t, mTb X t (fun j => nI (48 + j / 10)) → mV X (pc + 3) lv (.ref t :: st) ws k n) : mV X pc lv st ws k n := by
  obtain ⟨p, l, e, R', s, m, args, below, meth, c, Q, D, tys', A⟩ := X
  obtain ⟨hx, hb, hml, hR, hown, hts, hK, hty, hlk, hA, hst, hlt, htab⟩ := hX
  obtain ⟨t, h1, h2⟩ := hst.2.2.2.2.2.2.1
  exact fun H locs ls hP hD hS hl => va_gets hx hb h1 hS hown (hts _ hw) (fun _ h => h) hd (kk t h2 H locs ls hP hD hS hl)
theorem r_tb {t : Nat} {f : Nat → Int32} {i : Int32} (hX : mOK X own cc nL R hh tys) (ht : mTb X t f) (hin : vp_in i 100) (hd : decode cc pc = .ok (.baload, 1)) (kk : mV X (pc + 1) lv (.int (f i.toNatClampNeg) :: st) ws k n) : mV X pc lv (.int i :: .ref t :: st) ws k n := by
  obtain ⟨p, l, e, R', s, m, args, below, meth, c, Q, D, tys', A⟩ := X
  obtain ⟨hx, hb, hml, hR, hown, hts, hK, hty, hlk, hA, hst, hlt, htab⟩ := hX
  exact fun H locs ls hP hD hS hl => va_tb hx hb ht hS hin rfl hd (kk H locs ls hP hD hS hl)
theorem r_bald {a n0 : Nat} {cA : ClassId} {f : Nat → Int32} {i : Int32} (hX : mOK X own cc nL R hh tys) (q0 t0 : Nat) (he : ws[q0]? = some (a, .inl (cA, n0, .inl f))) (ht : tys[t0]? = some (cA, .byte)) (hin : vp_in i n0) (hd : decode cc pc = .ok (.baload, 1)) (kk : mV X (pc + 1) lv (.int (f i.toNatClampNeg) :: st) ws k n) : mV X pc lv (.int i :: .ref a :: st) ws k n := by
  obtain ⟨p, l, e, R', s, m, args, below, meth, c, Q, D, tys', A⟩ := X
  obtain ⟨hx, hb, hml, hR, hown, hts, hK, hty, hlk, hA, hst, hlt, htab⟩ := hX
  exact fun H locs ls hP hD hS hl => va_bald hx hb hK hP q0 t0 he ht hin hd (kk H locs ls hP hD hS hl)
theorem r_bast {a n0 : Nat} {cA : ClassId} {f : Nat → Int32} {i x : Int32} (hX : mOK X own cc nL R hh tys) (q0 t0 : Nat) (he : ws[q0]? = some (a, .inl (cA, n0, .inl f))) (ht : tys[t0]? = some (cA, .byte)) (hin : vp_in i n0) (hd : decode cc pc = .ok (.bastore, 1)) (kk : mV X (pc + 1) lv st (ws.set q0 (a, .inl (cA, n0, .inl (upd f i.toNatClampNeg (vp_nar .byte x))))) k n) : mV X pc lv (.int x :: .int i :: .ref a :: st) ws k n := by
  obtain ⟨p, l, e, R', s, m, args, below, meth, c, Q, D, tys', A⟩ := X
  obtain ⟨hx, hb, hml, hR, hown, hts, hK, hty, hlk, hA, hst, hlt, htab⟩ := hX
  exact fun H locs ls hP hD hS hl => va_bast hx hb hK hP hD hS q0 t0 he ht hin hd (fun H1 locs1 hP1 hD1 hS1 => kk H1 locs1 ls hP1 hD1 hS1 hl)
theorem r_newB {N : Nat} {cA : ClassId} (hX : mOK X own cc nL R hh tys) (t0 : Nat) (ht : tys[t0]? = some (cA, .byte)) (hN : N < 100000) (hd : decode cc pc = .ok (.newarray .byte, 2)) (hc : k + 1 ≤ R.cells) (hs : n + N ≤ R.slots) (kk : ∀ q, mV X (pc + 2) lv (.ref q :: st) ((q, .inl (cA, N, .inl (fun _ => 0))) :: ws) (k + 1) (n + N)) : mV X pc lv (.int (nI N) :: st) ws k n :=
  r_newA hX t0 ht kab rfl (by decide) (fun U c1 c2 h1 h2 => Option.some.inj ((show U.vm.findClass _ = some c1 from h1).symm.trans h2)) (fun cA => by rw [vp_cell_i]; rfl) hN hd hc hs kk
theorem r_copyb {a a0 n0 n1 idx : Nat} {c0 c1 : ClassId} {f g : Nat → Int32} {sp dp z : Int32} (hX : mOK X own cc nL R hh tys) (hw : Cond.methodLink own idx arraycopyName ∈ mW) (q0 q1 t0 t1 : Nat) (h0 : ws[q0]? = some (a0, .inl (c0, n0, .inl f))) (h1 : ws[q1]? = some (a, .inl (c1, n1, .inl g))) (ht0 : tys[t0]? = some (c0, .byte)) (ht1 : tys[t1]? = some (c1, .byte)) (g1 : ¬ sp < 0) (g2 : ¬ dp < 0) (g3 : ¬ z < 0) (g4 : sp.toNatClampNeg + z.toNatClampNeg ≤ n0) (g5 : dp.toNatClampNeg + z.toNatClampNeg ≤ n1) (hfit : sb_Fit f) (hfr : 1 ≤ R.frames) (hlo : (st.map fun v => v.category).sum + 100 ≤ R.locals) (hd : decode cc pc = .ok (.invokestatic idx, 3)) (kk : mV X (pc + 3) lv st (ws.set q1 (a, .inl (c1, n1, .inl (va_cpy f g sp.toNatClampNeg dp.toNatClampNeg z.toNatClampNeg)))) k n) : mV X pc lv (.int z :: .int dp :: .ref a :: .int sp :: .ref a0 :: st) ws k n := by
  obtain ⟨p, l, e, R', s, m, args, below, meth, c, Q, D, tys', A⟩ := X
  obtain ⟨hx, hb, hml, hR, hown, hts, hK, hty, hlk, hA, hst, hlt, htab⟩ := hX
  subst hR
  exact fun H locs ls hP hD hS hl => va_copyi hx hb hl.1.symm hown (hts _ hw) (hts _ kcN) (hts _ kcS) (hts _ kcI) hK hP hD hS q0 q1 t0 t1 h0 h1 ht0 ht1 rfl g1 g2 g3 g4 g5 (fun i _ => hfit _) hfr (Nat.le_trans (Nat.add_le_add_left (by decide) _) hlo) hd (fun H1 locs1 hP1 hD1 hS1 => kk H1 locs1 ls hP1 hD1 hS1 hl)
theorem r_mmax {idx : Nat} {x y : Int32} (hX : mOK X own cc nL R hh tys) (hw : Cond.methodLink own idx Lib.Math.max.name ∈ mW) (hfr : 1 ≤ R.frames) (hlo : (st.map fun v => v.category).sum + 13 ≤ R.locals) (hc : k ≤ R.cells) (hs : n ≤ R.slots) (hd : decode cc pc = .ok (.invokestatic idx, 3)) (kk : mV X (pc + 3) lv (.int (if x < y then y else x) :: st) ws k n) : mV X pc lv (.int y :: .int x :: st) ws k n := by
  obtain ⟨p, l, e, R', s, m, args, below, meth, c, Q, D, tys', A⟩ := X
  obtain ⟨hx, hb, hml, hR, hown, hts, hK, hty, hlk, hA, hst, hlt, htab⟩ := hX
  subst hR
  exact fun H locs ls hP hD hS hl => va_mmax hx hb hl.1.symm hown (hts _ hw) (hts _ kxS) (hts _ kxI) (hts _ kxC) hfr hlo hc hs hd (kk H locs ls hP hD hS hl)
theorem r_mmin {idx : Nat} {x y : Int32} (hX : mOK X own cc nL R hh tys) (hw : Cond.methodLink own idx Lib.Math.min.name ∈ mW) (hfr : 1 ≤ R.frames) (hlo : (st.map fun v => v.category).sum + 13 ≤ R.locals) (hc : k ≤ R.cells) (hs : n ≤ R.slots) (hd : decode cc pc = .ok (.invokestatic idx, 3)) (kk : mV X (pc + 3) lv (.int (if y < x then y else x) :: st) ws k n) : mV X pc lv (.int y :: .int x :: st) ws k n := by
  obtain ⟨p, l, e, R', s, m, args, below, meth, c, Q, D, tys', A⟩ := X
  obtain ⟨hx, hb, hml, hR, hown, hts, hK, hty, hlk, hA, hst, hlt, htab⟩ := hX
  subst hR
  exact fun H locs ls hP hD hS hl => va_mmin hx hb hl.1.symm hown (hts _ hw) (hts _ knS) (hts _ kxI) (hts _ knC) hfr hlo hc hs hd (kk H locs ls hP hD hS hl)
theorem r_mabsl {idx : Nat} {x : Int64} (hX : mOK X own cc nL R hh tys) (hw : Cond.methodLink own idx Lib.MathLoose.abs_long.x ∈ mW) (hfr : 1 ≤ R.frames) (hlo : (st.map fun v => v.category).sum + 13 ≤ R.locals) (hc : k ≤ R.cells) (hs : n ≤ R.slots) (hd : decode cc pc = .ok (.invokestatic idx, 3)) (kk : mV X (pc + 3) lv (.long (if 0 < x then x else -x) :: st) ws k n) : mV X pc lv (.long x :: st) ws k n := by
  obtain ⟨p, l, e, R', s, m, args, below, meth, c, Q, D, tys', A⟩ := X
  obtain ⟨hx, hb, hml, hR, hown, hts, hK, hty, hlk, hA, hst, hlt, htab⟩ := hX
  subst hR
  exact fun H locs ls hP hD hS hl => va_mabs_long hx hb hl.1.symm hown (hts _ hw) (hts _ kaS) (hts _ kxI) (hts _ kaC) hfr hlo hc hs hd (kk H locs ls hP hD hS hl)
theorem r_clone {a idx : Nat} {cA : ClassId} {n0 : Nat} {f : Nat → Int32} (hX : mOK X own cc nL R hh tys) (hw : Cond.methodLink own idx ⟨"[B", "clone", "()Ljava/lang/Object;"⟩ ∈ mW) (q0 t0 : Nat) (he : ws[q0]? = some (a, .inl (cA, n0, .inl f))) (ht : tys[t0]? = some (cA, .byte)) (hfit : sb_Fit f) (hfr : 1 ≤ R.frames) (hlo : (st.map fun v => v.category).sum + 14 ≤ R.locals) (hc : k + 1 ≤ R.cells) (hs : n + n0 ≤ R.slots) (hd : decode cc pc = .ok (.invokevirtual idx, 3)) (kk : ∀ q, mV X (pc + 3) lv (.ref q :: st) ((q, .inl (cA, n0, .inl f)) :: ws) (k + 1) (n + n0)) : mV X pc lv (.ref a :: st) ws k n := by
  obtain ⟨p, l, e, R', s, m, args, below, meth, c, Q, D, tys', A⟩ := X
  obtain ⟨hx, hb, hml, hR, hown, hts, hK, hty, hlk, hA, hst, hlt, htab⟩ := hX
  subst hR
  exact fun H locs ls hP hD hS hl => va_clone (ad := "[B") hx hb hl.1.symm hown (hts _ hw) (hts _ klS) (hts _ klN) (hts _ klI) (hts _ klE) (va_Nw.of rfl (hts _ klC)) hK hP hD hS hA q0 t0 he ht (hK.2 t0 _ ht).2 (fun i v hv => by
    rw [vp_cell_i] at hv
    exact va_fit (fun i _ => hfit i) i v hv) hfr hlo hc hs hd (fun q H1 _ hP1 hD1 hS1 => kk q H1 locs ls (va_P.swap (a := []) (b := ws) (c := [_]) hP1) (va_D.swap (a := []) (b := ws) (c := [_]) hD1) hS1 hl)
theorem r_castB {a idx : Nat} {cA : ClassId} {x : vp_A} (hX : mOK X own cc nL R hh tys) (hw : Cond.classLink own idx "[B" ∈ mW) (q0 t0 : Nat) (he : ws[q0]? = some (a, .inl (cA, x))) (ht : tys[t0]? = some (cA, .byte)) (hd : decode cc pc = .ok (.checkcast idx, 3)) (kk : mV X (pc + 3) lv (.ref a :: st) ws k n) : mV X pc lv (.ref a :: st) ws k n := by
  obtain ⟨p, l, e, R', s, m, args, below, meth, c, Q, D, tys', A⟩ := X
  obtain ⟨hx, hb, hml, hR, hown, hts, hK, hty, hlk, hA, hst, hlt, htab⟩ := hX
  exact fun H locs ls hP hD hS hl => va_castA hx hb hown (hts _ hw) hP q0 he (hK.2 t0 _ ht).2 hd (kk H locs ls hP hD hS hl)
end MT
end
