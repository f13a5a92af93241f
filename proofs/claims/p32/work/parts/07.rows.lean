-- 45 wrap
section
/-! The law's wrappers. (Rows by a program of this repository.) -/
theorem dL_orderOffset_v0 : (cL_orderOffset.data.toList.drop 0).take 16 = [45, 42, 27, 28, 182, 0, 31, 133, 181, 0, 13, 167, 0, 7, 58, 4] := by decide +kernel
theorem dL_orderOffset_v1 : (cL_orderOffset.data.toList.drop 16).take 16 = [4, 172, 3, 172] := by decide +kernel
theorem dL_orderOffset_0 : decode cL_orderOffset 0 = .ok (.aload_n 3, 1) := dk_45 (dq_lk dL_orderOffset_v0 (r := 0) (x := 45) rfl)
theorem dL_orderOffset_1 : decode cL_orderOffset 1 = .ok (.aload_n 0, 1) := dk_42 (dq_lk dL_orderOffset_v0 (r := 1) (x := 42) rfl)
theorem dL_orderOffset_2 : decode cL_orderOffset 2 = .ok (.iload_n 1, 1) := dk_27 (dq_lk dL_orderOffset_v0 (r := 2) (x := 27) rfl)
theorem dL_orderOffset_3 : decode cL_orderOffset 3 = .ok (.iload_n 2, 1) := dk_28 (dq_lk dL_orderOffset_v0 (r := 3) (x := 28) rfl)
theorem dL_orderOffset_4 : decode cL_orderOffset 4 = .ok (.invokevirtual 31, 3) := dk_182 (dq_lk dL_orderOffset_v0 (r := 4) (x := 182) rfl) (dq_lk dL_orderOffset_v0 (r := 5) (x := 0) rfl) (dq_lk dL_orderOffset_v0 (r := 6) (x := 31) rfl)
theorem dL_orderOffset_7 : decode cL_orderOffset 7 = .ok (.i2l, 1) := dk_133 (dq_lk dL_orderOffset_v0 (r := 7) (x := 133) rfl)
theorem dL_orderOffset_8 : decode cL_orderOffset 8 = .ok (.putfield 13, 3) := dk_181 (dq_lk dL_orderOffset_v0 (r := 8) (x := 181) rfl) (dq_lk dL_orderOffset_v0 (r := 9) (x := 0) rfl) (dq_lk dL_orderOffset_v0 (r := 10) (x := 13) rfl)
theorem dL_orderOffset_11 : decode cL_orderOffset 11 = .ok (.goto 7, 3) := dk_167 (dq_lk dL_orderOffset_v0 (r := 11) (x := 167) rfl) (dq_lk dL_orderOffset_v0 (r := 12) (x := 0) rfl) (dq_lk dL_orderOffset_v0 (r := 13) (x := 7) rfl) (by decide +kernel)
theorem dL_orderOffset_14 : decode cL_orderOffset 14 = .ok (.astore 4, 2) := dk_58 (dq_lk dL_orderOffset_v0 (r := 14) (x := 58) rfl) (dq_lk dL_orderOffset_v0 (r := 15) (x := 4) rfl)
theorem dL_orderOffset_16 : decode cL_orderOffset 16 = .ok (.iconst 1, 1) := dk_4 (dq_lk dL_orderOffset_v1 (r := 0) (x := 4) rfl)
theorem dL_orderOffset_17 : decode cL_orderOffset 17 = .ok (.ireturn, 1) := dk_172 (dq_lk dL_orderOffset_v1 (r := 1) (x := 172) rfl)
theorem dL_orderOffset_18 : decode cL_orderOffset 18 = .ok (.iconst 0, 1) := dk_3 (dq_lk dL_orderOffset_v1 (r := 2) (x := 3) rfl)
theorem dL_orderOffset_19 : decode cL_orderOffset 19 = .ok (.ireturn, 1) := dk_172 (dq_lk dL_orderOffset_v1 (r := 3) (x := 172) rfl)
theorem dL_moment_v0 : (cL_moment.data.toList.drop 0).take 16 = [25, 4, 42, 27, 28, 29, 182, 0, 34, 133, 181, 0, 13, 167, 0, 7] := by decide +kernel
theorem dL_moment_v1 : (cL_moment.data.toList.drop 16).take 16 = [58, 5, 4, 172, 3, 172] := by decide +kernel
theorem dL_moment_0 : decode cL_moment 0 = .ok (.aload 4, 2) := dk_25 (dq_lk dL_moment_v0 (r := 0) (x := 25) rfl) (dq_lk dL_moment_v0 (r := 1) (x := 4) rfl)
theorem dL_moment_2 : decode cL_moment 2 = .ok (.aload_n 0, 1) := dk_42 (dq_lk dL_moment_v0 (r := 2) (x := 42) rfl)
theorem dL_moment_3 : decode cL_moment 3 = .ok (.iload_n 1, 1) := dk_27 (dq_lk dL_moment_v0 (r := 3) (x := 27) rfl)
theorem dL_moment_4 : decode cL_moment 4 = .ok (.iload_n 2, 1) := dk_28 (dq_lk dL_moment_v0 (r := 4) (x := 28) rfl)
theorem dL_moment_5 : decode cL_moment 5 = .ok (.iload_n 3, 1) := dk_29 (dq_lk dL_moment_v0 (r := 5) (x := 29) rfl)
theorem dL_moment_6 : decode cL_moment 6 = .ok (.invokevirtual 34, 3) := dk_182 (dq_lk dL_moment_v0 (r := 6) (x := 182) rfl) (dq_lk dL_moment_v0 (r := 7) (x := 0) rfl) (dq_lk dL_moment_v0 (r := 8) (x := 34) rfl)
theorem dL_moment_9 : decode cL_moment 9 = .ok (.i2l, 1) := dk_133 (dq_lk dL_moment_v0 (r := 9) (x := 133) rfl)
theorem dL_moment_10 : decode cL_moment 10 = .ok (.putfield 13, 3) := dk_181 (dq_lk dL_moment_v0 (r := 10) (x := 181) rfl) (dq_lk dL_moment_v0 (r := 11) (x := 0) rfl) (dq_lk dL_moment_v0 (r := 12) (x := 13) rfl)
theorem dL_moment_13 : decode cL_moment 13 = .ok (.goto 7, 3) := dk_167 (dq_lk dL_moment_v0 (r := 13) (x := 167) rfl) (dq_lk dL_moment_v0 (r := 14) (x := 0) rfl) (dq_lk dL_moment_v0 (r := 15) (x := 7) rfl) (by decide +kernel)
theorem dL_moment_16 : decode cL_moment 16 = .ok (.astore 5, 2) := dk_58 (dq_lk dL_moment_v1 (r := 0) (x := 58) rfl) (dq_lk dL_moment_v1 (r := 1) (x := 5) rfl)
theorem dL_moment_18 : decode cL_moment 18 = .ok (.iconst 1, 1) := dk_4 (dq_lk dL_moment_v1 (r := 2) (x := 4) rfl)
theorem dL_moment_19 : decode cL_moment 19 = .ok (.ireturn, 1) := dk_172 (dq_lk dL_moment_v1 (r := 3) (x := 172) rfl)
theorem dL_moment_20 : decode cL_moment 20 = .ok (.iconst 0, 1) := dk_3 (dq_lk dL_moment_v1 (r := 4) (x := 3) rfl)
theorem dL_moment_21 : decode cL_moment 21 = .ok (.ireturn, 1) := dk_172 (dq_lk dL_moment_v1 (r := 5) (x := 172) rfl)
theorem dL_milli_v0 : (cL_milli.data.toList.drop 0).take 16 = [25, 4, 42, 27, 28, 29, 182, 0, 38, 133, 181, 0, 13, 167, 0, 7] := by decide +kernel
theorem dL_milli_v1 : (cL_milli.data.toList.drop 16).take 16 = [58, 5, 4, 172, 3, 172] := by decide +kernel
theorem dL_milli_0 : decode cL_milli 0 = .ok (.aload 4, 2) := dk_25 (dq_lk dL_milli_v0 (r := 0) (x := 25) rfl) (dq_lk dL_milli_v0 (r := 1) (x := 4) rfl)
theorem dL_milli_2 : decode cL_milli 2 = .ok (.aload_n 0, 1) := dk_42 (dq_lk dL_milli_v0 (r := 2) (x := 42) rfl)
theorem dL_milli_3 : decode cL_milli 3 = .ok (.iload_n 1, 1) := dk_27 (dq_lk dL_milli_v0 (r := 3) (x := 27) rfl)
theorem dL_milli_4 : decode cL_milli 4 = .ok (.iload_n 2, 1) := dk_28 (dq_lk dL_milli_v0 (r := 4) (x := 28) rfl)
theorem dL_milli_5 : decode cL_milli 5 = .ok (.iload_n 3, 1) := dk_29 (dq_lk dL_milli_v0 (r := 5) (x := 29) rfl)
theorem dL_milli_6 : decode cL_milli 6 = .ok (.invokevirtual 38, 3) := dk_182 (dq_lk dL_milli_v0 (r := 6) (x := 182) rfl) (dq_lk dL_milli_v0 (r := 7) (x := 0) rfl) (dq_lk dL_milli_v0 (r := 8) (x := 38) rfl)
theorem dL_milli_9 : decode cL_milli 9 = .ok (.i2l, 1) := dk_133 (dq_lk dL_milli_v0 (r := 9) (x := 133) rfl)
theorem dL_milli_10 : decode cL_milli 10 = .ok (.putfield 13, 3) := dk_181 (dq_lk dL_milli_v0 (r := 10) (x := 181) rfl) (dq_lk dL_milli_v0 (r := 11) (x := 0) rfl) (dq_lk dL_milli_v0 (r := 12) (x := 13) rfl)
theorem dL_milli_13 : decode cL_milli 13 = .ok (.goto 7, 3) := dk_167 (dq_lk dL_milli_v0 (r := 13) (x := 167) rfl) (dq_lk dL_milli_v0 (r := 14) (x := 0) rfl) (dq_lk dL_milli_v0 (r := 15) (x := 7) rfl) (by decide +kernel)
theorem dL_milli_16 : decode cL_milli 16 = .ok (.astore 5, 2) := dk_58 (dq_lk dL_milli_v1 (r := 0) (x := 58) rfl) (dq_lk dL_milli_v1 (r := 1) (x := 5) rfl)
theorem dL_milli_18 : decode cL_milli 18 = .ok (.iconst 1, 1) := dk_4 (dq_lk dL_milli_v1 (r := 2) (x := 4) rfl)
theorem dL_milli_19 : decode cL_milli 19 = .ok (.ireturn, 1) := dk_172 (dq_lk dL_milli_v1 (r := 3) (x := 172) rfl)
theorem dL_milli_20 : decode cL_milli 20 = .ok (.iconst 0, 1) := dk_3 (dq_lk dL_milli_v1 (r := 4) (x := 3) rfl)
theorem dL_milli_21 : decode cL_milli 21 = .ok (.ireturn, 1) := dk_172 (dq_lk dL_milli_v1 (r := 5) (x := 172) rfl)
theorem dL_move_v0 : (cL_move.data.toList.drop 0).take 16 = [25, 5, 42, 27, 28, 29, 21, 4, 182, 0, 41, 133, 181, 0, 13, 167] := by decide +kernel
theorem dL_move_v1 : (cL_move.data.toList.drop 16).take 16 = [0, 11, 58, 6, 4, 172, 58, 6, 5, 172, 3, 172] := by decide +kernel
theorem dL_move_0 : decode cL_move 0 = .ok (.aload 5, 2) := dk_25 (dq_lk dL_move_v0 (r := 0) (x := 25) rfl) (dq_lk dL_move_v0 (r := 1) (x := 5) rfl)
theorem dL_move_2 : decode cL_move 2 = .ok (.aload_n 0, 1) := dk_42 (dq_lk dL_move_v0 (r := 2) (x := 42) rfl)
theorem dL_move_3 : decode cL_move 3 = .ok (.iload_n 1, 1) := dk_27 (dq_lk dL_move_v0 (r := 3) (x := 27) rfl)
theorem dL_move_4 : decode cL_move 4 = .ok (.iload_n 2, 1) := dk_28 (dq_lk dL_move_v0 (r := 4) (x := 28) rfl)
theorem dL_move_5 : decode cL_move 5 = .ok (.iload_n 3, 1) := dk_29 (dq_lk dL_move_v0 (r := 5) (x := 29) rfl)
theorem dL_move_6 : decode cL_move 6 = .ok (.iload 4, 2) := dk_21 (dq_lk dL_move_v0 (r := 6) (x := 21) rfl) (dq_lk dL_move_v0 (r := 7) (x := 4) rfl)
theorem dL_move_8 : decode cL_move 8 = .ok (.invokevirtual 41, 3) := dk_182 (dq_lk dL_move_v0 (r := 8) (x := 182) rfl) (dq_lk dL_move_v0 (r := 9) (x := 0) rfl) (dq_lk dL_move_v0 (r := 10) (x := 41) rfl)
theorem dL_move_11 : decode cL_move 11 = .ok (.i2l, 1) := dk_133 (dq_lk dL_move_v0 (r := 11) (x := 133) rfl)
theorem dL_move_12 : decode cL_move 12 = .ok (.putfield 13, 3) := dk_181 (dq_lk dL_move_v0 (r := 12) (x := 181) rfl) (dq_lk dL_move_v0 (r := 13) (x := 0) rfl) (dq_lk dL_move_v0 (r := 14) (x := 13) rfl)
theorem dL_move_15 : decode cL_move 15 = .ok (.goto 11, 3) := dk_167 (dq_lk dL_move_v0 (r := 15) (x := 167) rfl) (dq_lk dL_move_v1 (r := 0) (x := 0) rfl) (dq_lk dL_move_v1 (r := 1) (x := 11) rfl) (by decide +kernel)
theorem dL_move_18 : decode cL_move 18 = .ok (.astore 6, 2) := dk_58 (dq_lk dL_move_v1 (r := 2) (x := 58) rfl) (dq_lk dL_move_v1 (r := 3) (x := 6) rfl)
theorem dL_move_20 : decode cL_move 20 = .ok (.iconst 1, 1) := dk_4 (dq_lk dL_move_v1 (r := 4) (x := 4) rfl)
theorem dL_move_21 : decode cL_move 21 = .ok (.ireturn, 1) := dk_172 (dq_lk dL_move_v1 (r := 5) (x := 172) rfl)
theorem dL_move_22 : decode cL_move 22 = .ok (.astore 6, 2) := dk_58 (dq_lk dL_move_v1 (r := 6) (x := 58) rfl) (dq_lk dL_move_v1 (r := 7) (x := 6) rfl)
theorem dL_move_24 : decode cL_move 24 = .ok (.iconst 2, 1) := dk_5 (dq_lk dL_move_v1 (r := 8) (x := 5) rfl)
theorem dL_move_25 : decode cL_move 25 = .ok (.ireturn, 1) := dk_172 (dq_lk dL_move_v1 (r := 9) (x := 172) rfl)
theorem dL_move_26 : decode cL_move 26 = .ok (.iconst 0, 1) := dk_3 (dq_lk dL_move_v1 (r := 10) (x := 3) rfl)
theorem dL_move_27 : decode cL_move 27 = .ok (.ireturn, 1) := dk_172 (dq_lk dL_move_v1 (r := 11) (x := 172) rfl)
theorem dL_momentOf_v0 : (cL_momentOf.data.toList.drop 0).take 16 = [45, 42, 27, 28, 182, 0, 45, 133, 181, 0, 13, 167, 0, 7, 58, 4] := by decide +kernel
theorem dL_momentOf_v1 : (cL_momentOf.data.toList.drop 16).take 16 = [4, 172, 3, 172] := by decide +kernel
theorem dL_momentOf_0 : decode cL_momentOf 0 = .ok (.aload_n 3, 1) := dk_45 (dq_lk dL_momentOf_v0 (r := 0) (x := 45) rfl)
theorem dL_momentOf_1 : decode cL_momentOf 1 = .ok (.aload_n 0, 1) := dk_42 (dq_lk dL_momentOf_v0 (r := 1) (x := 42) rfl)
theorem dL_momentOf_2 : decode cL_momentOf 2 = .ok (.iload_n 1, 1) := dk_27 (dq_lk dL_momentOf_v0 (r := 2) (x := 27) rfl)
theorem dL_momentOf_3 : decode cL_momentOf 3 = .ok (.iload_n 2, 1) := dk_28 (dq_lk dL_momentOf_v0 (r := 3) (x := 28) rfl)
theorem dL_momentOf_4 : decode cL_momentOf 4 = .ok (.invokevirtual 45, 3) := dk_182 (dq_lk dL_momentOf_v0 (r := 4) (x := 182) rfl) (dq_lk dL_momentOf_v0 (r := 5) (x := 0) rfl) (dq_lk dL_momentOf_v0 (r := 6) (x := 45) rfl)
theorem dL_momentOf_7 : decode cL_momentOf 7 = .ok (.i2l, 1) := dk_133 (dq_lk dL_momentOf_v0 (r := 7) (x := 133) rfl)
theorem dL_momentOf_8 : decode cL_momentOf 8 = .ok (.putfield 13, 3) := dk_181 (dq_lk dL_momentOf_v0 (r := 8) (x := 181) rfl) (dq_lk dL_momentOf_v0 (r := 9) (x := 0) rfl) (dq_lk dL_momentOf_v0 (r := 10) (x := 13) rfl)
theorem dL_momentOf_11 : decode cL_momentOf 11 = .ok (.goto 7, 3) := dk_167 (dq_lk dL_momentOf_v0 (r := 11) (x := 167) rfl) (dq_lk dL_momentOf_v0 (r := 12) (x := 0) rfl) (dq_lk dL_momentOf_v0 (r := 13) (x := 7) rfl) (by decide +kernel)
theorem dL_momentOf_14 : decode cL_momentOf 14 = .ok (.astore 4, 2) := dk_58 (dq_lk dL_momentOf_v0 (r := 14) (x := 58) rfl) (dq_lk dL_momentOf_v0 (r := 15) (x := 4) rfl)
theorem dL_momentOf_16 : decode cL_momentOf 16 = .ok (.iconst 1, 1) := dk_4 (dq_lk dL_momentOf_v1 (r := 0) (x := 4) rfl)
theorem dL_momentOf_17 : decode cL_momentOf 17 = .ok (.ireturn, 1) := dk_172 (dq_lk dL_momentOf_v1 (r := 1) (x := 172) rfl)
theorem dL_momentOf_18 : decode cL_momentOf 18 = .ok (.iconst 0, 1) := dk_3 (dq_lk dL_momentOf_v1 (r := 2) (x := 3) rfl)
theorem dL_momentOf_19 : decode cL_momentOf 19 = .ok (.ireturn, 1) := dk_172 (dq_lk dL_momentOf_v1 (r := 3) (x := 172) rfl)
theorem dL_ofMoment_v0 : (cL_ofMoment.data.toList.drop 0).take 16 = [45, 42, 27, 28, 182, 0, 48, 133, 181, 0, 13, 167, 0, 7, 58, 4] := by decide +kernel
theorem dL_ofMoment_v1 : (cL_ofMoment.data.toList.drop 16).take 16 = [4, 172, 3, 172] := by decide +kernel
theorem dL_ofMoment_0 : decode cL_ofMoment 0 = .ok (.aload_n 3, 1) := dk_45 (dq_lk dL_ofMoment_v0 (r := 0) (x := 45) rfl)
theorem dL_ofMoment_1 : decode cL_ofMoment 1 = .ok (.aload_n 0, 1) := dk_42 (dq_lk dL_ofMoment_v0 (r := 1) (x := 42) rfl)
theorem dL_ofMoment_2 : decode cL_ofMoment 2 = .ok (.iload_n 1, 1) := dk_27 (dq_lk dL_ofMoment_v0 (r := 2) (x := 27) rfl)
theorem dL_ofMoment_3 : decode cL_ofMoment 3 = .ok (.iload_n 2, 1) := dk_28 (dq_lk dL_ofMoment_v0 (r := 3) (x := 28) rfl)
theorem dL_ofMoment_4 : decode cL_ofMoment 4 = .ok (.invokevirtual 48, 3) := dk_182 (dq_lk dL_ofMoment_v0 (r := 4) (x := 182) rfl) (dq_lk dL_ofMoment_v0 (r := 5) (x := 0) rfl) (dq_lk dL_ofMoment_v0 (r := 6) (x := 48) rfl)
theorem dL_ofMoment_7 : decode cL_ofMoment 7 = .ok (.i2l, 1) := dk_133 (dq_lk dL_ofMoment_v0 (r := 7) (x := 133) rfl)
theorem dL_ofMoment_8 : decode cL_ofMoment 8 = .ok (.putfield 13, 3) := dk_181 (dq_lk dL_ofMoment_v0 (r := 8) (x := 181) rfl) (dq_lk dL_ofMoment_v0 (r := 9) (x := 0) rfl) (dq_lk dL_ofMoment_v0 (r := 10) (x := 13) rfl)
theorem dL_ofMoment_11 : decode cL_ofMoment 11 = .ok (.goto 7, 3) := dk_167 (dq_lk dL_ofMoment_v0 (r := 11) (x := 167) rfl) (dq_lk dL_ofMoment_v0 (r := 12) (x := 0) rfl) (dq_lk dL_ofMoment_v0 (r := 13) (x := 7) rfl) (by decide +kernel)
theorem dL_ofMoment_14 : decode cL_ofMoment 14 = .ok (.astore 4, 2) := dk_58 (dq_lk dL_ofMoment_v0 (r := 14) (x := 58) rfl) (dq_lk dL_ofMoment_v0 (r := 15) (x := 4) rfl)
theorem dL_ofMoment_16 : decode cL_ofMoment 16 = .ok (.iconst 1, 1) := dk_4 (dq_lk dL_ofMoment_v1 (r := 0) (x := 4) rfl)
theorem dL_ofMoment_17 : decode cL_ofMoment 17 = .ok (.ireturn, 1) := dk_172 (dq_lk dL_ofMoment_v1 (r := 1) (x := 172) rfl)
theorem dL_ofMoment_18 : decode cL_ofMoment 18 = .ok (.iconst 0, 1) := dk_3 (dq_lk dL_ofMoment_v1 (r := 2) (x := 3) rfl)
theorem dL_ofMoment_19 : decode cL_ofMoment 19 = .ok (.ireturn, 1) := dk_172 (dq_lk dL_ofMoment_v1 (r := 3) (x := 172) rfl)
theorem dL_millis_v0 : (cL_millis.data.toList.drop 0).take 16 = [44, 42, 27, 182, 0, 52, 181, 0, 56, 167, 0, 6, 78, 4, 172, 3] := by decide +kernel
theorem dL_millis_v1 : (cL_millis.data.toList.drop 16).take 16 = [172] := by decide +kernel
theorem dL_millis_0 : decode cL_millis 0 = .ok (.aload_n 2, 1) := dk_44 (dq_lk dL_millis_v0 (r := 0) (x := 44) rfl)
theorem dL_millis_1 : decode cL_millis 1 = .ok (.aload_n 0, 1) := dk_42 (dq_lk dL_millis_v0 (r := 1) (x := 42) rfl)
theorem dL_millis_2 : decode cL_millis 2 = .ok (.iload_n 1, 1) := dk_27 (dq_lk dL_millis_v0 (r := 2) (x := 27) rfl)
theorem dL_millis_3 : decode cL_millis 3 = .ok (.invokevirtual 52, 3) := dk_182 (dq_lk dL_millis_v0 (r := 3) (x := 182) rfl) (dq_lk dL_millis_v0 (r := 4) (x := 0) rfl) (dq_lk dL_millis_v0 (r := 5) (x := 52) rfl)
theorem dL_millis_6 : decode cL_millis 6 = .ok (.putfield 56, 3) := dk_181 (dq_lk dL_millis_v0 (r := 6) (x := 181) rfl) (dq_lk dL_millis_v0 (r := 7) (x := 0) rfl) (dq_lk dL_millis_v0 (r := 8) (x := 56) rfl)
theorem dL_millis_9 : decode cL_millis 9 = .ok (.goto 6, 3) := dk_167 (dq_lk dL_millis_v0 (r := 9) (x := 167) rfl) (dq_lk dL_millis_v0 (r := 10) (x := 0) rfl) (dq_lk dL_millis_v0 (r := 11) (x := 6) rfl) (by decide +kernel)
theorem dL_millis_12 : decode cL_millis 12 = .ok (.astore_n 3, 1) := dk_78 (dq_lk dL_millis_v0 (r := 12) (x := 78) rfl)
theorem dL_millis_13 : decode cL_millis 13 = .ok (.iconst 1, 1) := dk_4 (dq_lk dL_millis_v0 (r := 13) (x := 4) rfl)
theorem dL_millis_14 : decode cL_millis 14 = .ok (.ireturn, 1) := dk_172 (dq_lk dL_millis_v0 (r := 14) (x := 172) rfl)
theorem dL_millis_15 : decode cL_millis 15 = .ok (.iconst 0, 1) := dk_3 (dq_lk dL_millis_v0 (r := 15) (x := 3) rfl)
theorem dL_millis_16 : decode cL_millis 16 = .ok (.ireturn, 1) := dk_172 (dq_lk dL_millis_v1 (r := 0) (x := 172) rfl)
theorem dL_orderMoment_v0 : (cL_orderMoment.data.toList.drop 0).take 16 = [45, 42, 27, 28, 182, 0, 60, 133, 181, 0, 13, 167, 0, 7, 58, 4] := by decide +kernel
theorem dL_orderMoment_v1 : (cL_orderMoment.data.toList.drop 16).take 16 = [4, 172, 3, 172] := by decide +kernel
theorem dL_orderMoment_0 : decode cL_orderMoment 0 = .ok (.aload_n 3, 1) := dk_45 (dq_lk dL_orderMoment_v0 (r := 0) (x := 45) rfl)
theorem dL_orderMoment_1 : decode cL_orderMoment 1 = .ok (.aload_n 0, 1) := dk_42 (dq_lk dL_orderMoment_v0 (r := 1) (x := 42) rfl)
theorem dL_orderMoment_2 : decode cL_orderMoment 2 = .ok (.iload_n 1, 1) := dk_27 (dq_lk dL_orderMoment_v0 (r := 2) (x := 27) rfl)
theorem dL_orderMoment_3 : decode cL_orderMoment 3 = .ok (.iload_n 2, 1) := dk_28 (dq_lk dL_orderMoment_v0 (r := 3) (x := 28) rfl)
theorem dL_orderMoment_4 : decode cL_orderMoment 4 = .ok (.invokevirtual 60, 3) := dk_182 (dq_lk dL_orderMoment_v0 (r := 4) (x := 182) rfl) (dq_lk dL_orderMoment_v0 (r := 5) (x := 0) rfl) (dq_lk dL_orderMoment_v0 (r := 6) (x := 60) rfl)
theorem dL_orderMoment_7 : decode cL_orderMoment 7 = .ok (.i2l, 1) := dk_133 (dq_lk dL_orderMoment_v0 (r := 7) (x := 133) rfl)
theorem dL_orderMoment_8 : decode cL_orderMoment 8 = .ok (.putfield 13, 3) := dk_181 (dq_lk dL_orderMoment_v0 (r := 8) (x := 181) rfl) (dq_lk dL_orderMoment_v0 (r := 9) (x := 0) rfl) (dq_lk dL_orderMoment_v0 (r := 10) (x := 13) rfl)
theorem dL_orderMoment_11 : decode cL_orderMoment 11 = .ok (.goto 7, 3) := dk_167 (dq_lk dL_orderMoment_v0 (r := 11) (x := 167) rfl) (dq_lk dL_orderMoment_v0 (r := 12) (x := 0) rfl) (dq_lk dL_orderMoment_v0 (r := 13) (x := 7) rfl) (by decide +kernel)
theorem dL_orderMoment_14 : decode cL_orderMoment 14 = .ok (.astore 4, 2) := dk_58 (dq_lk dL_orderMoment_v0 (r := 14) (x := 58) rfl) (dq_lk dL_orderMoment_v0 (r := 15) (x := 4) rfl)
theorem dL_orderMoment_16 : decode cL_orderMoment 16 = .ok (.iconst 1, 1) := dk_4 (dq_lk dL_orderMoment_v1 (r := 0) (x := 4) rfl)
theorem dL_orderMoment_17 : decode cL_orderMoment 17 = .ok (.ireturn, 1) := dk_172 (dq_lk dL_orderMoment_v1 (r := 1) (x := 172) rfl)
theorem dL_orderMoment_18 : decode cL_orderMoment 18 = .ok (.iconst 0, 1) := dk_3 (dq_lk dL_orderMoment_v1 (r := 2) (x := 3) rfl)
theorem dL_orderMoment_19 : decode cL_orderMoment 19 = .ok (.ireturn, 1) := dk_172 (dq_lk dL_orderMoment_v1 (r := 3) (x := 172) rfl)
theorem dL_isMoment_v0 : (cL_isMoment.data.toList.drop 0).take 16 = [25, 4, 42, 27, 28, 29, 182, 0, 63, 153, 0, 7, 10, 167, 0, 4] := by decide +kernel
theorem dL_isMoment_v1 : (cL_isMoment.data.toList.drop 16).take 16 = [9, 181, 0, 13, 167, 0, 11, 58, 5, 4, 172, 58, 5, 5, 172, 3] := by decide +kernel
theorem dL_isMoment_v2 : (cL_isMoment.data.toList.drop 32).take 16 = [172] := by decide +kernel
theorem dL_isMoment_0 : decode cL_isMoment 0 = .ok (.aload 4, 2) := dk_25 (dq_lk dL_isMoment_v0 (r := 0) (x := 25) rfl) (dq_lk dL_isMoment_v0 (r := 1) (x := 4) rfl)
theorem dL_isMoment_2 : decode cL_isMoment 2 = .ok (.aload_n 0, 1) := dk_42 (dq_lk dL_isMoment_v0 (r := 2) (x := 42) rfl)
theorem dL_isMoment_3 : decode cL_isMoment 3 = .ok (.iload_n 1, 1) := dk_27 (dq_lk dL_isMoment_v0 (r := 3) (x := 27) rfl)
theorem dL_isMoment_4 : decode cL_isMoment 4 = .ok (.iload_n 2, 1) := dk_28 (dq_lk dL_isMoment_v0 (r := 4) (x := 28) rfl)
theorem dL_isMoment_5 : decode cL_isMoment 5 = .ok (.iload_n 3, 1) := dk_29 (dq_lk dL_isMoment_v0 (r := 5) (x := 29) rfl)
theorem dL_isMoment_6 : decode cL_isMoment 6 = .ok (.invokevirtual 63, 3) := dk_182 (dq_lk dL_isMoment_v0 (r := 6) (x := 182) rfl) (dq_lk dL_isMoment_v0 (r := 7) (x := 0) rfl) (dq_lk dL_isMoment_v0 (r := 8) (x := 63) rfl)
theorem dL_isMoment_9 : decode cL_isMoment 9 = .ok (.ifCond .eq 7, 3) := dk_153 (dq_lk dL_isMoment_v0 (r := 9) (x := 153) rfl) (dq_lk dL_isMoment_v0 (r := 10) (x := 0) rfl) (dq_lk dL_isMoment_v0 (r := 11) (x := 7) rfl) (by decide +kernel)
theorem dL_isMoment_12 : decode cL_isMoment 12 = .ok (.lconst 1, 1) := dk_10 (dq_lk dL_isMoment_v0 (r := 12) (x := 10) rfl)
theorem dL_isMoment_13 : decode cL_isMoment 13 = .ok (.goto 4, 3) := dk_167 (dq_lk dL_isMoment_v0 (r := 13) (x := 167) rfl) (dq_lk dL_isMoment_v0 (r := 14) (x := 0) rfl) (dq_lk dL_isMoment_v0 (r := 15) (x := 4) rfl) (by decide +kernel)
theorem dL_isMoment_16 : decode cL_isMoment 16 = .ok (.lconst 0, 1) := dk_9 (dq_lk dL_isMoment_v1 (r := 0) (x := 9) rfl)
theorem dL_isMoment_17 : decode cL_isMoment 17 = .ok (.putfield 13, 3) := dk_181 (dq_lk dL_isMoment_v1 (r := 1) (x := 181) rfl) (dq_lk dL_isMoment_v1 (r := 2) (x := 0) rfl) (dq_lk dL_isMoment_v1 (r := 3) (x := 13) rfl)
theorem dL_isMoment_20 : decode cL_isMoment 20 = .ok (.goto 11, 3) := dk_167 (dq_lk dL_isMoment_v1 (r := 4) (x := 167) rfl) (dq_lk dL_isMoment_v1 (r := 5) (x := 0) rfl) (dq_lk dL_isMoment_v1 (r := 6) (x := 11) rfl) (by decide +kernel)
theorem dL_isMoment_23 : decode cL_isMoment 23 = .ok (.astore 5, 2) := dk_58 (dq_lk dL_isMoment_v1 (r := 7) (x := 58) rfl) (dq_lk dL_isMoment_v1 (r := 8) (x := 5) rfl)
theorem dL_isMoment_25 : decode cL_isMoment 25 = .ok (.iconst 1, 1) := dk_4 (dq_lk dL_isMoment_v1 (r := 9) (x := 4) rfl)
theorem dL_isMoment_26 : decode cL_isMoment 26 = .ok (.ireturn, 1) := dk_172 (dq_lk dL_isMoment_v1 (r := 10) (x := 172) rfl)
theorem dL_isMoment_27 : decode cL_isMoment 27 = .ok (.astore 5, 2) := dk_58 (dq_lk dL_isMoment_v1 (r := 11) (x := 58) rfl) (dq_lk dL_isMoment_v1 (r := 12) (x := 5) rfl)
theorem dL_isMoment_29 : decode cL_isMoment 29 = .ok (.iconst 2, 1) := dk_5 (dq_lk dL_isMoment_v1 (r := 13) (x := 5) rfl)
theorem dL_isMoment_30 : decode cL_isMoment 30 = .ok (.ireturn, 1) := dk_172 (dq_lk dL_isMoment_v1 (r := 14) (x := 172) rfl)
theorem dL_isMoment_31 : decode cL_isMoment 31 = .ok (.iconst 0, 1) := dk_3 (dq_lk dL_isMoment_v1 (r := 15) (x := 3) rfl)
theorem dL_isMoment_32 : decode cL_isMoment 32 = .ok (.ireturn, 1) := dk_172 (dq_lk dL_isMoment_v2 (r := 0) (x := 172) rfl)
theorem dL_copyMoment_v0 : (cL_copyMoment.data.toList.drop 0).take 16 = [45, 42, 27, 28, 182, 0, 67, 133, 181, 0, 13, 167, 0, 7, 58, 4] := by decide +kernel
theorem dL_copyMoment_v1 : (cL_copyMoment.data.toList.drop 16).take 16 = [4, 172, 3, 172] := by decide +kernel
theorem dL_copyMoment_0 : decode cL_copyMoment 0 = .ok (.aload_n 3, 1) := dk_45 (dq_lk dL_copyMoment_v0 (r := 0) (x := 45) rfl)
theorem dL_copyMoment_1 : decode cL_copyMoment 1 = .ok (.aload_n 0, 1) := dk_42 (dq_lk dL_copyMoment_v0 (r := 1) (x := 42) rfl)
theorem dL_copyMoment_2 : decode cL_copyMoment 2 = .ok (.iload_n 1, 1) := dk_27 (dq_lk dL_copyMoment_v0 (r := 2) (x := 27) rfl)
theorem dL_copyMoment_3 : decode cL_copyMoment 3 = .ok (.iload_n 2, 1) := dk_28 (dq_lk dL_copyMoment_v0 (r := 3) (x := 28) rfl)
theorem dL_copyMoment_4 : decode cL_copyMoment 4 = .ok (.invokevirtual 67, 3) := dk_182 (dq_lk dL_copyMoment_v0 (r := 4) (x := 182) rfl) (dq_lk dL_copyMoment_v0 (r := 5) (x := 0) rfl) (dq_lk dL_copyMoment_v0 (r := 6) (x := 67) rfl)
theorem dL_copyMoment_7 : decode cL_copyMoment 7 = .ok (.i2l, 1) := dk_133 (dq_lk dL_copyMoment_v0 (r := 7) (x := 133) rfl)
theorem dL_copyMoment_8 : decode cL_copyMoment 8 = .ok (.putfield 13, 3) := dk_181 (dq_lk dL_copyMoment_v0 (r := 8) (x := 181) rfl) (dq_lk dL_copyMoment_v0 (r := 9) (x := 0) rfl) (dq_lk dL_copyMoment_v0 (r := 10) (x := 13) rfl)
theorem dL_copyMoment_11 : decode cL_copyMoment 11 = .ok (.goto 7, 3) := dk_167 (dq_lk dL_copyMoment_v0 (r := 11) (x := 167) rfl) (dq_lk dL_copyMoment_v0 (r := 12) (x := 0) rfl) (dq_lk dL_copyMoment_v0 (r := 13) (x := 7) rfl) (by decide +kernel)
theorem dL_copyMoment_14 : decode cL_copyMoment 14 = .ok (.astore 4, 2) := dk_58 (dq_lk dL_copyMoment_v0 (r := 14) (x := 58) rfl) (dq_lk dL_copyMoment_v0 (r := 15) (x := 4) rfl)
theorem dL_copyMoment_16 : decode cL_copyMoment 16 = .ok (.iconst 1, 1) := dk_4 (dq_lk dL_copyMoment_v1 (r := 0) (x := 4) rfl)
theorem dL_copyMoment_17 : decode cL_copyMoment 17 = .ok (.ireturn, 1) := dk_172 (dq_lk dL_copyMoment_v1 (r := 1) (x := 172) rfl)
theorem dL_copyMoment_18 : decode cL_copyMoment 18 = .ok (.iconst 0, 1) := dk_3 (dq_lk dL_copyMoment_v1 (r := 2) (x := 3) rfl)
theorem dL_copyMoment_19 : decode cL_copyMoment 19 = .ok (.ireturn, 1) := dk_172 (dq_lk dL_copyMoment_v1 (r := 3) (x := 172) rfl)
theorem dL_date_v0 : (cL_date.data.toList.drop 0).take 16 = [25, 7, 42, 27, 28, 29, 21, 4, 21, 5, 21, 6, 182, 0, 70, 133] := by decide +kernel
theorem dL_date_v1 : (cL_date.data.toList.drop 16).take 16 = [181, 0, 13, 167, 0, 11, 58, 8, 4, 172, 58, 8, 5, 172, 3, 172] := by decide +kernel
theorem dL_date_0 : decode cL_date 0 = .ok (.aload 7, 2) := dk_25 (dq_lk dL_date_v0 (r := 0) (x := 25) rfl) (dq_lk dL_date_v0 (r := 1) (x := 7) rfl)
theorem dL_date_2 : decode cL_date 2 = .ok (.aload_n 0, 1) := dk_42 (dq_lk dL_date_v0 (r := 2) (x := 42) rfl)
theorem dL_date_3 : decode cL_date 3 = .ok (.iload_n 1, 1) := dk_27 (dq_lk dL_date_v0 (r := 3) (x := 27) rfl)
theorem dL_date_4 : decode cL_date 4 = .ok (.iload_n 2, 1) := dk_28 (dq_lk dL_date_v0 (r := 4) (x := 28) rfl)
theorem dL_date_5 : decode cL_date 5 = .ok (.iload_n 3, 1) := dk_29 (dq_lk dL_date_v0 (r := 5) (x := 29) rfl)
theorem dL_date_6 : decode cL_date 6 = .ok (.iload 4, 2) := dk_21 (dq_lk dL_date_v0 (r := 6) (x := 21) rfl) (dq_lk dL_date_v0 (r := 7) (x := 4) rfl)
theorem dL_date_8 : decode cL_date 8 = .ok (.iload 5, 2) := dk_21 (dq_lk dL_date_v0 (r := 8) (x := 21) rfl) (dq_lk dL_date_v0 (r := 9) (x := 5) rfl)
theorem dL_date_10 : decode cL_date 10 = .ok (.iload 6, 2) := dk_21 (dq_lk dL_date_v0 (r := 10) (x := 21) rfl) (dq_lk dL_date_v0 (r := 11) (x := 6) rfl)
theorem dL_date_12 : decode cL_date 12 = .ok (.invokevirtual 70, 3) := dk_182 (dq_lk dL_date_v0 (r := 12) (x := 182) rfl) (dq_lk dL_date_v0 (r := 13) (x := 0) rfl) (dq_lk dL_date_v0 (r := 14) (x := 70) rfl)
theorem dL_date_15 : decode cL_date 15 = .ok (.i2l, 1) := dk_133 (dq_lk dL_date_v0 (r := 15) (x := 133) rfl)
theorem dL_date_16 : decode cL_date 16 = .ok (.putfield 13, 3) := dk_181 (dq_lk dL_date_v1 (r := 0) (x := 181) rfl) (dq_lk dL_date_v1 (r := 1) (x := 0) rfl) (dq_lk dL_date_v1 (r := 2) (x := 13) rfl)
theorem dL_date_19 : decode cL_date 19 = .ok (.goto 11, 3) := dk_167 (dq_lk dL_date_v1 (r := 3) (x := 167) rfl) (dq_lk dL_date_v1 (r := 4) (x := 0) rfl) (dq_lk dL_date_v1 (r := 5) (x := 11) rfl) (by decide +kernel)
theorem dL_date_22 : decode cL_date 22 = .ok (.astore 8, 2) := dk_58 (dq_lk dL_date_v1 (r := 6) (x := 58) rfl) (dq_lk dL_date_v1 (r := 7) (x := 8) rfl)
theorem dL_date_24 : decode cL_date 24 = .ok (.iconst 1, 1) := dk_4 (dq_lk dL_date_v1 (r := 8) (x := 4) rfl)
theorem dL_date_25 : decode cL_date 25 = .ok (.ireturn, 1) := dk_172 (dq_lk dL_date_v1 (r := 9) (x := 172) rfl)
theorem dL_date_26 : decode cL_date 26 = .ok (.astore 8, 2) := dk_58 (dq_lk dL_date_v1 (r := 10) (x := 58) rfl) (dq_lk dL_date_v1 (r := 11) (x := 8) rfl)
theorem dL_date_28 : decode cL_date 28 = .ok (.iconst 2, 1) := dk_5 (dq_lk dL_date_v1 (r := 12) (x := 5) rfl)
theorem dL_date_29 : decode cL_date 29 = .ok (.ireturn, 1) := dk_172 (dq_lk dL_date_v1 (r := 13) (x := 172) rfl)
theorem dL_date_30 : decode cL_date 30 = .ok (.iconst 0, 1) := dk_3 (dq_lk dL_date_v1 (r := 14) (x := 3) rfl)
theorem dL_date_31 : decode cL_date 31 = .ok (.ireturn, 1) := dk_172 (dq_lk dL_date_v1 (r := 15) (x := 172) rfl)
theorem dL_dateOf_v0 : (cL_dateOf.data.toList.drop 0).take 16 = [25, 4, 42, 27, 28, 29, 182, 0, 74, 133, 181, 0, 13, 167, 0, 7] := by decide +kernel
theorem dL_dateOf_v1 : (cL_dateOf.data.toList.drop 16).take 16 = [58, 5, 4, 172, 3, 172] := by decide +kernel
theorem dL_dateOf_0 : decode cL_dateOf 0 = .ok (.aload 4, 2) := dk_25 (dq_lk dL_dateOf_v0 (r := 0) (x := 25) rfl) (dq_lk dL_dateOf_v0 (r := 1) (x := 4) rfl)
theorem dL_dateOf_2 : decode cL_dateOf 2 = .ok (.aload_n 0, 1) := dk_42 (dq_lk dL_dateOf_v0 (r := 2) (x := 42) rfl)
theorem dL_dateOf_3 : decode cL_dateOf 3 = .ok (.iload_n 1, 1) := dk_27 (dq_lk dL_dateOf_v0 (r := 3) (x := 27) rfl)
theorem dL_dateOf_4 : decode cL_dateOf 4 = .ok (.iload_n 2, 1) := dk_28 (dq_lk dL_dateOf_v0 (r := 4) (x := 28) rfl)
theorem dL_dateOf_5 : decode cL_dateOf 5 = .ok (.iload_n 3, 1) := dk_29 (dq_lk dL_dateOf_v0 (r := 5) (x := 29) rfl)
theorem dL_dateOf_6 : decode cL_dateOf 6 = .ok (.invokevirtual 74, 3) := dk_182 (dq_lk dL_dateOf_v0 (r := 6) (x := 182) rfl) (dq_lk dL_dateOf_v0 (r := 7) (x := 0) rfl) (dq_lk dL_dateOf_v0 (r := 8) (x := 74) rfl)
theorem dL_dateOf_9 : decode cL_dateOf 9 = .ok (.i2l, 1) := dk_133 (dq_lk dL_dateOf_v0 (r := 9) (x := 133) rfl)
theorem dL_dateOf_10 : decode cL_dateOf 10 = .ok (.putfield 13, 3) := dk_181 (dq_lk dL_dateOf_v0 (r := 10) (x := 181) rfl) (dq_lk dL_dateOf_v0 (r := 11) (x := 0) rfl) (dq_lk dL_dateOf_v0 (r := 12) (x := 13) rfl)
theorem dL_dateOf_13 : decode cL_dateOf 13 = .ok (.goto 7, 3) := dk_167 (dq_lk dL_dateOf_v0 (r := 13) (x := 167) rfl) (dq_lk dL_dateOf_v0 (r := 14) (x := 0) rfl) (dq_lk dL_dateOf_v0 (r := 15) (x := 7) rfl) (by decide +kernel)
theorem dL_dateOf_16 : decode cL_dateOf 16 = .ok (.astore 5, 2) := dk_58 (dq_lk dL_dateOf_v1 (r := 0) (x := 58) rfl) (dq_lk dL_dateOf_v1 (r := 1) (x := 5) rfl)
theorem dL_dateOf_18 : decode cL_dateOf 18 = .ok (.iconst 1, 1) := dk_4 (dq_lk dL_dateOf_v1 (r := 2) (x := 4) rfl)
theorem dL_dateOf_19 : decode cL_dateOf 19 = .ok (.ireturn, 1) := dk_172 (dq_lk dL_dateOf_v1 (r := 3) (x := 172) rfl)
theorem dL_dateOf_20 : decode cL_dateOf 20 = .ok (.iconst 0, 1) := dk_3 (dq_lk dL_dateOf_v1 (r := 4) (x := 3) rfl)
theorem dL_dateOf_21 : decode cL_dateOf 21 = .ok (.ireturn, 1) := dk_172 (dq_lk dL_dateOf_v1 (r := 5) (x := 172) rfl)
theorem dL_moveDate_v0 : (cL_moveDate.data.toList.drop 0).take 16 = [25, 5, 42, 27, 28, 29, 21, 4, 182, 0, 77, 133, 181, 0, 13, 167] := by decide +kernel
theorem dL_moveDate_v1 : (cL_moveDate.data.toList.drop 16).take 16 = [0, 11, 58, 6, 4, 172, 58, 6, 5, 172, 3, 172] := by decide +kernel
theorem dL_moveDate_0 : decode cL_moveDate 0 = .ok (.aload 5, 2) := dk_25 (dq_lk dL_moveDate_v0 (r := 0) (x := 25) rfl) (dq_lk dL_moveDate_v0 (r := 1) (x := 5) rfl)
theorem dL_moveDate_2 : decode cL_moveDate 2 = .ok (.aload_n 0, 1) := dk_42 (dq_lk dL_moveDate_v0 (r := 2) (x := 42) rfl)
theorem dL_moveDate_3 : decode cL_moveDate 3 = .ok (.iload_n 1, 1) := dk_27 (dq_lk dL_moveDate_v0 (r := 3) (x := 27) rfl)
theorem dL_moveDate_4 : decode cL_moveDate 4 = .ok (.iload_n 2, 1) := dk_28 (dq_lk dL_moveDate_v0 (r := 4) (x := 28) rfl)
theorem dL_moveDate_5 : decode cL_moveDate 5 = .ok (.iload_n 3, 1) := dk_29 (dq_lk dL_moveDate_v0 (r := 5) (x := 29) rfl)
theorem dL_moveDate_6 : decode cL_moveDate 6 = .ok (.iload 4, 2) := dk_21 (dq_lk dL_moveDate_v0 (r := 6) (x := 21) rfl) (dq_lk dL_moveDate_v0 (r := 7) (x := 4) rfl)
theorem dL_moveDate_8 : decode cL_moveDate 8 = .ok (.invokevirtual 77, 3) := dk_182 (dq_lk dL_moveDate_v0 (r := 8) (x := 182) rfl) (dq_lk dL_moveDate_v0 (r := 9) (x := 0) rfl) (dq_lk dL_moveDate_v0 (r := 10) (x := 77) rfl)
theorem dL_moveDate_11 : decode cL_moveDate 11 = .ok (.i2l, 1) := dk_133 (dq_lk dL_moveDate_v0 (r := 11) (x := 133) rfl)
theorem dL_moveDate_12 : decode cL_moveDate 12 = .ok (.putfield 13, 3) := dk_181 (dq_lk dL_moveDate_v0 (r := 12) (x := 181) rfl) (dq_lk dL_moveDate_v0 (r := 13) (x := 0) rfl) (dq_lk dL_moveDate_v0 (r := 14) (x := 13) rfl)
theorem dL_moveDate_15 : decode cL_moveDate 15 = .ok (.goto 11, 3) := dk_167 (dq_lk dL_moveDate_v0 (r := 15) (x := 167) rfl) (dq_lk dL_moveDate_v1 (r := 0) (x := 0) rfl) (dq_lk dL_moveDate_v1 (r := 1) (x := 11) rfl) (by decide +kernel)
theorem dL_moveDate_18 : decode cL_moveDate 18 = .ok (.astore 6, 2) := dk_58 (dq_lk dL_moveDate_v1 (r := 2) (x := 58) rfl) (dq_lk dL_moveDate_v1 (r := 3) (x := 6) rfl)
theorem dL_moveDate_20 : decode cL_moveDate 20 = .ok (.iconst 1, 1) := dk_4 (dq_lk dL_moveDate_v1 (r := 4) (x := 4) rfl)
theorem dL_moveDate_21 : decode cL_moveDate 21 = .ok (.ireturn, 1) := dk_172 (dq_lk dL_moveDate_v1 (r := 5) (x := 172) rfl)
theorem dL_moveDate_22 : decode cL_moveDate 22 = .ok (.astore 6, 2) := dk_58 (dq_lk dL_moveDate_v1 (r := 6) (x := 58) rfl) (dq_lk dL_moveDate_v1 (r := 7) (x := 6) rfl)
theorem dL_moveDate_24 : decode cL_moveDate 24 = .ok (.iconst 2, 1) := dk_5 (dq_lk dL_moveDate_v1 (r := 8) (x := 5) rfl)
theorem dL_moveDate_25 : decode cL_moveDate 25 = .ok (.ireturn, 1) := dk_172 (dq_lk dL_moveDate_v1 (r := 9) (x := 172) rfl)
theorem dL_moveDate_26 : decode cL_moveDate 26 = .ok (.iconst 0, 1) := dk_3 (dq_lk dL_moveDate_v1 (r := 10) (x := 3) rfl)
theorem dL_moveDate_27 : decode cL_moveDate 27 = .ok (.ireturn, 1) := dk_172 (dq_lk dL_moveDate_v1 (r := 11) (x := 172) rfl)
theorem dL_set_v0 : (cL_set.data.toList.drop 0).take 16 = [25, 4, 42, 27, 28, 29, 182, 0, 80, 133, 181, 0, 13, 167, 0, 11] := by decide +kernel
theorem dL_set_v1 : (cL_set.data.toList.drop 16).take 16 = [58, 5, 4, 172, 58, 5, 5, 172, 3, 172] := by decide +kernel
theorem dL_set_0 : decode cL_set 0 = .ok (.aload 4, 2) := dk_25 (dq_lk dL_set_v0 (r := 0) (x := 25) rfl) (dq_lk dL_set_v0 (r := 1) (x := 4) rfl)
theorem dL_set_2 : decode cL_set 2 = .ok (.aload_n 0, 1) := dk_42 (dq_lk dL_set_v0 (r := 2) (x := 42) rfl)
theorem dL_set_3 : decode cL_set 3 = .ok (.iload_n 1, 1) := dk_27 (dq_lk dL_set_v0 (r := 3) (x := 27) rfl)
theorem dL_set_4 : decode cL_set 4 = .ok (.iload_n 2, 1) := dk_28 (dq_lk dL_set_v0 (r := 4) (x := 28) rfl)
theorem dL_set_5 : decode cL_set 5 = .ok (.iload_n 3, 1) := dk_29 (dq_lk dL_set_v0 (r := 5) (x := 29) rfl)
theorem dL_set_6 : decode cL_set 6 = .ok (.invokevirtual 80, 3) := dk_182 (dq_lk dL_set_v0 (r := 6) (x := 182) rfl) (dq_lk dL_set_v0 (r := 7) (x := 0) rfl) (dq_lk dL_set_v0 (r := 8) (x := 80) rfl)
theorem dL_set_9 : decode cL_set 9 = .ok (.i2l, 1) := dk_133 (dq_lk dL_set_v0 (r := 9) (x := 133) rfl)
theorem dL_set_10 : decode cL_set 10 = .ok (.putfield 13, 3) := dk_181 (dq_lk dL_set_v0 (r := 10) (x := 181) rfl) (dq_lk dL_set_v0 (r := 11) (x := 0) rfl) (dq_lk dL_set_v0 (r := 12) (x := 13) rfl)
theorem dL_set_13 : decode cL_set 13 = .ok (.goto 11, 3) := dk_167 (dq_lk dL_set_v0 (r := 13) (x := 167) rfl) (dq_lk dL_set_v0 (r := 14) (x := 0) rfl) (dq_lk dL_set_v0 (r := 15) (x := 11) rfl) (by decide +kernel)
theorem dL_set_16 : decode cL_set 16 = .ok (.astore 5, 2) := dk_58 (dq_lk dL_set_v1 (r := 0) (x := 58) rfl) (dq_lk dL_set_v1 (r := 1) (x := 5) rfl)
theorem dL_set_18 : decode cL_set 18 = .ok (.iconst 1, 1) := dk_4 (dq_lk dL_set_v1 (r := 2) (x := 4) rfl)
theorem dL_set_19 : decode cL_set 19 = .ok (.ireturn, 1) := dk_172 (dq_lk dL_set_v1 (r := 3) (x := 172) rfl)
theorem dL_set_20 : decode cL_set 20 = .ok (.astore 5, 2) := dk_58 (dq_lk dL_set_v1 (r := 4) (x := 58) rfl) (dq_lk dL_set_v1 (r := 5) (x := 5) rfl)
theorem dL_set_22 : decode cL_set 22 = .ok (.iconst 2, 1) := dk_5 (dq_lk dL_set_v1 (r := 6) (x := 5) rfl)
theorem dL_set_23 : decode cL_set 23 = .ok (.ireturn, 1) := dk_172 (dq_lk dL_set_v1 (r := 7) (x := 172) rfl)
theorem dL_set_24 : decode cL_set 24 = .ok (.iconst 0, 1) := dk_3 (dq_lk dL_set_v1 (r := 8) (x := 3) rfl)
theorem dL_set_25 : decode cL_set 25 = .ok (.ireturn, 1) := dk_172 (dq_lk dL_set_v1 (r := 9) (x := 172) rfl)
theorem dL_anew_v0 : (cL_anew.data.toList.drop 0).take 16 = [25, 4, 42, 27, 28, 29, 182, 0, 83, 133, 181, 0, 13, 167, 0, 7] := by decide +kernel
theorem dL_anew_v1 : (cL_anew.data.toList.drop 16).take 16 = [58, 5, 4, 172, 3, 172] := by decide +kernel
theorem dL_anew_0 : decode cL_anew 0 = .ok (.aload 4, 2) := dk_25 (dq_lk dL_anew_v0 (r := 0) (x := 25) rfl) (dq_lk dL_anew_v0 (r := 1) (x := 4) rfl)
theorem dL_anew_2 : decode cL_anew 2 = .ok (.aload_n 0, 1) := dk_42 (dq_lk dL_anew_v0 (r := 2) (x := 42) rfl)
theorem dL_anew_3 : decode cL_anew 3 = .ok (.iload_n 1, 1) := dk_27 (dq_lk dL_anew_v0 (r := 3) (x := 27) rfl)
theorem dL_anew_4 : decode cL_anew 4 = .ok (.iload_n 2, 1) := dk_28 (dq_lk dL_anew_v0 (r := 4) (x := 28) rfl)
theorem dL_anew_5 : decode cL_anew 5 = .ok (.iload_n 3, 1) := dk_29 (dq_lk dL_anew_v0 (r := 5) (x := 29) rfl)
theorem dL_anew_6 : decode cL_anew 6 = .ok (.invokevirtual 83, 3) := dk_182 (dq_lk dL_anew_v0 (r := 6) (x := 182) rfl) (dq_lk dL_anew_v0 (r := 7) (x := 0) rfl) (dq_lk dL_anew_v0 (r := 8) (x := 83) rfl)
theorem dL_anew_9 : decode cL_anew 9 = .ok (.i2l, 1) := dk_133 (dq_lk dL_anew_v0 (r := 9) (x := 133) rfl)
theorem dL_anew_10 : decode cL_anew 10 = .ok (.putfield 13, 3) := dk_181 (dq_lk dL_anew_v0 (r := 10) (x := 181) rfl) (dq_lk dL_anew_v0 (r := 11) (x := 0) rfl) (dq_lk dL_anew_v0 (r := 12) (x := 13) rfl)
theorem dL_anew_13 : decode cL_anew 13 = .ok (.goto 7, 3) := dk_167 (dq_lk dL_anew_v0 (r := 13) (x := 167) rfl) (dq_lk dL_anew_v0 (r := 14) (x := 0) rfl) (dq_lk dL_anew_v0 (r := 15) (x := 7) rfl) (by decide +kernel)
theorem dL_anew_16 : decode cL_anew 16 = .ok (.astore 5, 2) := dk_58 (dq_lk dL_anew_v1 (r := 0) (x := 58) rfl) (dq_lk dL_anew_v1 (r := 1) (x := 5) rfl)
theorem dL_anew_18 : decode cL_anew 18 = .ok (.iconst 1, 1) := dk_4 (dq_lk dL_anew_v1 (r := 2) (x := 4) rfl)
theorem dL_anew_19 : decode cL_anew 19 = .ok (.ireturn, 1) := dk_172 (dq_lk dL_anew_v1 (r := 3) (x := 172) rfl)
theorem dL_anew_20 : decode cL_anew 20 = .ok (.iconst 0, 1) := dk_3 (dq_lk dL_anew_v1 (r := 4) (x := 3) rfl)
theorem dL_anew_21 : decode cL_anew 21 = .ok (.ireturn, 1) := dk_172 (dq_lk dL_anew_v1 (r := 5) (x := 172) rfl)
theorem dL_copy_v0 : (cL_copy.data.toList.drop 0).take 16 = [45, 42, 27, 28, 182, 0, 87, 133, 181, 0, 13, 167, 0, 7, 58, 4] := by decide +kernel
theorem dL_copy_v1 : (cL_copy.data.toList.drop 16).take 16 = [4, 172, 3, 172] := by decide +kernel
theorem dL_copy_0 : decode cL_copy 0 = .ok (.aload_n 3, 1) := dk_45 (dq_lk dL_copy_v0 (r := 0) (x := 45) rfl)
theorem dL_copy_1 : decode cL_copy 1 = .ok (.aload_n 0, 1) := dk_42 (dq_lk dL_copy_v0 (r := 1) (x := 42) rfl)
theorem dL_copy_2 : decode cL_copy 2 = .ok (.iload_n 1, 1) := dk_27 (dq_lk dL_copy_v0 (r := 2) (x := 27) rfl)
theorem dL_copy_3 : decode cL_copy 3 = .ok (.iload_n 2, 1) := dk_28 (dq_lk dL_copy_v0 (r := 3) (x := 28) rfl)
theorem dL_copy_4 : decode cL_copy 4 = .ok (.invokevirtual 87, 3) := dk_182 (dq_lk dL_copy_v0 (r := 4) (x := 182) rfl) (dq_lk dL_copy_v0 (r := 5) (x := 0) rfl) (dq_lk dL_copy_v0 (r := 6) (x := 87) rfl)
theorem dL_copy_7 : decode cL_copy 7 = .ok (.i2l, 1) := dk_133 (dq_lk dL_copy_v0 (r := 7) (x := 133) rfl)
theorem dL_copy_8 : decode cL_copy 8 = .ok (.putfield 13, 3) := dk_181 (dq_lk dL_copy_v0 (r := 8) (x := 181) rfl) (dq_lk dL_copy_v0 (r := 9) (x := 0) rfl) (dq_lk dL_copy_v0 (r := 10) (x := 13) rfl)
theorem dL_copy_11 : decode cL_copy 11 = .ok (.goto 7, 3) := dk_167 (dq_lk dL_copy_v0 (r := 11) (x := 167) rfl) (dq_lk dL_copy_v0 (r := 12) (x := 0) rfl) (dq_lk dL_copy_v0 (r := 13) (x := 7) rfl) (by decide +kernel)
theorem dL_copy_14 : decode cL_copy 14 = .ok (.astore 4, 2) := dk_58 (dq_lk dL_copy_v0 (r := 14) (x := 58) rfl) (dq_lk dL_copy_v0 (r := 15) (x := 4) rfl)
theorem dL_copy_16 : decode cL_copy 16 = .ok (.iconst 1, 1) := dk_4 (dq_lk dL_copy_v1 (r := 0) (x := 4) rfl)
theorem dL_copy_17 : decode cL_copy 17 = .ok (.ireturn, 1) := dk_172 (dq_lk dL_copy_v1 (r := 1) (x := 172) rfl)
theorem dL_copy_18 : decode cL_copy 18 = .ok (.iconst 0, 1) := dk_3 (dq_lk dL_copy_v1 (r := 2) (x := 3) rfl)
theorem dL_copy_19 : decode cL_copy 19 = .ok (.ireturn, 1) := dk_172 (dq_lk dL_copy_v1 (r := 3) (x := 172) rfl)
theorem dL_ofDate_v0 : (cL_ofDate.data.toList.drop 0).take 16 = [45, 42, 27, 28, 182, 0, 90, 133, 181, 0, 13, 167, 0, 11, 58, 4] := by decide +kernel
theorem dL_ofDate_v1 : (cL_ofDate.data.toList.drop 16).take 16 = [4, 172, 58, 4, 5, 172, 3, 172] := by decide +kernel
theorem dL_ofDate_0 : decode cL_ofDate 0 = .ok (.aload_n 3, 1) := dk_45 (dq_lk dL_ofDate_v0 (r := 0) (x := 45) rfl)
theorem dL_ofDate_1 : decode cL_ofDate 1 = .ok (.aload_n 0, 1) := dk_42 (dq_lk dL_ofDate_v0 (r := 1) (x := 42) rfl)
theorem dL_ofDate_2 : decode cL_ofDate 2 = .ok (.iload_n 1, 1) := dk_27 (dq_lk dL_ofDate_v0 (r := 2) (x := 27) rfl)
theorem dL_ofDate_3 : decode cL_ofDate 3 = .ok (.iload_n 2, 1) := dk_28 (dq_lk dL_ofDate_v0 (r := 3) (x := 28) rfl)
theorem dL_ofDate_4 : decode cL_ofDate 4 = .ok (.invokevirtual 90, 3) := dk_182 (dq_lk dL_ofDate_v0 (r := 4) (x := 182) rfl) (dq_lk dL_ofDate_v0 (r := 5) (x := 0) rfl) (dq_lk dL_ofDate_v0 (r := 6) (x := 90) rfl)
theorem dL_ofDate_7 : decode cL_ofDate 7 = .ok (.i2l, 1) := dk_133 (dq_lk dL_ofDate_v0 (r := 7) (x := 133) rfl)
theorem dL_ofDate_8 : decode cL_ofDate 8 = .ok (.putfield 13, 3) := dk_181 (dq_lk dL_ofDate_v0 (r := 8) (x := 181) rfl) (dq_lk dL_ofDate_v0 (r := 9) (x := 0) rfl) (dq_lk dL_ofDate_v0 (r := 10) (x := 13) rfl)
theorem dL_ofDate_11 : decode cL_ofDate 11 = .ok (.goto 11, 3) := dk_167 (dq_lk dL_ofDate_v0 (r := 11) (x := 167) rfl) (dq_lk dL_ofDate_v0 (r := 12) (x := 0) rfl) (dq_lk dL_ofDate_v0 (r := 13) (x := 11) rfl) (by decide +kernel)
theorem dL_ofDate_14 : decode cL_ofDate 14 = .ok (.astore 4, 2) := dk_58 (dq_lk dL_ofDate_v0 (r := 14) (x := 58) rfl) (dq_lk dL_ofDate_v0 (r := 15) (x := 4) rfl)
theorem dL_ofDate_16 : decode cL_ofDate 16 = .ok (.iconst 1, 1) := dk_4 (dq_lk dL_ofDate_v1 (r := 0) (x := 4) rfl)
theorem dL_ofDate_17 : decode cL_ofDate 17 = .ok (.ireturn, 1) := dk_172 (dq_lk dL_ofDate_v1 (r := 1) (x := 172) rfl)
theorem dL_ofDate_18 : decode cL_ofDate 18 = .ok (.astore 4, 2) := dk_58 (dq_lk dL_ofDate_v1 (r := 2) (x := 58) rfl) (dq_lk dL_ofDate_v1 (r := 3) (x := 4) rfl)
theorem dL_ofDate_20 : decode cL_ofDate 20 = .ok (.iconst 2, 1) := dk_5 (dq_lk dL_ofDate_v1 (r := 4) (x := 5) rfl)
theorem dL_ofDate_21 : decode cL_ofDate 21 = .ok (.ireturn, 1) := dk_172 (dq_lk dL_ofDate_v1 (r := 5) (x := 172) rfl)
theorem dL_ofDate_22 : decode cL_ofDate 22 = .ok (.iconst 0, 1) := dk_3 (dq_lk dL_ofDate_v1 (r := 6) (x := 3) rfl)
theorem dL_ofDate_23 : decode cL_ofDate 23 = .ok (.ireturn, 1) := dk_172 (dq_lk dL_ofDate_v1 (r := 7) (x := 172) rfl)
theorem dL_orderDate_v0 : (cL_orderDate.data.toList.drop 0).take 16 = [45, 42, 27, 28, 182, 0, 93, 133, 181, 0, 13, 167, 0, 7, 58, 4] := by decide +kernel
theorem dL_orderDate_v1 : (cL_orderDate.data.toList.drop 16).take 16 = [4, 172, 3, 172] := by decide +kernel
theorem dL_orderDate_0 : decode cL_orderDate 0 = .ok (.aload_n 3, 1) := dk_45 (dq_lk dL_orderDate_v0 (r := 0) (x := 45) rfl)
theorem dL_orderDate_1 : decode cL_orderDate 1 = .ok (.aload_n 0, 1) := dk_42 (dq_lk dL_orderDate_v0 (r := 1) (x := 42) rfl)
theorem dL_orderDate_2 : decode cL_orderDate 2 = .ok (.iload_n 1, 1) := dk_27 (dq_lk dL_orderDate_v0 (r := 2) (x := 27) rfl)
theorem dL_orderDate_3 : decode cL_orderDate 3 = .ok (.iload_n 2, 1) := dk_28 (dq_lk dL_orderDate_v0 (r := 3) (x := 28) rfl)
theorem dL_orderDate_4 : decode cL_orderDate 4 = .ok (.invokevirtual 93, 3) := dk_182 (dq_lk dL_orderDate_v0 (r := 4) (x := 182) rfl) (dq_lk dL_orderDate_v0 (r := 5) (x := 0) rfl) (dq_lk dL_orderDate_v0 (r := 6) (x := 93) rfl)
theorem dL_orderDate_7 : decode cL_orderDate 7 = .ok (.i2l, 1) := dk_133 (dq_lk dL_orderDate_v0 (r := 7) (x := 133) rfl)
theorem dL_orderDate_8 : decode cL_orderDate 8 = .ok (.putfield 13, 3) := dk_181 (dq_lk dL_orderDate_v0 (r := 8) (x := 181) rfl) (dq_lk dL_orderDate_v0 (r := 9) (x := 0) rfl) (dq_lk dL_orderDate_v0 (r := 10) (x := 13) rfl)
theorem dL_orderDate_11 : decode cL_orderDate 11 = .ok (.goto 7, 3) := dk_167 (dq_lk dL_orderDate_v0 (r := 11) (x := 167) rfl) (dq_lk dL_orderDate_v0 (r := 12) (x := 0) rfl) (dq_lk dL_orderDate_v0 (r := 13) (x := 7) rfl) (by decide +kernel)
theorem dL_orderDate_14 : decode cL_orderDate 14 = .ok (.astore 4, 2) := dk_58 (dq_lk dL_orderDate_v0 (r := 14) (x := 58) rfl) (dq_lk dL_orderDate_v0 (r := 15) (x := 4) rfl)
theorem dL_orderDate_16 : decode cL_orderDate 16 = .ok (.iconst 1, 1) := dk_4 (dq_lk dL_orderDate_v1 (r := 0) (x := 4) rfl)
theorem dL_orderDate_17 : decode cL_orderDate 17 = .ok (.ireturn, 1) := dk_172 (dq_lk dL_orderDate_v1 (r := 1) (x := 172) rfl)
theorem dL_orderDate_18 : decode cL_orderDate 18 = .ok (.iconst 0, 1) := dk_3 (dq_lk dL_orderDate_v1 (r := 2) (x := 3) rfl)
theorem dL_orderDate_19 : decode cL_orderDate 19 = .ok (.ireturn, 1) := dk_172 (dq_lk dL_orderDate_v1 (r := 3) (x := 172) rfl)
theorem dL_isDate_v0 : (cL_isDate.data.toList.drop 0).take 16 = [25, 4, 42, 27, 28, 29, 182, 0, 96, 153, 0, 7, 10, 167, 0, 4] := by decide +kernel
theorem dL_isDate_v1 : (cL_isDate.data.toList.drop 16).take 16 = [9, 181, 0, 13, 167, 0, 11, 58, 5, 4, 172, 58, 5, 5, 172, 3] := by decide +kernel
theorem dL_isDate_v2 : (cL_isDate.data.toList.drop 32).take 16 = [172] := by decide +kernel
theorem dL_isDate_0 : decode cL_isDate 0 = .ok (.aload 4, 2) := dk_25 (dq_lk dL_isDate_v0 (r := 0) (x := 25) rfl) (dq_lk dL_isDate_v0 (r := 1) (x := 4) rfl)
theorem dL_isDate_2 : decode cL_isDate 2 = .ok (.aload_n 0, 1) := dk_42 (dq_lk dL_isDate_v0 (r := 2) (x := 42) rfl)
theorem dL_isDate_3 : decode cL_isDate 3 = .ok (.iload_n 1, 1) := dk_27 (dq_lk dL_isDate_v0 (r := 3) (x := 27) rfl)
theorem dL_isDate_4 : decode cL_isDate 4 = .ok (.iload_n 2, 1) := dk_28 (dq_lk dL_isDate_v0 (r := 4) (x := 28) rfl)
theorem dL_isDate_5 : decode cL_isDate 5 = .ok (.iload_n 3, 1) := dk_29 (dq_lk dL_isDate_v0 (r := 5) (x := 29) rfl)
theorem dL_isDate_6 : decode cL_isDate 6 = .ok (.invokevirtual 96, 3) := dk_182 (dq_lk dL_isDate_v0 (r := 6) (x := 182) rfl) (dq_lk dL_isDate_v0 (r := 7) (x := 0) rfl) (dq_lk dL_isDate_v0 (r := 8) (x := 96) rfl)
theorem dL_isDate_9 : decode cL_isDate 9 = .ok (.ifCond .eq 7, 3) := dk_153 (dq_lk dL_isDate_v0 (r := 9) (x := 153) rfl) (dq_lk dL_isDate_v0 (r := 10) (x := 0) rfl) (dq_lk dL_isDate_v0 (r := 11) (x := 7) rfl) (by decide +kernel)
theorem dL_isDate_12 : decode cL_isDate 12 = .ok (.lconst 1, 1) := dk_10 (dq_lk dL_isDate_v0 (r := 12) (x := 10) rfl)
theorem dL_isDate_13 : decode cL_isDate 13 = .ok (.goto 4, 3) := dk_167 (dq_lk dL_isDate_v0 (r := 13) (x := 167) rfl) (dq_lk dL_isDate_v0 (r := 14) (x := 0) rfl) (dq_lk dL_isDate_v0 (r := 15) (x := 4) rfl) (by decide +kernel)
theorem dL_isDate_16 : decode cL_isDate 16 = .ok (.lconst 0, 1) := dk_9 (dq_lk dL_isDate_v1 (r := 0) (x := 9) rfl)
theorem dL_isDate_17 : decode cL_isDate 17 = .ok (.putfield 13, 3) := dk_181 (dq_lk dL_isDate_v1 (r := 1) (x := 181) rfl) (dq_lk dL_isDate_v1 (r := 2) (x := 0) rfl) (dq_lk dL_isDate_v1 (r := 3) (x := 13) rfl)
theorem dL_isDate_20 : decode cL_isDate 20 = .ok (.goto 11, 3) := dk_167 (dq_lk dL_isDate_v1 (r := 4) (x := 167) rfl) (dq_lk dL_isDate_v1 (r := 5) (x := 0) rfl) (dq_lk dL_isDate_v1 (r := 6) (x := 11) rfl) (by decide +kernel)
theorem dL_isDate_23 : decode cL_isDate 23 = .ok (.astore 5, 2) := dk_58 (dq_lk dL_isDate_v1 (r := 7) (x := 58) rfl) (dq_lk dL_isDate_v1 (r := 8) (x := 5) rfl)
theorem dL_isDate_25 : decode cL_isDate 25 = .ok (.iconst 1, 1) := dk_4 (dq_lk dL_isDate_v1 (r := 9) (x := 4) rfl)
theorem dL_isDate_26 : decode cL_isDate 26 = .ok (.ireturn, 1) := dk_172 (dq_lk dL_isDate_v1 (r := 10) (x := 172) rfl)
theorem dL_isDate_27 : decode cL_isDate 27 = .ok (.astore 5, 2) := dk_58 (dq_lk dL_isDate_v1 (r := 11) (x := 58) rfl) (dq_lk dL_isDate_v1 (r := 12) (x := 5) rfl)
theorem dL_isDate_29 : decode cL_isDate 29 = .ok (.iconst 2, 1) := dk_5 (dq_lk dL_isDate_v1 (r := 13) (x := 5) rfl)
theorem dL_isDate_30 : decode cL_isDate 30 = .ok (.ireturn, 1) := dk_172 (dq_lk dL_isDate_v1 (r := 14) (x := 172) rfl)
theorem dL_isDate_31 : decode cL_isDate 31 = .ok (.iconst 0, 1) := dk_3 (dq_lk dL_isDate_v1 (r := 15) (x := 3) rfl)
theorem dL_isDate_32 : decode cL_isDate 32 = .ok (.ireturn, 1) := dk_172 (dq_lk dL_isDate_v2 (r := 0) (x := 172) rfl)
theorem dL_clock_v0 : (cL_clock.data.toList.drop 0).take 16 = [25, 5, 42, 27, 28, 29, 21, 4, 182, 0, 99, 133, 181, 0, 13, 167] := by decide +kernel
theorem dL_clock_v1 : (cL_clock.data.toList.drop 16).take 16 = [0, 11, 58, 6, 4, 172, 58, 6, 5, 172, 3, 172] := by decide +kernel
theorem dL_clock_0 : decode cL_clock 0 = .ok (.aload 5, 2) := dk_25 (dq_lk dL_clock_v0 (r := 0) (x := 25) rfl) (dq_lk dL_clock_v0 (r := 1) (x := 5) rfl)
theorem dL_clock_2 : decode cL_clock 2 = .ok (.aload_n 0, 1) := dk_42 (dq_lk dL_clock_v0 (r := 2) (x := 42) rfl)
theorem dL_clock_3 : decode cL_clock 3 = .ok (.iload_n 1, 1) := dk_27 (dq_lk dL_clock_v0 (r := 3) (x := 27) rfl)
theorem dL_clock_4 : decode cL_clock 4 = .ok (.iload_n 2, 1) := dk_28 (dq_lk dL_clock_v0 (r := 4) (x := 28) rfl)
theorem dL_clock_5 : decode cL_clock 5 = .ok (.iload_n 3, 1) := dk_29 (dq_lk dL_clock_v0 (r := 5) (x := 29) rfl)
theorem dL_clock_6 : decode cL_clock 6 = .ok (.iload 4, 2) := dk_21 (dq_lk dL_clock_v0 (r := 6) (x := 21) rfl) (dq_lk dL_clock_v0 (r := 7) (x := 4) rfl)
theorem dL_clock_8 : decode cL_clock 8 = .ok (.invokevirtual 99, 3) := dk_182 (dq_lk dL_clock_v0 (r := 8) (x := 182) rfl) (dq_lk dL_clock_v0 (r := 9) (x := 0) rfl) (dq_lk dL_clock_v0 (r := 10) (x := 99) rfl)
theorem dL_clock_11 : decode cL_clock 11 = .ok (.i2l, 1) := dk_133 (dq_lk dL_clock_v0 (r := 11) (x := 133) rfl)
theorem dL_clock_12 : decode cL_clock 12 = .ok (.putfield 13, 3) := dk_181 (dq_lk dL_clock_v0 (r := 12) (x := 181) rfl) (dq_lk dL_clock_v0 (r := 13) (x := 0) rfl) (dq_lk dL_clock_v0 (r := 14) (x := 13) rfl)
theorem dL_clock_15 : decode cL_clock 15 = .ok (.goto 11, 3) := dk_167 (dq_lk dL_clock_v0 (r := 15) (x := 167) rfl) (dq_lk dL_clock_v1 (r := 0) (x := 0) rfl) (dq_lk dL_clock_v1 (r := 1) (x := 11) rfl) (by decide +kernel)
theorem dL_clock_18 : decode cL_clock 18 = .ok (.astore 6, 2) := dk_58 (dq_lk dL_clock_v1 (r := 2) (x := 58) rfl) (dq_lk dL_clock_v1 (r := 3) (x := 6) rfl)
theorem dL_clock_20 : decode cL_clock 20 = .ok (.iconst 1, 1) := dk_4 (dq_lk dL_clock_v1 (r := 4) (x := 4) rfl)
theorem dL_clock_21 : decode cL_clock 21 = .ok (.ireturn, 1) := dk_172 (dq_lk dL_clock_v1 (r := 5) (x := 172) rfl)
theorem dL_clock_22 : decode cL_clock 22 = .ok (.astore 6, 2) := dk_58 (dq_lk dL_clock_v1 (r := 6) (x := 58) rfl) (dq_lk dL_clock_v1 (r := 7) (x := 6) rfl)
theorem dL_clock_24 : decode cL_clock 24 = .ok (.iconst 2, 1) := dk_5 (dq_lk dL_clock_v1 (r := 8) (x := 5) rfl)
theorem dL_clock_25 : decode cL_clock 25 = .ok (.ireturn, 1) := dk_172 (dq_lk dL_clock_v1 (r := 9) (x := 172) rfl)
theorem dL_clock_26 : decode cL_clock 26 = .ok (.iconst 0, 1) := dk_3 (dq_lk dL_clock_v1 (r := 10) (x := 3) rfl)
theorem dL_clock_27 : decode cL_clock 27 = .ok (.ireturn, 1) := dk_172 (dq_lk dL_clock_v1 (r := 11) (x := 172) rfl)
theorem dL_clockOf_v0 : (cL_clockOf.data.toList.drop 0).take 16 = [45, 42, 27, 28, 182, 0, 102, 133, 181, 0, 13, 167, 0, 7, 58, 4] := by decide +kernel
theorem dL_clockOf_v1 : (cL_clockOf.data.toList.drop 16).take 16 = [4, 172, 3, 172] := by decide +kernel
theorem dL_clockOf_0 : decode cL_clockOf 0 = .ok (.aload_n 3, 1) := dk_45 (dq_lk dL_clockOf_v0 (r := 0) (x := 45) rfl)
theorem dL_clockOf_1 : decode cL_clockOf 1 = .ok (.aload_n 0, 1) := dk_42 (dq_lk dL_clockOf_v0 (r := 1) (x := 42) rfl)
theorem dL_clockOf_2 : decode cL_clockOf 2 = .ok (.iload_n 1, 1) := dk_27 (dq_lk dL_clockOf_v0 (r := 2) (x := 27) rfl)
theorem dL_clockOf_3 : decode cL_clockOf 3 = .ok (.iload_n 2, 1) := dk_28 (dq_lk dL_clockOf_v0 (r := 3) (x := 28) rfl)
theorem dL_clockOf_4 : decode cL_clockOf 4 = .ok (.invokevirtual 102, 3) := dk_182 (dq_lk dL_clockOf_v0 (r := 4) (x := 182) rfl) (dq_lk dL_clockOf_v0 (r := 5) (x := 0) rfl) (dq_lk dL_clockOf_v0 (r := 6) (x := 102) rfl)
theorem dL_clockOf_7 : decode cL_clockOf 7 = .ok (.i2l, 1) := dk_133 (dq_lk dL_clockOf_v0 (r := 7) (x := 133) rfl)
theorem dL_clockOf_8 : decode cL_clockOf 8 = .ok (.putfield 13, 3) := dk_181 (dq_lk dL_clockOf_v0 (r := 8) (x := 181) rfl) (dq_lk dL_clockOf_v0 (r := 9) (x := 0) rfl) (dq_lk dL_clockOf_v0 (r := 10) (x := 13) rfl)
theorem dL_clockOf_11 : decode cL_clockOf 11 = .ok (.goto 7, 3) := dk_167 (dq_lk dL_clockOf_v0 (r := 11) (x := 167) rfl) (dq_lk dL_clockOf_v0 (r := 12) (x := 0) rfl) (dq_lk dL_clockOf_v0 (r := 13) (x := 7) rfl) (by decide +kernel)
theorem dL_clockOf_14 : decode cL_clockOf 14 = .ok (.astore 4, 2) := dk_58 (dq_lk dL_clockOf_v0 (r := 14) (x := 58) rfl) (dq_lk dL_clockOf_v0 (r := 15) (x := 4) rfl)
theorem dL_clockOf_16 : decode cL_clockOf 16 = .ok (.iconst 1, 1) := dk_4 (dq_lk dL_clockOf_v1 (r := 0) (x := 4) rfl)
theorem dL_clockOf_17 : decode cL_clockOf 17 = .ok (.ireturn, 1) := dk_172 (dq_lk dL_clockOf_v1 (r := 1) (x := 172) rfl)
theorem dL_clockOf_18 : decode cL_clockOf 18 = .ok (.iconst 0, 1) := dk_3 (dq_lk dL_clockOf_v1 (r := 2) (x := 3) rfl)
theorem dL_clockOf_19 : decode cL_clockOf 19 = .ok (.ireturn, 1) := dk_172 (dq_lk dL_clockOf_v1 (r := 3) (x := 172) rfl)
theorem dL_strike_v0 : (cL_strike.data.toList.drop 0).take 16 = [45, 42, 27, 28, 182, 0, 105, 133, 181, 0, 13, 167, 0, 7, 58, 4] := by decide +kernel
theorem dL_strike_v1 : (cL_strike.data.toList.drop 16).take 16 = [4, 172, 3, 172] := by decide +kernel
theorem dL_strike_0 : decode cL_strike 0 = .ok (.aload_n 3, 1) := dk_45 (dq_lk dL_strike_v0 (r := 0) (x := 45) rfl)
theorem dL_strike_1 : decode cL_strike 1 = .ok (.aload_n 0, 1) := dk_42 (dq_lk dL_strike_v0 (r := 1) (x := 42) rfl)
theorem dL_strike_2 : decode cL_strike 2 = .ok (.iload_n 1, 1) := dk_27 (dq_lk dL_strike_v0 (r := 2) (x := 27) rfl)
theorem dL_strike_3 : decode cL_strike 3 = .ok (.iload_n 2, 1) := dk_28 (dq_lk dL_strike_v0 (r := 3) (x := 28) rfl)
theorem dL_strike_4 : decode cL_strike 4 = .ok (.invokevirtual 105, 3) := dk_182 (dq_lk dL_strike_v0 (r := 4) (x := 182) rfl) (dq_lk dL_strike_v0 (r := 5) (x := 0) rfl) (dq_lk dL_strike_v0 (r := 6) (x := 105) rfl)
theorem dL_strike_7 : decode cL_strike 7 = .ok (.i2l, 1) := dk_133 (dq_lk dL_strike_v0 (r := 7) (x := 133) rfl)
theorem dL_strike_8 : decode cL_strike 8 = .ok (.putfield 13, 3) := dk_181 (dq_lk dL_strike_v0 (r := 8) (x := 181) rfl) (dq_lk dL_strike_v0 (r := 9) (x := 0) rfl) (dq_lk dL_strike_v0 (r := 10) (x := 13) rfl)
theorem dL_strike_11 : decode cL_strike 11 = .ok (.goto 7, 3) := dk_167 (dq_lk dL_strike_v0 (r := 11) (x := 167) rfl) (dq_lk dL_strike_v0 (r := 12) (x := 0) rfl) (dq_lk dL_strike_v0 (r := 13) (x := 7) rfl) (by decide +kernel)
theorem dL_strike_14 : decode cL_strike 14 = .ok (.astore 4, 2) := dk_58 (dq_lk dL_strike_v0 (r := 14) (x := 58) rfl) (dq_lk dL_strike_v0 (r := 15) (x := 4) rfl)
theorem dL_strike_16 : decode cL_strike 16 = .ok (.iconst 1, 1) := dk_4 (dq_lk dL_strike_v1 (r := 0) (x := 4) rfl)
theorem dL_strike_17 : decode cL_strike 17 = .ok (.ireturn, 1) := dk_172 (dq_lk dL_strike_v1 (r := 1) (x := 172) rfl)
theorem dL_strike_18 : decode cL_strike 18 = .ok (.iconst 0, 1) := dk_3 (dq_lk dL_strike_v1 (r := 2) (x := 3) rfl)
theorem dL_strike_19 : decode cL_strike 19 = .ok (.ireturn, 1) := dk_172 (dq_lk dL_strike_v1 (r := 3) (x := 172) rfl)
theorem dL_moveClock_v0 : (cL_moveClock.data.toList.drop 0).take 16 = [25, 5, 42, 27, 28, 29, 21, 4, 182, 0, 108, 133, 181, 0, 13, 167] := by decide +kernel
theorem dL_moveClock_v1 : (cL_moveClock.data.toList.drop 16).take 16 = [0, 11, 58, 6, 4, 172, 58, 6, 5, 172, 3, 172] := by decide +kernel
theorem dL_moveClock_0 : decode cL_moveClock 0 = .ok (.aload 5, 2) := dk_25 (dq_lk dL_moveClock_v0 (r := 0) (x := 25) rfl) (dq_lk dL_moveClock_v0 (r := 1) (x := 5) rfl)
theorem dL_moveClock_2 : decode cL_moveClock 2 = .ok (.aload_n 0, 1) := dk_42 (dq_lk dL_moveClock_v0 (r := 2) (x := 42) rfl)
theorem dL_moveClock_3 : decode cL_moveClock 3 = .ok (.iload_n 1, 1) := dk_27 (dq_lk dL_moveClock_v0 (r := 3) (x := 27) rfl)
theorem dL_moveClock_4 : decode cL_moveClock 4 = .ok (.iload_n 2, 1) := dk_28 (dq_lk dL_moveClock_v0 (r := 4) (x := 28) rfl)
theorem dL_moveClock_5 : decode cL_moveClock 5 = .ok (.iload_n 3, 1) := dk_29 (dq_lk dL_moveClock_v0 (r := 5) (x := 29) rfl)
theorem dL_moveClock_6 : decode cL_moveClock 6 = .ok (.iload 4, 2) := dk_21 (dq_lk dL_moveClock_v0 (r := 6) (x := 21) rfl) (dq_lk dL_moveClock_v0 (r := 7) (x := 4) rfl)
theorem dL_moveClock_8 : decode cL_moveClock 8 = .ok (.invokevirtual 108, 3) := dk_182 (dq_lk dL_moveClock_v0 (r := 8) (x := 182) rfl) (dq_lk dL_moveClock_v0 (r := 9) (x := 0) rfl) (dq_lk dL_moveClock_v0 (r := 10) (x := 108) rfl)
theorem dL_moveClock_11 : decode cL_moveClock 11 = .ok (.i2l, 1) := dk_133 (dq_lk dL_moveClock_v0 (r := 11) (x := 133) rfl)
theorem dL_moveClock_12 : decode cL_moveClock 12 = .ok (.putfield 13, 3) := dk_181 (dq_lk dL_moveClock_v0 (r := 12) (x := 181) rfl) (dq_lk dL_moveClock_v0 (r := 13) (x := 0) rfl) (dq_lk dL_moveClock_v0 (r := 14) (x := 13) rfl)
theorem dL_moveClock_15 : decode cL_moveClock 15 = .ok (.goto 11, 3) := dk_167 (dq_lk dL_moveClock_v0 (r := 15) (x := 167) rfl) (dq_lk dL_moveClock_v1 (r := 0) (x := 0) rfl) (dq_lk dL_moveClock_v1 (r := 1) (x := 11) rfl) (by decide +kernel)
theorem dL_moveClock_18 : decode cL_moveClock 18 = .ok (.astore 6, 2) := dk_58 (dq_lk dL_moveClock_v1 (r := 2) (x := 58) rfl) (dq_lk dL_moveClock_v1 (r := 3) (x := 6) rfl)
theorem dL_moveClock_20 : decode cL_moveClock 20 = .ok (.iconst 1, 1) := dk_4 (dq_lk dL_moveClock_v1 (r := 4) (x := 4) rfl)
theorem dL_moveClock_21 : decode cL_moveClock 21 = .ok (.ireturn, 1) := dk_172 (dq_lk dL_moveClock_v1 (r := 5) (x := 172) rfl)
theorem dL_moveClock_22 : decode cL_moveClock 22 = .ok (.astore 6, 2) := dk_58 (dq_lk dL_moveClock_v1 (r := 6) (x := 58) rfl) (dq_lk dL_moveClock_v1 (r := 7) (x := 6) rfl)
theorem dL_moveClock_24 : decode cL_moveClock 24 = .ok (.iconst 2, 1) := dk_5 (dq_lk dL_moveClock_v1 (r := 8) (x := 5) rfl)
theorem dL_moveClock_25 : decode cL_moveClock 25 = .ok (.ireturn, 1) := dk_172 (dq_lk dL_moveClock_v1 (r := 9) (x := 172) rfl)
theorem dL_moveClock_26 : decode cL_moveClock 26 = .ok (.iconst 0, 1) := dk_3 (dq_lk dL_moveClock_v1 (r := 10) (x := 3) rfl)
theorem dL_moveClock_27 : decode cL_moveClock 27 = .ok (.ireturn, 1) := dk_172 (dq_lk dL_moveClock_v1 (r := 11) (x := 172) rfl)
theorem dL_anewClock_v0 : (cL_anewClock.data.toList.drop 0).take 16 = [25, 4, 42, 27, 28, 29, 182, 0, 111, 133, 181, 0, 13, 167, 0, 7] := by decide +kernel
theorem dL_anewClock_v1 : (cL_anewClock.data.toList.drop 16).take 16 = [58, 5, 4, 172, 3, 172] := by decide +kernel
theorem dL_anewClock_0 : decode cL_anewClock 0 = .ok (.aload 4, 2) := dk_25 (dq_lk dL_anewClock_v0 (r := 0) (x := 25) rfl) (dq_lk dL_anewClock_v0 (r := 1) (x := 4) rfl)
theorem dL_anewClock_2 : decode cL_anewClock 2 = .ok (.aload_n 0, 1) := dk_42 (dq_lk dL_anewClock_v0 (r := 2) (x := 42) rfl)
theorem dL_anewClock_3 : decode cL_anewClock 3 = .ok (.iload_n 1, 1) := dk_27 (dq_lk dL_anewClock_v0 (r := 3) (x := 27) rfl)
theorem dL_anewClock_4 : decode cL_anewClock 4 = .ok (.iload_n 2, 1) := dk_28 (dq_lk dL_anewClock_v0 (r := 4) (x := 28) rfl)
theorem dL_anewClock_5 : decode cL_anewClock 5 = .ok (.iload_n 3, 1) := dk_29 (dq_lk dL_anewClock_v0 (r := 5) (x := 29) rfl)
theorem dL_anewClock_6 : decode cL_anewClock 6 = .ok (.invokevirtual 111, 3) := dk_182 (dq_lk dL_anewClock_v0 (r := 6) (x := 182) rfl) (dq_lk dL_anewClock_v0 (r := 7) (x := 0) rfl) (dq_lk dL_anewClock_v0 (r := 8) (x := 111) rfl)
theorem dL_anewClock_9 : decode cL_anewClock 9 = .ok (.i2l, 1) := dk_133 (dq_lk dL_anewClock_v0 (r := 9) (x := 133) rfl)
theorem dL_anewClock_10 : decode cL_anewClock 10 = .ok (.putfield 13, 3) := dk_181 (dq_lk dL_anewClock_v0 (r := 10) (x := 181) rfl) (dq_lk dL_anewClock_v0 (r := 11) (x := 0) rfl) (dq_lk dL_anewClock_v0 (r := 12) (x := 13) rfl)
theorem dL_anewClock_13 : decode cL_anewClock 13 = .ok (.goto 7, 3) := dk_167 (dq_lk dL_anewClock_v0 (r := 13) (x := 167) rfl) (dq_lk dL_anewClock_v0 (r := 14) (x := 0) rfl) (dq_lk dL_anewClock_v0 (r := 15) (x := 7) rfl) (by decide +kernel)
theorem dL_anewClock_16 : decode cL_anewClock 16 = .ok (.astore 5, 2) := dk_58 (dq_lk dL_anewClock_v1 (r := 0) (x := 58) rfl) (dq_lk dL_anewClock_v1 (r := 1) (x := 5) rfl)
theorem dL_anewClock_18 : decode cL_anewClock 18 = .ok (.iconst 1, 1) := dk_4 (dq_lk dL_anewClock_v1 (r := 2) (x := 4) rfl)
theorem dL_anewClock_19 : decode cL_anewClock 19 = .ok (.ireturn, 1) := dk_172 (dq_lk dL_anewClock_v1 (r := 3) (x := 172) rfl)
theorem dL_anewClock_20 : decode cL_anewClock 20 = .ok (.iconst 0, 1) := dk_3 (dq_lk dL_anewClock_v1 (r := 4) (x := 3) rfl)
theorem dL_anewClock_21 : decode cL_anewClock 21 = .ok (.ireturn, 1) := dk_172 (dq_lk dL_anewClock_v1 (r := 5) (x := 172) rfl)
theorem dL_copyClock_v0 : (cL_copyClock.data.toList.drop 0).take 16 = [45, 42, 27, 28, 182, 0, 114, 133, 181, 0, 13, 167, 0, 7, 58, 4] := by decide +kernel
theorem dL_copyClock_v1 : (cL_copyClock.data.toList.drop 16).take 16 = [4, 172, 3, 172] := by decide +kernel
theorem dL_copyClock_0 : decode cL_copyClock 0 = .ok (.aload_n 3, 1) := dk_45 (dq_lk dL_copyClock_v0 (r := 0) (x := 45) rfl)
theorem dL_copyClock_1 : decode cL_copyClock 1 = .ok (.aload_n 0, 1) := dk_42 (dq_lk dL_copyClock_v0 (r := 1) (x := 42) rfl)
theorem dL_copyClock_2 : decode cL_copyClock 2 = .ok (.iload_n 1, 1) := dk_27 (dq_lk dL_copyClock_v0 (r := 2) (x := 27) rfl)
theorem dL_copyClock_3 : decode cL_copyClock 3 = .ok (.iload_n 2, 1) := dk_28 (dq_lk dL_copyClock_v0 (r := 3) (x := 28) rfl)
theorem dL_copyClock_4 : decode cL_copyClock 4 = .ok (.invokevirtual 114, 3) := dk_182 (dq_lk dL_copyClock_v0 (r := 4) (x := 182) rfl) (dq_lk dL_copyClock_v0 (r := 5) (x := 0) rfl) (dq_lk dL_copyClock_v0 (r := 6) (x := 114) rfl)
theorem dL_copyClock_7 : decode cL_copyClock 7 = .ok (.i2l, 1) := dk_133 (dq_lk dL_copyClock_v0 (r := 7) (x := 133) rfl)
theorem dL_copyClock_8 : decode cL_copyClock 8 = .ok (.putfield 13, 3) := dk_181 (dq_lk dL_copyClock_v0 (r := 8) (x := 181) rfl) (dq_lk dL_copyClock_v0 (r := 9) (x := 0) rfl) (dq_lk dL_copyClock_v0 (r := 10) (x := 13) rfl)
theorem dL_copyClock_11 : decode cL_copyClock 11 = .ok (.goto 7, 3) := dk_167 (dq_lk dL_copyClock_v0 (r := 11) (x := 167) rfl) (dq_lk dL_copyClock_v0 (r := 12) (x := 0) rfl) (dq_lk dL_copyClock_v0 (r := 13) (x := 7) rfl) (by decide +kernel)
theorem dL_copyClock_14 : decode cL_copyClock 14 = .ok (.astore 4, 2) := dk_58 (dq_lk dL_copyClock_v0 (r := 14) (x := 58) rfl) (dq_lk dL_copyClock_v0 (r := 15) (x := 4) rfl)
theorem dL_copyClock_16 : decode cL_copyClock 16 = .ok (.iconst 1, 1) := dk_4 (dq_lk dL_copyClock_v1 (r := 0) (x := 4) rfl)
theorem dL_copyClock_17 : decode cL_copyClock 17 = .ok (.ireturn, 1) := dk_172 (dq_lk dL_copyClock_v1 (r := 1) (x := 172) rfl)
theorem dL_copyClock_18 : decode cL_copyClock 18 = .ok (.iconst 0, 1) := dk_3 (dq_lk dL_copyClock_v1 (r := 2) (x := 3) rfl)
theorem dL_copyClock_19 : decode cL_copyClock 19 = .ok (.ireturn, 1) := dk_172 (dq_lk dL_copyClock_v1 (r := 3) (x := 172) rfl)
theorem dL_ofClock_v0 : (cL_ofClock.data.toList.drop 0).take 16 = [45, 42, 27, 28, 182, 0, 117, 133, 181, 0, 13, 167, 0, 11, 58, 4] := by decide +kernel
theorem dL_ofClock_v1 : (cL_ofClock.data.toList.drop 16).take 16 = [4, 172, 58, 4, 5, 172, 3, 172] := by decide +kernel
theorem dL_ofClock_0 : decode cL_ofClock 0 = .ok (.aload_n 3, 1) := dk_45 (dq_lk dL_ofClock_v0 (r := 0) (x := 45) rfl)
theorem dL_ofClock_1 : decode cL_ofClock 1 = .ok (.aload_n 0, 1) := dk_42 (dq_lk dL_ofClock_v0 (r := 1) (x := 42) rfl)
theorem dL_ofClock_2 : decode cL_ofClock 2 = .ok (.iload_n 1, 1) := dk_27 (dq_lk dL_ofClock_v0 (r := 2) (x := 27) rfl)
theorem dL_ofClock_3 : decode cL_ofClock 3 = .ok (.iload_n 2, 1) := dk_28 (dq_lk dL_ofClock_v0 (r := 3) (x := 28) rfl)
theorem dL_ofClock_4 : decode cL_ofClock 4 = .ok (.invokevirtual 117, 3) := dk_182 (dq_lk dL_ofClock_v0 (r := 4) (x := 182) rfl) (dq_lk dL_ofClock_v0 (r := 5) (x := 0) rfl) (dq_lk dL_ofClock_v0 (r := 6) (x := 117) rfl)
theorem dL_ofClock_7 : decode cL_ofClock 7 = .ok (.i2l, 1) := dk_133 (dq_lk dL_ofClock_v0 (r := 7) (x := 133) rfl)
theorem dL_ofClock_8 : decode cL_ofClock 8 = .ok (.putfield 13, 3) := dk_181 (dq_lk dL_ofClock_v0 (r := 8) (x := 181) rfl) (dq_lk dL_ofClock_v0 (r := 9) (x := 0) rfl) (dq_lk dL_ofClock_v0 (r := 10) (x := 13) rfl)
theorem dL_ofClock_11 : decode cL_ofClock 11 = .ok (.goto 11, 3) := dk_167 (dq_lk dL_ofClock_v0 (r := 11) (x := 167) rfl) (dq_lk dL_ofClock_v0 (r := 12) (x := 0) rfl) (dq_lk dL_ofClock_v0 (r := 13) (x := 11) rfl) (by decide +kernel)
theorem dL_ofClock_14 : decode cL_ofClock 14 = .ok (.astore 4, 2) := dk_58 (dq_lk dL_ofClock_v0 (r := 14) (x := 58) rfl) (dq_lk dL_ofClock_v0 (r := 15) (x := 4) rfl)
theorem dL_ofClock_16 : decode cL_ofClock 16 = .ok (.iconst 1, 1) := dk_4 (dq_lk dL_ofClock_v1 (r := 0) (x := 4) rfl)
theorem dL_ofClock_17 : decode cL_ofClock 17 = .ok (.ireturn, 1) := dk_172 (dq_lk dL_ofClock_v1 (r := 1) (x := 172) rfl)
theorem dL_ofClock_18 : decode cL_ofClock 18 = .ok (.astore 4, 2) := dk_58 (dq_lk dL_ofClock_v1 (r := 2) (x := 58) rfl) (dq_lk dL_ofClock_v1 (r := 3) (x := 4) rfl)
theorem dL_ofClock_20 : decode cL_ofClock 20 = .ok (.iconst 2, 1) := dk_5 (dq_lk dL_ofClock_v1 (r := 4) (x := 5) rfl)
theorem dL_ofClock_21 : decode cL_ofClock 21 = .ok (.ireturn, 1) := dk_172 (dq_lk dL_ofClock_v1 (r := 5) (x := 172) rfl)
theorem dL_ofClock_22 : decode cL_ofClock 22 = .ok (.iconst 0, 1) := dk_3 (dq_lk dL_ofClock_v1 (r := 6) (x := 3) rfl)
theorem dL_ofClock_23 : decode cL_ofClock 23 = .ok (.ireturn, 1) := dk_172 (dq_lk dL_ofClock_v1 (r := 7) (x := 172) rfl)
theorem dL_orderClock_v0 : (cL_orderClock.data.toList.drop 0).take 16 = [45, 42, 27, 28, 182, 0, 120, 133, 181, 0, 13, 167, 0, 7, 58, 4] := by decide +kernel
theorem dL_orderClock_v1 : (cL_orderClock.data.toList.drop 16).take 16 = [4, 172, 3, 172] := by decide +kernel
theorem dL_orderClock_0 : decode cL_orderClock 0 = .ok (.aload_n 3, 1) := dk_45 (dq_lk dL_orderClock_v0 (r := 0) (x := 45) rfl)
theorem dL_orderClock_1 : decode cL_orderClock 1 = .ok (.aload_n 0, 1) := dk_42 (dq_lk dL_orderClock_v0 (r := 1) (x := 42) rfl)
theorem dL_orderClock_2 : decode cL_orderClock 2 = .ok (.iload_n 1, 1) := dk_27 (dq_lk dL_orderClock_v0 (r := 2) (x := 27) rfl)
theorem dL_orderClock_3 : decode cL_orderClock 3 = .ok (.iload_n 2, 1) := dk_28 (dq_lk dL_orderClock_v0 (r := 3) (x := 28) rfl)
theorem dL_orderClock_4 : decode cL_orderClock 4 = .ok (.invokevirtual 120, 3) := dk_182 (dq_lk dL_orderClock_v0 (r := 4) (x := 182) rfl) (dq_lk dL_orderClock_v0 (r := 5) (x := 0) rfl) (dq_lk dL_orderClock_v0 (r := 6) (x := 120) rfl)
theorem dL_orderClock_7 : decode cL_orderClock 7 = .ok (.i2l, 1) := dk_133 (dq_lk dL_orderClock_v0 (r := 7) (x := 133) rfl)
theorem dL_orderClock_8 : decode cL_orderClock 8 = .ok (.putfield 13, 3) := dk_181 (dq_lk dL_orderClock_v0 (r := 8) (x := 181) rfl) (dq_lk dL_orderClock_v0 (r := 9) (x := 0) rfl) (dq_lk dL_orderClock_v0 (r := 10) (x := 13) rfl)
theorem dL_orderClock_11 : decode cL_orderClock 11 = .ok (.goto 7, 3) := dk_167 (dq_lk dL_orderClock_v0 (r := 11) (x := 167) rfl) (dq_lk dL_orderClock_v0 (r := 12) (x := 0) rfl) (dq_lk dL_orderClock_v0 (r := 13) (x := 7) rfl) (by decide +kernel)
theorem dL_orderClock_14 : decode cL_orderClock 14 = .ok (.astore 4, 2) := dk_58 (dq_lk dL_orderClock_v0 (r := 14) (x := 58) rfl) (dq_lk dL_orderClock_v0 (r := 15) (x := 4) rfl)
theorem dL_orderClock_16 : decode cL_orderClock 16 = .ok (.iconst 1, 1) := dk_4 (dq_lk dL_orderClock_v1 (r := 0) (x := 4) rfl)
theorem dL_orderClock_17 : decode cL_orderClock 17 = .ok (.ireturn, 1) := dk_172 (dq_lk dL_orderClock_v1 (r := 1) (x := 172) rfl)
theorem dL_orderClock_18 : decode cL_orderClock 18 = .ok (.iconst 0, 1) := dk_3 (dq_lk dL_orderClock_v1 (r := 2) (x := 3) rfl)
theorem dL_orderClock_19 : decode cL_orderClock 19 = .ok (.ireturn, 1) := dk_172 (dq_lk dL_orderClock_v1 (r := 3) (x := 172) rfl)
theorem dL_isClock_v0 : (cL_isClock.data.toList.drop 0).take 16 = [25, 4, 42, 27, 28, 29, 182, 0, 123, 153, 0, 7, 10, 167, 0, 4] := by decide +kernel
theorem dL_isClock_v1 : (cL_isClock.data.toList.drop 16).take 16 = [9, 181, 0, 13, 167, 0, 11, 58, 5, 4, 172, 58, 5, 5, 172, 3] := by decide +kernel
theorem dL_isClock_v2 : (cL_isClock.data.toList.drop 32).take 16 = [172] := by decide +kernel
theorem dL_isClock_0 : decode cL_isClock 0 = .ok (.aload 4, 2) := dk_25 (dq_lk dL_isClock_v0 (r := 0) (x := 25) rfl) (dq_lk dL_isClock_v0 (r := 1) (x := 4) rfl)
theorem dL_isClock_2 : decode cL_isClock 2 = .ok (.aload_n 0, 1) := dk_42 (dq_lk dL_isClock_v0 (r := 2) (x := 42) rfl)
theorem dL_isClock_3 : decode cL_isClock 3 = .ok (.iload_n 1, 1) := dk_27 (dq_lk dL_isClock_v0 (r := 3) (x := 27) rfl)
theorem dL_isClock_4 : decode cL_isClock 4 = .ok (.iload_n 2, 1) := dk_28 (dq_lk dL_isClock_v0 (r := 4) (x := 28) rfl)
theorem dL_isClock_5 : decode cL_isClock 5 = .ok (.iload_n 3, 1) := dk_29 (dq_lk dL_isClock_v0 (r := 5) (x := 29) rfl)
theorem dL_isClock_6 : decode cL_isClock 6 = .ok (.invokevirtual 123, 3) := dk_182 (dq_lk dL_isClock_v0 (r := 6) (x := 182) rfl) (dq_lk dL_isClock_v0 (r := 7) (x := 0) rfl) (dq_lk dL_isClock_v0 (r := 8) (x := 123) rfl)
theorem dL_isClock_9 : decode cL_isClock 9 = .ok (.ifCond .eq 7, 3) := dk_153 (dq_lk dL_isClock_v0 (r := 9) (x := 153) rfl) (dq_lk dL_isClock_v0 (r := 10) (x := 0) rfl) (dq_lk dL_isClock_v0 (r := 11) (x := 7) rfl) (by decide +kernel)
theorem dL_isClock_12 : decode cL_isClock 12 = .ok (.lconst 1, 1) := dk_10 (dq_lk dL_isClock_v0 (r := 12) (x := 10) rfl)
theorem dL_isClock_13 : decode cL_isClock 13 = .ok (.goto 4, 3) := dk_167 (dq_lk dL_isClock_v0 (r := 13) (x := 167) rfl) (dq_lk dL_isClock_v0 (r := 14) (x := 0) rfl) (dq_lk dL_isClock_v0 (r := 15) (x := 4) rfl) (by decide +kernel)
theorem dL_isClock_16 : decode cL_isClock 16 = .ok (.lconst 0, 1) := dk_9 (dq_lk dL_isClock_v1 (r := 0) (x := 9) rfl)
theorem dL_isClock_17 : decode cL_isClock 17 = .ok (.putfield 13, 3) := dk_181 (dq_lk dL_isClock_v1 (r := 1) (x := 181) rfl) (dq_lk dL_isClock_v1 (r := 2) (x := 0) rfl) (dq_lk dL_isClock_v1 (r := 3) (x := 13) rfl)
theorem dL_isClock_20 : decode cL_isClock 20 = .ok (.goto 11, 3) := dk_167 (dq_lk dL_isClock_v1 (r := 4) (x := 167) rfl) (dq_lk dL_isClock_v1 (r := 5) (x := 0) rfl) (dq_lk dL_isClock_v1 (r := 6) (x := 11) rfl) (by decide +kernel)
theorem dL_isClock_23 : decode cL_isClock 23 = .ok (.astore 5, 2) := dk_58 (dq_lk dL_isClock_v1 (r := 7) (x := 58) rfl) (dq_lk dL_isClock_v1 (r := 8) (x := 5) rfl)
theorem dL_isClock_25 : decode cL_isClock 25 = .ok (.iconst 1, 1) := dk_4 (dq_lk dL_isClock_v1 (r := 9) (x := 4) rfl)
theorem dL_isClock_26 : decode cL_isClock 26 = .ok (.ireturn, 1) := dk_172 (dq_lk dL_isClock_v1 (r := 10) (x := 172) rfl)
theorem dL_isClock_27 : decode cL_isClock 27 = .ok (.astore 5, 2) := dk_58 (dq_lk dL_isClock_v1 (r := 11) (x := 58) rfl) (dq_lk dL_isClock_v1 (r := 12) (x := 5) rfl)
theorem dL_isClock_29 : decode cL_isClock 29 = .ok (.iconst 2, 1) := dk_5 (dq_lk dL_isClock_v1 (r := 13) (x := 5) rfl)
theorem dL_isClock_30 : decode cL_isClock 30 = .ok (.ireturn, 1) := dk_172 (dq_lk dL_isClock_v1 (r := 14) (x := 172) rfl)
theorem dL_isClock_31 : decode cL_isClock 31 = .ok (.iconst 0, 1) := dk_3 (dq_lk dL_isClock_v1 (r := 15) (x := 3) rfl)
theorem dL_isClock_32 : decode cL_isClock 32 = .ok (.ireturn, 1) := dk_172 (dq_lk dL_isClock_v2 (r := 0) (x := 172) rfl)
theorem dL_house_v0 : (cL_house.data.toList.drop 0).take 16 = [44, 42, 27, 182, 0, 126, 133, 181, 0, 13, 167, 0, 6, 78, 4, 172] := by decide +kernel
theorem dL_house_v1 : (cL_house.data.toList.drop 16).take 16 = [3, 172] := by decide +kernel
theorem dL_house_0 : decode cL_house 0 = .ok (.aload_n 2, 1) := dk_44 (dq_lk dL_house_v0 (r := 0) (x := 44) rfl)
theorem dL_house_1 : decode cL_house 1 = .ok (.aload_n 0, 1) := dk_42 (dq_lk dL_house_v0 (r := 1) (x := 42) rfl)
theorem dL_house_2 : decode cL_house 2 = .ok (.iload_n 1, 1) := dk_27 (dq_lk dL_house_v0 (r := 2) (x := 27) rfl)
theorem dL_house_3 : decode cL_house 3 = .ok (.invokevirtual 126, 3) := dk_182 (dq_lk dL_house_v0 (r := 3) (x := 182) rfl) (dq_lk dL_house_v0 (r := 4) (x := 0) rfl) (dq_lk dL_house_v0 (r := 5) (x := 126) rfl)
theorem dL_house_6 : decode cL_house 6 = .ok (.i2l, 1) := dk_133 (dq_lk dL_house_v0 (r := 6) (x := 133) rfl)
theorem dL_house_7 : decode cL_house 7 = .ok (.putfield 13, 3) := dk_181 (dq_lk dL_house_v0 (r := 7) (x := 181) rfl) (dq_lk dL_house_v0 (r := 8) (x := 0) rfl) (dq_lk dL_house_v0 (r := 9) (x := 13) rfl)
theorem dL_house_10 : decode cL_house 10 = .ok (.goto 6, 3) := dk_167 (dq_lk dL_house_v0 (r := 10) (x := 167) rfl) (dq_lk dL_house_v0 (r := 11) (x := 0) rfl) (dq_lk dL_house_v0 (r := 12) (x := 6) rfl) (by decide +kernel)
theorem dL_house_13 : decode cL_house 13 = .ok (.astore_n 3, 1) := dk_78 (dq_lk dL_house_v0 (r := 13) (x := 78) rfl)
theorem dL_house_14 : decode cL_house 14 = .ok (.iconst 1, 1) := dk_4 (dq_lk dL_house_v0 (r := 14) (x := 4) rfl)
theorem dL_house_15 : decode cL_house 15 = .ok (.ireturn, 1) := dk_172 (dq_lk dL_house_v0 (r := 15) (x := 172) rfl)
theorem dL_house_16 : decode cL_house 16 = .ok (.iconst 0, 1) := dk_3 (dq_lk dL_house_v1 (r := 0) (x := 3) rfl)
theorem dL_house_17 : decode cL_house 17 = .ok (.ireturn, 1) := dk_172 (dq_lk dL_house_v1 (r := 1) (x := 172) rfl)
end
-- 46 wrapx
section
/-! The law's wrappers of offset, offsetOf, seconds, exact. (Rows by a program of this repository.) -/
theorem dL_seconds_v0 : (cL_seconds.data.toList.drop 0).take 16 = [44, 42, 27, 182, 0, 27, 133, 181, 0, 13, 167, 0, 6, 78, 4, 172] := by decide +kernel
theorem dL_seconds_v1 : (cL_seconds.data.toList.drop 16).take 16 = [3, 172] := by decide +kernel
theorem dL_seconds_0 : decode cL_seconds 0 = .ok (.aload_n 2, 1) := dk_44 (dq_lk dL_seconds_v0 (r := 0) (x := 44) rfl)
theorem dL_seconds_1 : decode cL_seconds 1 = .ok (.aload_n 0, 1) := dk_42 (dq_lk dL_seconds_v0 (r := 1) (x := 42) rfl)
theorem dL_seconds_2 : decode cL_seconds 2 = .ok (.iload_n 1, 1) := dk_27 (dq_lk dL_seconds_v0 (r := 2) (x := 27) rfl)
theorem dL_seconds_3 : decode cL_seconds 3 = .ok (.invokevirtual 27, 3) := dk_182 (dq_lk dL_seconds_v0 (r := 3) (x := 182) rfl) (dq_lk dL_seconds_v0 (r := 4) (x := 0) rfl) (dq_lk dL_seconds_v0 (r := 5) (x := 27) rfl)
theorem dL_seconds_6 : decode cL_seconds 6 = .ok (.i2l, 1) := dk_133 (dq_lk dL_seconds_v0 (r := 6) (x := 133) rfl)
theorem dL_seconds_7 : decode cL_seconds 7 = .ok (.putfield 13, 3) := dk_181 (dq_lk dL_seconds_v0 (r := 7) (x := 181) rfl) (dq_lk dL_seconds_v0 (r := 8) (x := 0) rfl) (dq_lk dL_seconds_v0 (r := 9) (x := 13) rfl)
theorem dL_seconds_10 : decode cL_seconds 10 = .ok (.goto 6, 3) := dk_167 (dq_lk dL_seconds_v0 (r := 10) (x := 167) rfl) (dq_lk dL_seconds_v0 (r := 11) (x := 0) rfl) (dq_lk dL_seconds_v0 (r := 12) (x := 6) rfl) (by decide +kernel)
theorem dL_seconds_13 : decode cL_seconds 13 = .ok (.astore_n 3, 1) := dk_78 (dq_lk dL_seconds_v0 (r := 13) (x := 78) rfl)
theorem dL_seconds_14 : decode cL_seconds 14 = .ok (.iconst 1, 1) := dk_4 (dq_lk dL_seconds_v0 (r := 14) (x := 4) rfl)
theorem dL_seconds_15 : decode cL_seconds 15 = .ok (.ireturn, 1) := dk_172 (dq_lk dL_seconds_v0 (r := 15) (x := 172) rfl)
theorem dL_seconds_16 : decode cL_seconds 16 = .ok (.iconst 0, 1) := dk_3 (dq_lk dL_seconds_v1 (r := 0) (x := 3) rfl)
theorem dL_seconds_17 : decode cL_seconds 17 = .ok (.ireturn, 1) := dk_172 (dq_lk dL_seconds_v1 (r := 1) (x := 172) rfl)
theorem dL_offsetOf_v0 : (cL_offsetOf.data.toList.drop 0).take 16 = [25, 5, 42, 27, 28, 29, 21, 4, 182, 0, 23, 133, 181, 0, 13, 167] := by decide +kernel
theorem dL_offsetOf_v1 : (cL_offsetOf.data.toList.drop 16).take 16 = [0, 7, 58, 6, 4, 172, 3, 172] := by decide +kernel
theorem dL_offsetOf_0 : decode cL_offsetOf 0 = .ok (.aload 5, 2) := dk_25 (dq_lk dL_offsetOf_v0 (r := 0) (x := 25) rfl) (dq_lk dL_offsetOf_v0 (r := 1) (x := 5) rfl)
theorem dL_offsetOf_2 : decode cL_offsetOf 2 = .ok (.aload_n 0, 1) := dk_42 (dq_lk dL_offsetOf_v0 (r := 2) (x := 42) rfl)
theorem dL_offsetOf_3 : decode cL_offsetOf 3 = .ok (.iload_n 1, 1) := dk_27 (dq_lk dL_offsetOf_v0 (r := 3) (x := 27) rfl)
theorem dL_offsetOf_4 : decode cL_offsetOf 4 = .ok (.iload_n 2, 1) := dk_28 (dq_lk dL_offsetOf_v0 (r := 4) (x := 28) rfl)
theorem dL_offsetOf_5 : decode cL_offsetOf 5 = .ok (.iload_n 3, 1) := dk_29 (dq_lk dL_offsetOf_v0 (r := 5) (x := 29) rfl)
theorem dL_offsetOf_6 : decode cL_offsetOf 6 = .ok (.iload 4, 2) := dk_21 (dq_lk dL_offsetOf_v0 (r := 6) (x := 21) rfl) (dq_lk dL_offsetOf_v0 (r := 7) (x := 4) rfl)
theorem dL_offsetOf_8 : decode cL_offsetOf 8 = .ok (.invokevirtual 23, 3) := dk_182 (dq_lk dL_offsetOf_v0 (r := 8) (x := 182) rfl) (dq_lk dL_offsetOf_v0 (r := 9) (x := 0) rfl) (dq_lk dL_offsetOf_v0 (r := 10) (x := 23) rfl)
theorem dL_offsetOf_11 : decode cL_offsetOf 11 = .ok (.i2l, 1) := dk_133 (dq_lk dL_offsetOf_v0 (r := 11) (x := 133) rfl)
theorem dL_offsetOf_12 : decode cL_offsetOf 12 = .ok (.putfield 13, 3) := dk_181 (dq_lk dL_offsetOf_v0 (r := 12) (x := 181) rfl) (dq_lk dL_offsetOf_v0 (r := 13) (x := 0) rfl) (dq_lk dL_offsetOf_v0 (r := 14) (x := 13) rfl)
theorem dL_offsetOf_15 : decode cL_offsetOf 15 = .ok (.goto 7, 3) := dk_167 (dq_lk dL_offsetOf_v0 (r := 15) (x := 167) rfl) (dq_lk dL_offsetOf_v1 (r := 0) (x := 0) rfl) (dq_lk dL_offsetOf_v1 (r := 1) (x := 7) rfl) (by decide +kernel)
theorem dL_offsetOf_18 : decode cL_offsetOf 18 = .ok (.astore 6, 2) := dk_58 (dq_lk dL_offsetOf_v1 (r := 2) (x := 58) rfl) (dq_lk dL_offsetOf_v1 (r := 3) (x := 6) rfl)
theorem dL_offsetOf_20 : decode cL_offsetOf 20 = .ok (.iconst 1, 1) := dk_4 (dq_lk dL_offsetOf_v1 (r := 4) (x := 4) rfl)
theorem dL_offsetOf_21 : decode cL_offsetOf 21 = .ok (.ireturn, 1) := dk_172 (dq_lk dL_offsetOf_v1 (r := 5) (x := 172) rfl)
theorem dL_offsetOf_22 : decode cL_offsetOf 22 = .ok (.iconst 0, 1) := dk_3 (dq_lk dL_offsetOf_v1 (r := 6) (x := 3) rfl)
theorem dL_offsetOf_23 : decode cL_offsetOf 23 = .ok (.ireturn, 1) := dk_172 (dq_lk dL_offsetOf_v1 (r := 7) (x := 172) rfl)
theorem dL_offset_v0 : (cL_offset.data.toList.drop 0).take 16 = [45, 42, 27, 28, 182, 0, 7, 133, 181, 0, 13, 167, 0, 11, 58, 4] := by decide +kernel
theorem dL_offset_v1 : (cL_offset.data.toList.drop 16).take 16 = [4, 172, 58, 4, 5, 172, 3, 172] := by decide +kernel
theorem dL_offset_0 : decode cL_offset 0 = .ok (.aload_n 3, 1) := dk_45 (dq_lk dL_offset_v0 (r := 0) (x := 45) rfl)
theorem dL_offset_1 : decode cL_offset 1 = .ok (.aload_n 0, 1) := dk_42 (dq_lk dL_offset_v0 (r := 1) (x := 42) rfl)
theorem dL_offset_2 : decode cL_offset 2 = .ok (.iload_n 1, 1) := dk_27 (dq_lk dL_offset_v0 (r := 2) (x := 27) rfl)
theorem dL_offset_3 : decode cL_offset 3 = .ok (.iload_n 2, 1) := dk_28 (dq_lk dL_offset_v0 (r := 3) (x := 28) rfl)
theorem dL_offset_4 : decode cL_offset 4 = .ok (.invokevirtual 7, 3) := dk_182 (dq_lk dL_offset_v0 (r := 4) (x := 182) rfl) (dq_lk dL_offset_v0 (r := 5) (x := 0) rfl) (dq_lk dL_offset_v0 (r := 6) (x := 7) rfl)
theorem dL_offset_7 : decode cL_offset 7 = .ok (.i2l, 1) := dk_133 (dq_lk dL_offset_v0 (r := 7) (x := 133) rfl)
theorem dL_offset_8 : decode cL_offset 8 = .ok (.putfield 13, 3) := dk_181 (dq_lk dL_offset_v0 (r := 8) (x := 181) rfl) (dq_lk dL_offset_v0 (r := 9) (x := 0) rfl) (dq_lk dL_offset_v0 (r := 10) (x := 13) rfl)
theorem dL_offset_11 : decode cL_offset 11 = .ok (.goto 11, 3) := dk_167 (dq_lk dL_offset_v0 (r := 11) (x := 167) rfl) (dq_lk dL_offset_v0 (r := 12) (x := 0) rfl) (dq_lk dL_offset_v0 (r := 13) (x := 11) rfl) (by decide +kernel)
theorem dL_offset_14 : decode cL_offset 14 = .ok (.astore 4, 2) := dk_58 (dq_lk dL_offset_v0 (r := 14) (x := 58) rfl) (dq_lk dL_offset_v0 (r := 15) (x := 4) rfl)
theorem dL_offset_16 : decode cL_offset 16 = .ok (.iconst 1, 1) := dk_4 (dq_lk dL_offset_v1 (r := 0) (x := 4) rfl)
theorem dL_offset_17 : decode cL_offset 17 = .ok (.ireturn, 1) := dk_172 (dq_lk dL_offset_v1 (r := 1) (x := 172) rfl)
theorem dL_offset_18 : decode cL_offset 18 = .ok (.astore 4, 2) := dk_58 (dq_lk dL_offset_v1 (r := 2) (x := 58) rfl) (dq_lk dL_offset_v1 (r := 3) (x := 4) rfl)
theorem dL_offset_20 : decode cL_offset 20 = .ok (.iconst 2, 1) := dk_5 (dq_lk dL_offset_v1 (r := 4) (x := 5) rfl)
theorem dL_offset_21 : decode cL_offset 21 = .ok (.ireturn, 1) := dk_172 (dq_lk dL_offset_v1 (r := 5) (x := 172) rfl)
theorem dL_offset_22 : decode cL_offset 22 = .ok (.iconst 0, 1) := dk_3 (dq_lk dL_offset_v1 (r := 6) (x := 3) rfl)
theorem dL_offset_23 : decode cL_offset 23 = .ok (.ireturn, 1) := dk_172 (dq_lk dL_offset_v1 (r := 7) (x := 172) rfl)
end
-- 47 start
section
/-! What the Statement gives of the start, as the walks want it. (Own work; rows by a program of this repository.) -/
def mFl : List Cond := flatC (Jvm.Cond.and given_1 narrow_1)
theorem mN_at {args : Array Value} {s : State} (hv : (Jvm.Cond.and given_1 narrow_1).before args s = true) (i : Nat) {c : Cond} (h : mFl[i]? = some c) : c.before args s = true := flat_of_before _ hv _ (List.mem_of_getElem? h)
set_option maxHeartbeats 1000000 in
set_option maxRecDepth 20000 in
theorem mfo_a : (mFl.drop 14).take 100 = (List.range 100).map (fun j : Nat => Cond.eq (.elem (.static "java/lang/Integer" "DigitOnes" "[B") (.int (Int32.ofNat j))) (.int (nI (48 + j % 10)))) := rfl
theorem mfo : ∀ j, j < 100 → mFl[14 + j]? = some (Cond.eq (.elem (.static "java/lang/Integer" "DigitOnes" "[B") (.int (Int32.ofNat j))) (.int (nI (48 + j % 10)))) := by
  intro j hj
  have h : ((mFl.drop 14).take 100)[j]? = some (Cond.eq (.elem (.static "java/lang/Integer" "DigitOnes" "[B") (.int (Int32.ofNat j))) (.int (nI (48 + j % 10)))) := by
    rw [mfo_a, List.getElem?_map, List.getElem?_range hj]
    rfl
  rw [List.getElem?_take, if_pos hj, List.getElem?_drop] at h
  exact h
set_option maxHeartbeats 1000000 in
set_option maxRecDepth 20000 in
theorem mft_a : (mFl.drop 117).take 100 = (List.range 100).map (fun j : Nat => Cond.eq (.elem (.static "java/lang/Integer" "DigitTens" "[B") (.int (Int32.ofNat j))) (.int (nI (48 + j / 10)))) := rfl
theorem mft : ∀ j, j < 100 → mFl[117 + j]? = some (Cond.eq (.elem (.static "java/lang/Integer" "DigitTens" "[B") (.int (Int32.ofNat j))) (.int (nI (48 + j / 10)))) := by
  intro j hj
  have h : ((mFl.drop 117).take 100)[j]? = some (Cond.eq (.elem (.static "java/lang/Integer" "DigitTens" "[B") (.int (Int32.ofNat j))) (.int (nI (48 + j / 10)))) := by
    rw [mft_a, List.getElem?_map, List.getElem?_range hj]
    rfl
  rw [List.getElem?_take, if_pos hj, List.getElem?_drop] at h
  exact h
section MSTART
variable {args : Array Value} {s : State} {A : Nat → Prop}
theorem mTab_start {C n : String} {f : Nat → Int32} (hl : (Cond.laysStatic C n "[B").before args s = true) (hini : (Cond.initialized C).before args s = true) (harr : (Cond.arrayOf (.static C n "[B") .byte).before args s = true) (hlen : (Cond.eq (.length (.static C n "[B")) (.int (Int32.ofNat 100))).before args s = true) (hel : ∀ j, j < 100 → (Cond.eq (.elem (.static C n "[B") (.int (Int32.ofNat j))) (.int (f j))).before args s = true) (hA : ∀ a : Nat, a < s.heap.size → ¬ A a) : mTab C n f A s s.heap := by
  obtain ⟨t, h1, h2⟩ := va_Tof (N := 100) (f := fun j => .int (f j)) (by decide) harr (va_eqt hlen) (fun j hj => va_eqt (hel j hj)) hA
  exact ⟨t, va_Zof hl hini h1 hA, h2⟩
theorem mStr_start {own tx : String} {k : Nat} (h1 : (Cond.stringRef own k tx).before args s = true) (h2 : (Cond.exactly (.string own k) "java/lang/String").before args s = true) : ∃ a : Nat, vk_R own k tx a s ∧ (Term.string own k).eval args s none [] s = some (.ref a) := by
  obtain ⟨a2, c, cA, kA, q1, -⟩ := Cond.exactly_spec (args := args) (first := s) (o := none) (s := s) (idx := []) h2
  exact ⟨a2, vk_R.of h1 q1, q1⟩
theorem mst_start (hv : (Jvm.Cond.and given_1 narrow_1).before args s = true) (hts : ∀ w ∈ lw_tbl, w.before args s = true) (hA : ∀ a : Nat, a < s.heap.size → ¬ A a) : mst A s := by
  have tb : ∀ (i : Nat) {w : Cond}, lw_tbl[i]? = some w → w.before args s = true := fun i w h => hts w (List.mem_of_getElem? h)
  obtain ⟨a1, h1, -⟩ := mStr_start (own := RX2) (k := 252) (tx := "there is no such one") (tb 201 (by decide +kernel)) (mN_at hv 231 rfl)
  obtain ⟨a2, h2, -⟩ := mStr_start (own := RX2) (k := 259) (tx := "a number is not within its limits") (tb 402 (by decide +kernel)) (mN_at hv 255 rfl)
  obtain ⟨a, h3, q3⟩ := mStr_start (own := RX4) (k := 119) (tx := "") (tb 1176 (by decide +kernel)) (mN_at hv 302 rfl)
  obtain ⟨v, q4, h4⟩ := va_Tof (s := s) (args := args) (A := A) (tm := .field (.string RX4 119) "java/lang/String" "value" "[B") (ty := .byte) (N := 0) (f := fun _ => .int 0) (by decide) (mN_at hv 304 rfl) (va_eqt (z := Int32.ofNat 0) (mN_at hv 305 rfl)) (fun j hj => absurd hj (Nat.not_lt_zero j)) hA
  have hn : (Cond.initialized "java/lang/Integer").before args s = true := tb 60 (by decide +kernel)
  have ht : (Cond.initialized Bundle.tN).before args s = true := tb 44 (by decide +kernel)
  refine ⟨⟨a1, h1⟩, ⟨a2, h2⟩, vx_Zqof (tb 188 (by decide +kernel)) ht (mN_at hv 4 rfl) hA, vx_Zqof (tb 190 (by decide +kernel)) ht (mN_at hv 5 rfl) hA, va_Zof (tb 533 (by decide +kernel)) (tb 52 (by decide +kernel)) (va_eqi (mN_at hv 6 rfl)) hA, mTab_start (tb 744 (by decide +kernel)) hn (mN_at hv 12 rfl) (mN_at hv 13 rfl) (fun j hj => mN_at hv _ (mfo j hj)) hA, mTab_start (tb 746 (by decide +kernel)) hn (mN_at hv 115 rfl) (mN_at hv 116 rfl) (fun j hj => mN_at hv _ (mft j hj)) hA, a, v, h3, va_Oof (mN_at hv 302 rfl) q3 hA, vk_OFof q3 (va_eqt (mN_at hv 303 rfl)) hA, vk_OFof q3 q4 hA, h4⟩
theorem mNc_start (hv : (Jvm.Cond.and given_1 narrow_1).before args s = true) : mNc A s := va_Nc.of (mN_at hv 221 rfl)
theorem marr_start {ty : FieldType} (h : (Cond.arrayClass ty).before args s = true) (hra : ∀ c : ClassId, s.vm.findClass ("[" ++ ty.toString) = some c → va_RA s c ty) : ∃ cA : ClassId, ArrOfT s cA ty ∧ va_RA s cA ty := by
  obtain ⟨c, k9, comp, h1, h2, h3⟩ := Cond.arrayClass_spec h
  exact ⟨c, fun n z => ⟨fun k h => (by cases h), k9, h2, comp, h3⟩, hra c h1⟩
theorem mcs_start (hm : ∀ w ∈ mW, w.before args s = true) : ∃ cs : ClassId × ClassId × ClassId, ∀ (k : Nat) (q : ClassId × FieldType), (mTy cs)[k]? = some q → ArrOfT s q.1 q.2 ∧ va_RA s q.1 q.2 := by
  obtain ⟨c1, h1⟩ := marr_start (ty := .int) (hm _ ka_int) (fun c h => h)
  obtain ⟨c2, h2⟩ := marr_start (ty := .long) (hm _ ka_long) (fun c h => h)
  obtain ⟨comp, c3, k, g1, g2, g3, g4, g5⟩ := Cond.arrayOver_spec (hm _ kao)
  refine ⟨(c1, c2, c3), fun k9 q hq => ?_⟩
  match k9, hq with
  | 0, hq => cases hq; exact h1
  | 1, hq => cases hq; exact h2
  | 2, hq => cases hq; exact ⟨fun n z => ⟨fun k h => (by cases h), k, g3, comp, g4⟩, k, comp, g3, g4, g1, g5⟩
  | k9 + 3, hq => exact absurd hq (fun h => nomatch h)
theorem mkn_start (hm : ∀ w ∈ mW, w.before args s = true) : ∃ D : va_G, ∀ (c : Nat) (q : vw_C), vwCl[c]? = some q → u_Kn s q.1 q.2.1 q.2.2 (D.1 c) (D.2 c) := by
  obtain ⟨c0, i0, n0⟩ := u_known (C := RJ0) (T := TJ0) (N := 4) (n := 4) hm kinJ0 (hm _ (mW_at 696 (by decide +kernel) (by decide +kernel)))
  obtain ⟨c1, i1, n1⟩ := u_known (C := RJ4) (T := TJ4) (N := 4) (n := 4) hm kinJ4 (hm _ (mW_at 524 (by decide +kernel) (by decide +kernel)))
  obtain ⟨c2, i2, n2⟩ := u_known (C := RX1) (T := TX1) (N := 3) (n := 3) hm kinX1 (hm _ ki_X1)
  obtain ⟨c3, i3, n3⟩ := u_known (C := RX2) (T := TX2) (N := 8) (n := 8) hm kinX2 (hm _ ki_X2)
  obtain ⟨c4, i4, n4⟩ := u_known (C := RX3) (T := TX3) (N := 2) (n := 2) hm kinX3 (hm _ ki_X3)
  obtain ⟨c5, i5, n5⟩ := u_known (C := RX4) (T := TX4) (N := 9) (n := 9) hm kinX4 (hm _ ki_X4)
  refine ⟨(fun k => [c0, c1, c2, c3, c4, c5].getD k c0, fun k => [i0, i1, i2, i3, i4, i5].getD k i0), fun k q hq => ?_⟩
  match k, hq with
  | 0, hq => cases hq; exact n0
  | 1, hq => cases hq; exact n1
  | 2, hq => cases hq; exact n2
  | 3, hq => cases hq; exact n3
  | 4, hq => cases hq; exact n4
  | 5, hq => cases hq; exact n5
  | k + 6, hq => exact absurd hq (fun h => nomatch h)
end MSTART
end
-- 48 lawrows
section
/-! THE CLAIM OUT OF ONE WALK OF THE LAW'S BODY. Your part is whole_start (and what it stands on); all else here is the same for every law, but numbers. -/
def R_law : String := "MomentdeskLaw"
def lw_P (b : Addr) (xs : List Int32) (args : Array Value) (s : State) : Prop := args = #[.ref b] ∧ s.IntsAt b xs ∧ xs.length ≤ 3584 ∧ (Jvm.Cond.and given_1 narrow_1).before args s = true
def lw_Q (_ : Array Value) (s : State) (o : Outcome) (t : State) : Prop := o = .returned (some (.int 1)) ∧ Framed s o t [] 652172 7139589
def lw_Z (below : List Frame) (a : Array Value) (s : State) : State → Prop := fun t => ∃ o, t.status = .running ∧ Ended t below o ∧ lw_Q a s o t
/-- the law's own end, with 1 on the stack, nothing written that was there before, its room as the claim has it -/
theorem lw_ret {p : Program} {l : Launch} {e : Env} {s : State} {m : MethodId} {below : List Frame} {meth : Method} {c : Code} {b : Nat} (hx : p.tables.exec = Jvm.exec) (hb : c.code = code) (hr : meth.sig.returnType = ret) (hlocks : meth.locks = false) {pc : Nat} {H : Heap} {ls : Array Slot} (hdg : decode code pc = .ok (.ireturn, 1)) : W p l e room_1 s m #[Value.ref b] below meth c H [] 652172 7139589 (lw_Z below #[Value.ref b] s) (F0 m pc ls [.int 1]) := by
  intro T hT X
  obtain ⟨fs, hret, hrun, hended, hW, hframe⟩ := X.leave (v := some (.int 1)) (hlocks := hlocks) (fun h => by rw [hr] at h; cases h)
  have hmeth' : T.vm.method? m = some meth := X.method'
  refine ⟨T.setFrames fs, ?_, .returned (some (.int 1)), hrun, hended, rfl, ⟨_, rfl⟩, hW, hframe⟩
  jvm_step X.here [X.here.top, hx, hb, hdg, hmeth', hr, ret, narrow_b1]
  (try refine ⟨rfl, ?_⟩); (try refine ⟨rfl, ?_⟩)
  first | (intro acts; rw [hret _ acts rfl rfl rfl]) | rw [hret _ _ rfl rfl rfl]
  exact Steps.refl _
/-- what holds at the law's entry: the machine, the code, the tables' words (any of lw_tbl by 'hts w (by decide +kernel)'), the script of L ints xs at the cell b, what the Statement gives of the start (any of its parts by flat_of_before) -/
def lw_At (p : Program) (s : State) (m : MethodId) (meth : Method) (c : Code) (b L : Nat) (xs : Nat → Int32) : Prop :=
  p.tables.exec = Jvm.exec ∧ c.code = code ∧ meth.sig.returnType = ret ∧ c.maxLocals = 7 ∧ s.vm.findClass R_law = some m.cls ∧ (∀ w ∈ lw_tbl, w.before #[Value.ref b] s = true) ∧ va_X b L xs s s.heap ∧ b < s.heap.size ∧ meth.locks = false ∧ (∀ x ∈ c.exceptionTable.toList, False) ∧ (Jvm.Cond.and given_1 narrow_1).before #[Value.ref b] s = true
/-! The law's own rows. (Own work.) -/
/-- the law's script stands at b -/
def mScr (X : mC) (b L : Nat) (xs : Nat → Int32) : Prop := match X with
  | (_, _, _, _, s, _, _, _, _, _, _, _, _, A) => va_X b L xs s s.heap ∧ b < s.heap.size ∧ ¬ A b
/-- where the law may end -/
def mLE (X : mC) (b : Nat) : Prop := match X with
  | (_, _, _, R, s, _, args, below, meth, _, Q, _, _, A) => meth.sig.returnType = ret ∧ R = room_1 ∧ args = #[Value.ref b] ∧ Q = lw_Z below #[Value.ref b] s ∧ ∀ q : Nat, A q → s.heap.size ≤ q
section MLAW
variable {X : mC} {own : String} {cc : ByteArray} {nL : Nat} {R : Room} {hh : List (Nat × Nat × Nat × Nat)} {tys : List (ClassId × FieldType)} {pc : Nat} {lv : List (Nat × Option Value)} {st : List Value} {ws : va_W} {k n : Nat} {b L : Nat} {xs : Nat → Int32}
theorem r_sld {i : Int32} (hX : mOK X own cc nL R hh tys) (hS : mScr X b L xs) (hin : vp_in i L) (hd : decode cc pc = .ok (.iaload, 1)) (kk : mV X (pc + 1) lv (.int (xs i.toNatClampNeg) :: st) ws k n) : mV X pc lv (.int i :: .ref b :: st) ws k n := by
  obtain ⟨p, l, e, R', s, m, args, below, meth, c, Q, D, tys', A⟩ := X
  obtain ⟨hx, hb, hml, hR, hown, hts, hK, hty, hlk, hA, hst, hlt, htab⟩ := hX
  obtain ⟨s1, s2, s3⟩ := hS
  exact fun H locs ls hP hD hS hl => va_sld hx hb s1 s2 s3 hS hin hd (kk H locs ls hP hD hS hl)
theorem r_slen (hX : mOK X own cc nL R hh tys) (hS : mScr X b L xs) (hd : decode cc pc = .ok (.arraylength, 1)) (kk : mV X (pc + 1) lv (.int (nI L) :: st) ws k n) : mV X pc lv (.ref b :: st) ws k n := by
  obtain ⟨p, l, e, R', s, m, args, below, meth, c, Q, D, tys', A⟩ := X
  obtain ⟨hx, hb, hml, hR, hown, hts, hK, hty, hlk, hA, hst, hlt, htab⟩ := hX
  obtain ⟨s1, s2, s3⟩ := hS
  exact fun H locs ls hP hD hS hl => va_slen hx hb s1 s2 s3 hS hd (kk H locs ls hP hD hS hl)
/-- script[i + c] -/
theorem r_arg {i0 c : Nat} {z : Int} (hX : mOK X own cc nL R hh tys) (hS : mScr X b L xs) (h0 : lget lv 0 = some (.ref b)) (h4 : lget lv 4 = some (.int (nI i0))) (hc : Int32.ofInt z = nI c) (hi : i0 + c < L) (hL : L < 2 ^ 31) (d0 : decode cc pc = .ok (.aload_n 0, 1)) (d1 : decode cc (pc + 1) = .ok (.iload 4, 2)) (d3 : decode cc (pc + 3) = .ok (.iconst z, 1)) (d4 : decode cc (pc + 4) = .ok (.iadd, 1)) (d5 : decode cc (pc + 5) = .ok (.iaload, 1)) (kk : mV X (pc + 6) lv (.int (xs (i0 + c)) :: st) ws k n) : mV X pc lv st ws k n := by
  refine r_aload_n hX d0 rfl h0 (r_iload hX d1 h4 (r_iconst hX d3 hc (r_iadd hX d4 ?_)))
  rw [nI_add]
  refine r_sld hX hS (vp_in_nI hi hL) d5 ?_
  rw [nI_clamp (by omega)]
  exact kk
theorem r_argB {i0 c : Nat} {z : Int} (hX : mOK X own cc nL R hh tys) (hS : mScr X b L xs) (h0 : lget lv 0 = some (.ref b)) (h4 : lget lv 4 = some (.int (nI i0))) (hc : (Int8.ofInt z).toInt32 = nI c) (hi : i0 + c < L) (hL : L < 2 ^ 31) (d0 : decode cc pc = .ok (.aload_n 0, 1)) (d1 : decode cc (pc + 1) = .ok (.iload 4, 2)) (d3 : decode cc (pc + 3) = .ok (.bipush z, 2)) (d5 : decode cc (pc + 5) = .ok (.iadd, 1)) (d6 : decode cc (pc + 6) = .ok (.iaload, 1)) (kk : mV X (pc + 7) lv (.int (xs (i0 + c)) :: st) ws k n) : mV X pc lv st ws k n := by
  refine r_aload_n hX d0 rfl h0 (r_iload hX d1 h4 (r_bipush hX d3 hc (r_iadd hX d5 ?_)))
  rw [nI_add]
  refine r_sld hX hS (vp_in_nI hi hL) d6 ?_
  rw [nI_clamp (by omega)]
  exact kk
/-- v != 0 -/
theorem r_ne0 {v : Int32} (hX : mOK X own cc nL R hh tys) (d0 : decode cc pc = .ok (.ifCond .eq 7, 3)) (d3 : decode cc (pc + 3) = .ok (.iconst 1, 1)) (d4 : decode cc (pc + 4) = .ok (.goto 4, 3)) (d7 : decode cc (pc + 7) = .ok (.iconst 0, 1)) (kk : mV X (pc + 8) lv (.int (if v = 0 then 0 else 1) :: st) ws k n) : mV X pc lv (.int v :: st) ws k n := by
  refine r_if_eq (tgt := pc + 7) hX d0 (by omega) (fun h => ?_) (fun h => ?_)
  · rw [if_pos h] at kk
    exact r_iconst (v := 0) hX d7 (by decide) kk
  · rw [if_neg h] at kk
    refine r_iconst (v := 1) hX d3 (by decide) ?_
    exact r_goto (tgt := pc + 8) hX d4 (by omega) kk
theorem r_lawret (hX : mOK X RL code 7 R hh tys) (hE : mLE X b) (hk : k ≤ 652172) (hn : n ≤ 7139589) (hd : decode code pc = .ok (.ireturn, 1)) : mV X pc lv [.int 1] ws k n := by
  obtain ⟨p, l, e, R', s, m, args, below, meth, c, Q, D, tys', A⟩ := X
  obtain ⟨hx, hb, hml, hR, hown, hts, hK, hty, hlk, hA, hst, hlt, htab⟩ := hX
  obtain ⟨hr, h2, h3, h4, h5⟩ := hE
  subst h2 h3 h4
  exact fun H locs ls hP hD hS hl => va_forget (fun q hq => h5 _ (hS.2.2 q hq)) (W.widen hk hn (lw_ret hx hb hr hlk hd))
end MLAW
theorem mmore {t L : Nat} (hL : L ≤ 3584) (h : ¬ (nI L - nI 7 < nI (7 * t))) (ht : 7 * t ≤ 3584) : 7 * t + 6 < L := by
  rw [Int32.lt_iff_toInt_lt, pk_sub_toInt (by omega) (by omega), nI_toInt (by omega)] at h
  omega
theorem dX4_thrown_v0 : (cX4_thrown.data.toList.drop 0).take 16 = [42, 180, 0, 29, 172] := by decide +kernel
theorem dX4_thrown_0 : decode cX4_thrown 0 = .ok (.aload_n 0, 1) := dk_42 (dq_lk dX4_thrown_v0 (r := 0) (x := 42) rfl)
theorem dX4_thrown_1 : decode cX4_thrown 1 = .ok (.getfield 29, 3) := dk_180 (dq_lk dX4_thrown_v0 (r := 1) (x := 180) rfl) (dq_lk dX4_thrown_v0 (r := 2) (x := 0) rfl) (dq_lk dX4_thrown_v0 (r := 3) (x := 29) rfl)
theorem dX4_thrown_4 : decode cX4_thrown 4 = .ok (.ireturn, 1) := dk_172 (dq_lk dX4_thrown_v0 (r := 4) (x := 172) rfl)
theorem c_X4_thrown (ad ae : Nat → Nat) (cs : ClassId × ClassId × ClassId) (K : mK) (J : mJ) (rest : va_W) : mCt (mTy cs) yX4_thrown cX4_thrown 1 (some .int) ⟨0, 0, 0, 0⟩ [.ref (ae 0)] (mRw ad ae cs K J rest) (fun v ws' => v = some (.int J.1.1) ∧ ws' = mRw ad ae cs K J rest) mNo := by
  refine mCt.of (by decide +kernel) (Nat.le_of_ble_eq_true rfl) (fun X hX hE => ?_)
  replace hX : mOK X RX4 cX4_thrown 1 ⟨0, 0, 0, 0⟩ [] (mTy cs) := hX
  refine r_aload_n hX dX4_thrown_0 rfl rfl (r_get hX kf_X4_29 14 rfl rfl dX4_thrown_1 ?_)
  exact r_iret hX hE dX4_thrown_4 (Nat.le_of_ble_eq_true rfl) (Nat.le_of_ble_eq_true rfl) ⟨rfl, rfl⟩
end
-- 49 dlaw
section
/-! The law's decode rows. -/
theorem dlaw_w0 : (code.data.toList.drop 0).take 64 = [187, 0, 8, 89, 183, 0, 129, 76, 187, 0, 130, 89, 183, 0, 132, 77, 187, 0, 14, 89, 183, 0, 133, 78, 3, 54, 4, 21, 4, 42, 190, 16, 7, 100, 163, 7, 73, 42, 21, 4, 46, 16, 63, 126, 170, 0, 0, 0, 0, 0, 7, 57, 0, 0, 0, 0, 0, 0, 0, 34, 0, 0, 0, 156] := by decide +kernel
theorem dlaw_w3 : (code.data.toList.drop 192).take 64 = [0, 0, 7, 31, 0, 0, 7, 44, 43, 42, 21, 4, 4, 96, 46, 42, 21, 4, 5, 96, 46, 45, 184, 0, 134, 54, 5, 44, 42, 21, 4, 4, 96, 46, 42, 21, 4, 5, 96, 46, 182, 0, 139, 54, 6, 167, 6, 120, 43, 42, 21, 4, 4, 96, 46, 42, 21, 4, 5, 96, 46, 42, 21, 4] := by decide +kernel
theorem dlaw_w4 : (code.data.toList.drop 256).take 64 = [6, 96, 46, 42, 21, 4, 7, 96, 46, 45, 184, 0, 140, 54, 5, 44, 42, 21, 4, 4, 96, 46, 42, 21, 4, 5, 96, 46, 42, 21, 4, 6, 96, 46, 42, 21, 4, 7, 96, 46, 182, 0, 143, 54, 6, 167, 6, 56, 43, 42, 21, 4, 4, 96, 46, 45, 184, 0, 144, 54, 5, 44, 42, 21] := by decide +kernel
theorem dlaw_w5 : (code.data.toList.drop 320).take 64 = [4, 4, 96, 46, 182, 0, 147, 54, 6, 167, 6, 28, 43, 42, 21, 4, 4, 96, 46, 42, 21, 4, 5, 96, 46, 45, 184, 0, 148, 54, 5, 44, 42, 21, 4, 4, 96, 46, 42, 21, 4, 5, 96, 46, 182, 0, 150, 54, 6, 167, 5, 244, 43, 42, 21, 4, 4, 96, 46, 42, 21, 4, 5, 96] := by decide +kernel
theorem dlaw_w6 : (code.data.toList.drop 384).take 64 = [46, 42, 21, 4, 6, 96, 46, 45, 184, 0, 151, 54, 5, 44, 42, 21, 4, 4, 96, 46, 42, 21, 4, 5, 96, 46, 42, 21, 4, 6, 96, 46, 182, 0, 154, 54, 6, 167, 5, 192, 43, 42, 21, 4, 4, 96, 46, 42, 21, 4, 5, 96, 46, 42, 21, 4, 6, 96, 46, 45, 184, 0, 155, 54] := by decide +kernel
theorem dlaw_w7 : (code.data.toList.drop 448).take 64 = [5, 44, 42, 21, 4, 4, 96, 46, 42, 21, 4, 5, 96, 46, 42, 21, 4, 6, 96, 46, 182, 0, 157, 54, 6, 167, 5, 140, 43, 42, 21, 4, 4, 96, 46, 42, 21, 4, 5, 96, 46, 42, 21, 4, 6, 96, 46, 42, 21, 4, 7, 96, 46, 153, 0, 7, 4, 167, 0, 4, 3, 45, 184, 0] := by decide +kernel
theorem dlaw_w8 : (code.data.toList.drop 512).take 64 = [158, 54, 5, 44, 42, 21, 4, 4, 96, 46, 42, 21, 4, 5, 96, 46, 42, 21, 4, 6, 96, 46, 42, 21, 4, 7, 96, 46, 153, 0, 7, 4, 167, 0, 4, 3, 182, 0, 161, 54, 6, 167, 5, 60, 43, 42, 21, 4, 4, 96, 46, 42, 21, 4, 5, 96, 46, 45, 184, 0, 162, 54, 5, 44] := by decide +kernel
theorem dlaw_w9 : (code.data.toList.drop 576).take 64 = [42, 21, 4, 4, 96, 46, 42, 21, 4, 5, 96, 46, 182, 0, 164, 54, 6, 167, 5, 20, 43, 42, 21, 4, 4, 96, 46, 42, 21, 4, 5, 96, 46, 153, 0, 7, 4, 167, 0, 4, 3, 45, 184, 0, 165, 54, 5, 44, 42, 21, 4, 4, 96, 46, 42, 21, 4, 5, 96, 46, 153, 0, 7, 4] := by decide +kernel
theorem dlaw_w10 : (code.data.toList.drop 640).take 64 = [167, 0, 4, 3, 182, 0, 168, 54, 6, 167, 4, 220, 43, 42, 21, 4, 4, 96, 46, 45, 184, 0, 169, 54, 5, 44, 42, 21, 4, 4, 96, 46, 182, 0, 171, 58, 6, 167, 4, 192, 43, 42, 21, 4, 4, 96, 46, 42, 21, 4, 5, 96, 46, 45, 184, 0, 172, 54, 5, 44, 42, 21, 4, 4] := by decide +kernel
theorem dlaw_w11 : (code.data.toList.drop 704).take 64 = [96, 46, 42, 21, 4, 5, 96, 46, 182, 0, 174, 54, 6, 167, 4, 152, 43, 42, 21, 4, 4, 96, 46, 42, 21, 4, 5, 96, 46, 42, 21, 4, 6, 96, 46, 45, 184, 0, 175, 54, 5, 44, 42, 21, 4, 4, 96, 46, 42, 21, 4, 5, 96, 46, 42, 21, 4, 6, 96, 46, 182, 0, 177, 54] := by decide +kernel
theorem dlaw_w12 : (code.data.toList.drop 768).take 64 = [6, 167, 4, 100, 43, 42, 21, 4, 4, 96, 46, 42, 21, 4, 5, 96, 46, 45, 184, 0, 178, 54, 5, 44, 42, 21, 4, 4, 96, 46, 42, 21, 4, 5, 96, 46, 182, 0, 180, 54, 6, 167, 4, 60, 43, 42, 21, 4, 4, 96, 46, 42, 21, 4, 5, 96, 46, 42, 21, 4, 6, 96, 46, 42] := by decide +kernel
theorem dlaw_w13 : (code.data.toList.drop 832).take 64 = [21, 4, 7, 96, 46, 42, 21, 4, 8, 96, 46, 42, 21, 4, 16, 6, 96, 46, 45, 184, 0, 181, 54, 5, 44, 42, 21, 4, 4, 96, 46, 42, 21, 4, 5, 96, 46, 42, 21, 4, 6, 96, 46, 42, 21, 4, 7, 96, 46, 42, 21, 4, 8, 96, 46, 42, 21, 4, 16, 6, 96, 46, 182, 0] := by decide +kernel
theorem dlaw_w14 : (code.data.toList.drop 896).take 64 = [184, 54, 6, 167, 3, 226, 43, 42, 21, 4, 4, 96, 46, 42, 21, 4, 5, 96, 46, 42, 21, 4, 6, 96, 46, 45, 184, 0, 185, 54, 5, 44, 42, 21, 4, 4, 96, 46, 42, 21, 4, 5, 96, 46, 42, 21, 4, 6, 96, 46, 182, 0, 187, 54, 6, 167, 3, 174, 43, 42, 21, 4, 4, 96] := by decide +kernel
theorem dlaw_w15 : (code.data.toList.drop 960).take 64 = [46, 42, 21, 4, 5, 96, 46, 42, 21, 4, 6, 96, 46, 42, 21, 4, 7, 96, 46, 153, 0, 7, 4, 167, 0, 4, 3, 45, 184, 0, 188, 54, 5, 44, 42, 21, 4, 4, 96, 46, 42, 21, 4, 5, 96, 46, 42, 21, 4, 6, 96, 46, 42, 21, 4, 7, 96, 46, 153, 0, 7, 4, 167, 0] := by decide +kernel
theorem dlaw_w16 : (code.data.toList.drop 1024).take 64 = [4, 3, 182, 0, 190, 54, 6, 167, 3, 94, 43, 42, 21, 4, 4, 96, 46, 42, 21, 4, 5, 96, 46, 42, 21, 4, 6, 96, 46, 45, 184, 0, 191, 54, 5, 44, 42, 21, 4, 4, 96, 46, 42, 21, 4, 5, 96, 46, 42, 21, 4, 6, 96, 46, 182, 0, 193, 54, 6, 167, 3, 42, 43, 42] := by decide +kernel
theorem dlaw_w17 : (code.data.toList.drop 1088).take 64 = [21, 4, 4, 96, 46, 42, 21, 4, 5, 96, 46, 42, 21, 4, 6, 96, 46, 153, 0, 7, 4, 167, 0, 4, 3, 45, 184, 0, 194, 54, 5, 44, 42, 21, 4, 4, 96, 46, 42, 21, 4, 5, 96, 46, 42, 21, 4, 6, 96, 46, 153, 0, 7, 4, 167, 0, 4, 3, 182, 0, 197, 54, 6, 167] := by decide +kernel
theorem dlaw_w18 : (code.data.toList.drop 1152).take 64 = [2, 230, 43, 42, 21, 4, 4, 96, 46, 42, 21, 4, 5, 96, 46, 45, 184, 0, 198, 54, 5, 44, 42, 21, 4, 4, 96, 46, 42, 21, 4, 5, 96, 46, 182, 0, 200, 54, 6, 167, 2, 190, 43, 42, 21, 4, 4, 96, 46, 42, 21, 4, 5, 96, 46, 45, 184, 0, 201, 54, 5, 44, 42, 21] := by decide +kernel
theorem dlaw_w19 : (code.data.toList.drop 1216).take 64 = [4, 4, 96, 46, 42, 21, 4, 5, 96, 46, 182, 0, 203, 54, 6, 167, 2, 150, 43, 42, 21, 4, 4, 96, 46, 42, 21, 4, 5, 96, 46, 45, 184, 0, 204, 54, 5, 44, 42, 21, 4, 4, 96, 46, 42, 21, 4, 5, 96, 46, 182, 0, 206, 54, 6, 167, 2, 110, 43, 42, 21, 4, 4, 96] := by decide +kernel
theorem dlaw_w20 : (code.data.toList.drop 1280).take 64 = [46, 42, 21, 4, 5, 96, 46, 42, 21, 4, 6, 96, 46, 45, 184, 0, 207, 54, 5, 44, 42, 21, 4, 4, 96, 46, 42, 21, 4, 5, 96, 46, 42, 21, 4, 6, 96, 46, 182, 0, 209, 54, 6, 167, 2, 58, 43, 42, 21, 4, 4, 96, 46, 42, 21, 4, 5, 96, 46, 42, 21, 4, 6, 96] := by decide +kernel
theorem dlaw_w21 : (code.data.toList.drop 1344).take 64 = [46, 42, 21, 4, 7, 96, 46, 45, 184, 0, 210, 54, 5, 44, 42, 21, 4, 4, 96, 46, 42, 21, 4, 5, 96, 46, 42, 21, 4, 6, 96, 46, 42, 21, 4, 7, 96, 46, 182, 0, 212, 54, 6, 167, 1, 250, 43, 42, 21, 4, 4, 96, 46, 42, 21, 4, 5, 96, 46, 45, 184, 0, 213, 54] := by decide +kernel
theorem dlaw_w22 : (code.data.toList.drop 1408).take 64 = [5, 44, 42, 21, 4, 4, 96, 46, 42, 21, 4, 5, 96, 46, 182, 0, 215, 54, 6, 167, 1, 210, 43, 42, 21, 4, 4, 96, 46, 42, 21, 4, 5, 96, 46, 45, 184, 0, 216, 54, 5, 44, 42, 21, 4, 4, 96, 46, 42, 21, 4, 5, 96, 46, 182, 0, 218, 54, 6, 167, 1, 170, 43, 42] := by decide +kernel
theorem dlaw_w23 : (code.data.toList.drop 1472).take 64 = [21, 4, 4, 96, 46, 42, 21, 4, 5, 96, 46, 42, 21, 4, 6, 96, 46, 42, 21, 4, 7, 96, 46, 153, 0, 7, 4, 167, 0, 4, 3, 45, 184, 0, 219, 54, 5, 44, 42, 21, 4, 4, 96, 46, 42, 21, 4, 5, 96, 46, 42, 21, 4, 6, 96, 46, 42, 21, 4, 7, 96, 46, 153, 0] := by decide +kernel
theorem dlaw_w24 : (code.data.toList.drop 1536).take 64 = [7, 4, 167, 0, 4, 3, 182, 0, 221, 54, 6, 167, 1, 90, 43, 42, 21, 4, 4, 96, 46, 42, 21, 4, 5, 96, 46, 42, 21, 4, 6, 96, 46, 153, 0, 7, 4, 167, 0, 4, 3, 45, 184, 0, 222, 54, 5, 44, 42, 21, 4, 4, 96, 46, 42, 21, 4, 5, 96, 46, 42, 21, 4, 6] := by decide +kernel
theorem dlaw_w25 : (code.data.toList.drop 1600).take 64 = [96, 46, 153, 0, 7, 4, 167, 0, 4, 3, 182, 0, 224, 54, 6, 167, 1, 22, 43, 42, 21, 4, 4, 96, 46, 42, 21, 4, 5, 96, 46, 45, 184, 0, 225, 54, 5, 44, 42, 21, 4, 4, 96, 46, 42, 21, 4, 5, 96, 46, 182, 0, 227, 54, 6, 167, 0, 238, 43, 42, 21, 4, 4, 96] := by decide +kernel
theorem dlaw_w26 : (code.data.toList.drop 1664).take 64 = [46, 42, 21, 4, 5, 96, 46, 45, 184, 0, 228, 54, 5, 44, 42, 21, 4, 4, 96, 46, 42, 21, 4, 5, 96, 46, 182, 0, 230, 54, 6, 167, 0, 198, 43, 42, 21, 4, 4, 96, 46, 42, 21, 4, 5, 96, 46, 45, 184, 0, 231, 54, 5, 44, 42, 21, 4, 4, 96, 46, 42, 21, 4, 5] := by decide +kernel
theorem dlaw_w27 : (code.data.toList.drop 1728).take 64 = [96, 46, 182, 0, 233, 54, 6, 167, 0, 158, 43, 42, 21, 4, 4, 96, 46, 42, 21, 4, 5, 96, 46, 42, 21, 4, 6, 96, 46, 45, 184, 0, 234, 54, 5, 44, 42, 21, 4, 4, 96, 46, 42, 21, 4, 5, 96, 46, 42, 21, 4, 6, 96, 46, 182, 0, 236, 54, 6, 44, 182, 0, 237, 21] := by decide +kernel
theorem dlaw_w28 : (code.data.toList.drop 1792).take 64 = [5, 159, 0, 5, 3, 172, 21, 5, 154, 0, 23, 45, 180, 0, 13, 21, 6, 153, 0, 7, 10, 167, 0, 4, 9, 148, 153, 0, 5, 3, 172, 167, 0, 70, 43, 182, 0, 241, 87, 44, 182, 0, 244, 87, 167, 0, 57, 43, 42, 21, 4, 4, 96, 46, 45, 184, 0, 245, 54, 5, 44, 42, 21, 4] := by decide +kernel
theorem dlaw_w29 : (code.data.toList.drop 1856).take 64 = [4, 96, 46, 182, 0, 247, 54, 6, 167, 0, 29, 43, 182, 0, 248, 87, 44, 182, 0, 252, 87, 167, 0, 16, 43, 182, 0, 253, 88, 44, 182, 1, 1, 88, 167, 0, 3, 132, 4, 7, 167, 248, 179, 4, 172] := by decide +kernel
theorem dlaw_v0 : (code.data.toList.drop 0).take 16 = [187, 0, 8, 89, 183, 0, 129, 76, 187, 0, 130, 89, 183, 0, 132, 77] := dq_sub (n := 0) (j := 0) dlaw_w0 (by decide) rfl
theorem dlaw_v1 : (code.data.toList.drop 16).take 16 = [187, 0, 14, 89, 183, 0, 133, 78, 3, 54, 4, 21, 4, 42, 190, 16] := dq_sub (n := 0) (j := 16) dlaw_w0 (by decide) rfl
theorem dlaw_v2 : (code.data.toList.drop 32).take 16 = [7, 100, 163, 7, 73, 42, 21, 4, 46, 16, 63, 126, 170, 0, 0, 0] := dq_sub (n := 0) (j := 32) dlaw_w0 (by decide) rfl
theorem dlaw_v12 : (code.data.toList.drop 192).take 16 = [0, 0, 7, 31, 0, 0, 7, 44, 43, 42, 21, 4, 4, 96, 46, 42] := dq_sub (n := 192) (j := 0) dlaw_w3 (by decide) rfl
theorem dlaw_v13 : (code.data.toList.drop 208).take 16 = [21, 4, 5, 96, 46, 45, 184, 0, 134, 54, 5, 44, 42, 21, 4, 4] := dq_sub (n := 192) (j := 16) dlaw_w3 (by decide) rfl
theorem dlaw_v14 : (code.data.toList.drop 224).take 16 = [96, 46, 42, 21, 4, 5, 96, 46, 182, 0, 139, 54, 6, 167, 6, 120] := dq_sub (n := 192) (j := 32) dlaw_w3 (by decide) rfl
theorem dlaw_v15 : (code.data.toList.drop 240).take 16 = [43, 42, 21, 4, 4, 96, 46, 42, 21, 4, 5, 96, 46, 42, 21, 4] := dq_sub (n := 192) (j := 48) dlaw_w3 (by decide) rfl
theorem dlaw_v16 : (code.data.toList.drop 256).take 16 = [6, 96, 46, 42, 21, 4, 7, 96, 46, 45, 184, 0, 140, 54, 5, 44] := dq_sub (n := 256) (j := 0) dlaw_w4 (by decide) rfl
theorem dlaw_v17 : (code.data.toList.drop 272).take 16 = [42, 21, 4, 4, 96, 46, 42, 21, 4, 5, 96, 46, 42, 21, 4, 6] := dq_sub (n := 256) (j := 16) dlaw_w4 (by decide) rfl
theorem dlaw_v18 : (code.data.toList.drop 288).take 16 = [96, 46, 42, 21, 4, 7, 96, 46, 182, 0, 143, 54, 6, 167, 6, 56] := dq_sub (n := 256) (j := 32) dlaw_w4 (by decide) rfl
theorem dlaw_v19 : (code.data.toList.drop 304).take 16 = [43, 42, 21, 4, 4, 96, 46, 45, 184, 0, 144, 54, 5, 44, 42, 21] := dq_sub (n := 256) (j := 48) dlaw_w4 (by decide) rfl
theorem dlaw_v20 : (code.data.toList.drop 320).take 16 = [4, 4, 96, 46, 182, 0, 147, 54, 6, 167, 6, 28, 43, 42, 21, 4] := dq_sub (n := 320) (j := 0) dlaw_w5 (by decide) rfl
theorem dlaw_v21 : (code.data.toList.drop 336).take 16 = [4, 96, 46, 42, 21, 4, 5, 96, 46, 45, 184, 0, 148, 54, 5, 44] := dq_sub (n := 320) (j := 16) dlaw_w5 (by decide) rfl
theorem dlaw_v22 : (code.data.toList.drop 352).take 16 = [42, 21, 4, 4, 96, 46, 42, 21, 4, 5, 96, 46, 182, 0, 150, 54] := dq_sub (n := 320) (j := 32) dlaw_w5 (by decide) rfl
theorem dlaw_v23 : (code.data.toList.drop 368).take 16 = [6, 167, 5, 244, 43, 42, 21, 4, 4, 96, 46, 42, 21, 4, 5, 96] := dq_sub (n := 320) (j := 48) dlaw_w5 (by decide) rfl
theorem dlaw_v24 : (code.data.toList.drop 384).take 16 = [46, 42, 21, 4, 6, 96, 46, 45, 184, 0, 151, 54, 5, 44, 42, 21] := dq_sub (n := 384) (j := 0) dlaw_w6 (by decide) rfl
theorem dlaw_v25 : (code.data.toList.drop 400).take 16 = [4, 4, 96, 46, 42, 21, 4, 5, 96, 46, 42, 21, 4, 6, 96, 46] := dq_sub (n := 384) (j := 16) dlaw_w6 (by decide) rfl
theorem dlaw_v26 : (code.data.toList.drop 416).take 16 = [182, 0, 154, 54, 6, 167, 5, 192, 43, 42, 21, 4, 4, 96, 46, 42] := dq_sub (n := 384) (j := 32) dlaw_w6 (by decide) rfl
theorem dlaw_v27 : (code.data.toList.drop 432).take 16 = [21, 4, 5, 96, 46, 42, 21, 4, 6, 96, 46, 45, 184, 0, 155, 54] := dq_sub (n := 384) (j := 48) dlaw_w6 (by decide) rfl
theorem dlaw_v28 : (code.data.toList.drop 448).take 16 = [5, 44, 42, 21, 4, 4, 96, 46, 42, 21, 4, 5, 96, 46, 42, 21] := dq_sub (n := 448) (j := 0) dlaw_w7 (by decide) rfl
theorem dlaw_v29 : (code.data.toList.drop 464).take 16 = [4, 6, 96, 46, 182, 0, 157, 54, 6, 167, 5, 140, 43, 42, 21, 4] := dq_sub (n := 448) (j := 16) dlaw_w7 (by decide) rfl
theorem dlaw_v30 : (code.data.toList.drop 480).take 16 = [4, 96, 46, 42, 21, 4, 5, 96, 46, 42, 21, 4, 6, 96, 46, 42] := dq_sub (n := 448) (j := 32) dlaw_w7 (by decide) rfl
theorem dlaw_v31 : (code.data.toList.drop 496).take 16 = [21, 4, 7, 96, 46, 153, 0, 7, 4, 167, 0, 4, 3, 45, 184, 0] := dq_sub (n := 448) (j := 48) dlaw_w7 (by decide) rfl
theorem dlaw_v32 : (code.data.toList.drop 512).take 16 = [158, 54, 5, 44, 42, 21, 4, 4, 96, 46, 42, 21, 4, 5, 96, 46] := dq_sub (n := 512) (j := 0) dlaw_w8 (by decide) rfl
theorem dlaw_v33 : (code.data.toList.drop 528).take 16 = [42, 21, 4, 6, 96, 46, 42, 21, 4, 7, 96, 46, 153, 0, 7, 4] := dq_sub (n := 512) (j := 16) dlaw_w8 (by decide) rfl
theorem dlaw_v34 : (code.data.toList.drop 544).take 16 = [167, 0, 4, 3, 182, 0, 161, 54, 6, 167, 5, 60, 43, 42, 21, 4] := dq_sub (n := 512) (j := 32) dlaw_w8 (by decide) rfl
theorem dlaw_v35 : (code.data.toList.drop 560).take 16 = [4, 96, 46, 42, 21, 4, 5, 96, 46, 45, 184, 0, 162, 54, 5, 44] := dq_sub (n := 512) (j := 48) dlaw_w8 (by decide) rfl
theorem dlaw_v36 : (code.data.toList.drop 576).take 16 = [42, 21, 4, 4, 96, 46, 42, 21, 4, 5, 96, 46, 182, 0, 164, 54] := dq_sub (n := 576) (j := 0) dlaw_w9 (by decide) rfl
theorem dlaw_v37 : (code.data.toList.drop 592).take 16 = [6, 167, 5, 20, 43, 42, 21, 4, 4, 96, 46, 42, 21, 4, 5, 96] := dq_sub (n := 576) (j := 16) dlaw_w9 (by decide) rfl
theorem dlaw_v38 : (code.data.toList.drop 608).take 16 = [46, 153, 0, 7, 4, 167, 0, 4, 3, 45, 184, 0, 165, 54, 5, 44] := dq_sub (n := 576) (j := 32) dlaw_w9 (by decide) rfl
theorem dlaw_v39 : (code.data.toList.drop 624).take 16 = [42, 21, 4, 4, 96, 46, 42, 21, 4, 5, 96, 46, 153, 0, 7, 4] := dq_sub (n := 576) (j := 48) dlaw_w9 (by decide) rfl
theorem dlaw_v40 : (code.data.toList.drop 640).take 16 = [167, 0, 4, 3, 182, 0, 168, 54, 6, 167, 4, 220, 43, 42, 21, 4] := dq_sub (n := 640) (j := 0) dlaw_w10 (by decide) rfl
theorem dlaw_v41 : (code.data.toList.drop 656).take 16 = [4, 96, 46, 45, 184, 0, 169, 54, 5, 44, 42, 21, 4, 4, 96, 46] := dq_sub (n := 640) (j := 16) dlaw_w10 (by decide) rfl
theorem dlaw_v42 : (code.data.toList.drop 672).take 16 = [182, 0, 171, 58, 6, 167, 4, 192, 43, 42, 21, 4, 4, 96, 46, 42] := dq_sub (n := 640) (j := 32) dlaw_w10 (by decide) rfl
theorem dlaw_v43 : (code.data.toList.drop 688).take 16 = [21, 4, 5, 96, 46, 45, 184, 0, 172, 54, 5, 44, 42, 21, 4, 4] := dq_sub (n := 640) (j := 48) dlaw_w10 (by decide) rfl
theorem dlaw_v44 : (code.data.toList.drop 704).take 16 = [96, 46, 42, 21, 4, 5, 96, 46, 182, 0, 174, 54, 6, 167, 4, 152] := dq_sub (n := 704) (j := 0) dlaw_w11 (by decide) rfl
theorem dlaw_v45 : (code.data.toList.drop 720).take 16 = [43, 42, 21, 4, 4, 96, 46, 42, 21, 4, 5, 96, 46, 42, 21, 4] := dq_sub (n := 704) (j := 16) dlaw_w11 (by decide) rfl
theorem dlaw_v46 : (code.data.toList.drop 736).take 16 = [6, 96, 46, 45, 184, 0, 175, 54, 5, 44, 42, 21, 4, 4, 96, 46] := dq_sub (n := 704) (j := 32) dlaw_w11 (by decide) rfl
theorem dlaw_v47 : (code.data.toList.drop 752).take 16 = [42, 21, 4, 5, 96, 46, 42, 21, 4, 6, 96, 46, 182, 0, 177, 54] := dq_sub (n := 704) (j := 48) dlaw_w11 (by decide) rfl
theorem dlaw_v48 : (code.data.toList.drop 768).take 16 = [6, 167, 4, 100, 43, 42, 21, 4, 4, 96, 46, 42, 21, 4, 5, 96] := dq_sub (n := 768) (j := 0) dlaw_w12 (by decide) rfl
theorem dlaw_v49 : (code.data.toList.drop 784).take 16 = [46, 45, 184, 0, 178, 54, 5, 44, 42, 21, 4, 4, 96, 46, 42, 21] := dq_sub (n := 768) (j := 16) dlaw_w12 (by decide) rfl
theorem dlaw_v50 : (code.data.toList.drop 800).take 16 = [4, 5, 96, 46, 182, 0, 180, 54, 6, 167, 4, 60, 43, 42, 21, 4] := dq_sub (n := 768) (j := 32) dlaw_w12 (by decide) rfl
theorem dlaw_v51 : (code.data.toList.drop 816).take 16 = [4, 96, 46, 42, 21, 4, 5, 96, 46, 42, 21, 4, 6, 96, 46, 42] := dq_sub (n := 768) (j := 48) dlaw_w12 (by decide) rfl
theorem dlaw_v52 : (code.data.toList.drop 832).take 16 = [21, 4, 7, 96, 46, 42, 21, 4, 8, 96, 46, 42, 21, 4, 16, 6] := dq_sub (n := 832) (j := 0) dlaw_w13 (by decide) rfl
theorem dlaw_v53 : (code.data.toList.drop 848).take 16 = [96, 46, 45, 184, 0, 181, 54, 5, 44, 42, 21, 4, 4, 96, 46, 42] := dq_sub (n := 832) (j := 16) dlaw_w13 (by decide) rfl
theorem dlaw_v54 : (code.data.toList.drop 864).take 16 = [21, 4, 5, 96, 46, 42, 21, 4, 6, 96, 46, 42, 21, 4, 7, 96] := dq_sub (n := 832) (j := 32) dlaw_w13 (by decide) rfl
theorem dlaw_v55 : (code.data.toList.drop 880).take 16 = [46, 42, 21, 4, 8, 96, 46, 42, 21, 4, 16, 6, 96, 46, 182, 0] := dq_sub (n := 832) (j := 48) dlaw_w13 (by decide) rfl
theorem dlaw_v56 : (code.data.toList.drop 896).take 16 = [184, 54, 6, 167, 3, 226, 43, 42, 21, 4, 4, 96, 46, 42, 21, 4] := dq_sub (n := 896) (j := 0) dlaw_w14 (by decide) rfl
theorem dlaw_v57 : (code.data.toList.drop 912).take 16 = [5, 96, 46, 42, 21, 4, 6, 96, 46, 45, 184, 0, 185, 54, 5, 44] := dq_sub (n := 896) (j := 16) dlaw_w14 (by decide) rfl
theorem dlaw_v58 : (code.data.toList.drop 928).take 16 = [42, 21, 4, 4, 96, 46, 42, 21, 4, 5, 96, 46, 42, 21, 4, 6] := dq_sub (n := 896) (j := 32) dlaw_w14 (by decide) rfl
theorem dlaw_v59 : (code.data.toList.drop 944).take 16 = [96, 46, 182, 0, 187, 54, 6, 167, 3, 174, 43, 42, 21, 4, 4, 96] := dq_sub (n := 896) (j := 48) dlaw_w14 (by decide) rfl
theorem dlaw_v60 : (code.data.toList.drop 960).take 16 = [46, 42, 21, 4, 5, 96, 46, 42, 21, 4, 6, 96, 46, 42, 21, 4] := dq_sub (n := 960) (j := 0) dlaw_w15 (by decide) rfl
theorem dlaw_v61 : (code.data.toList.drop 976).take 16 = [7, 96, 46, 153, 0, 7, 4, 167, 0, 4, 3, 45, 184, 0, 188, 54] := dq_sub (n := 960) (j := 16) dlaw_w15 (by decide) rfl
theorem dlaw_v62 : (code.data.toList.drop 992).take 16 = [5, 44, 42, 21, 4, 4, 96, 46, 42, 21, 4, 5, 96, 46, 42, 21] := dq_sub (n := 960) (j := 32) dlaw_w15 (by decide) rfl
theorem dlaw_v63 : (code.data.toList.drop 1008).take 16 = [4, 6, 96, 46, 42, 21, 4, 7, 96, 46, 153, 0, 7, 4, 167, 0] := dq_sub (n := 960) (j := 48) dlaw_w15 (by decide) rfl
theorem dlaw_v64 : (code.data.toList.drop 1024).take 16 = [4, 3, 182, 0, 190, 54, 6, 167, 3, 94, 43, 42, 21, 4, 4, 96] := dq_sub (n := 1024) (j := 0) dlaw_w16 (by decide) rfl
theorem dlaw_v65 : (code.data.toList.drop 1040).take 16 = [46, 42, 21, 4, 5, 96, 46, 42, 21, 4, 6, 96, 46, 45, 184, 0] := dq_sub (n := 1024) (j := 16) dlaw_w16 (by decide) rfl
theorem dlaw_v66 : (code.data.toList.drop 1056).take 16 = [191, 54, 5, 44, 42, 21, 4, 4, 96, 46, 42, 21, 4, 5, 96, 46] := dq_sub (n := 1024) (j := 32) dlaw_w16 (by decide) rfl
theorem dlaw_v67 : (code.data.toList.drop 1072).take 16 = [42, 21, 4, 6, 96, 46, 182, 0, 193, 54, 6, 167, 3, 42, 43, 42] := dq_sub (n := 1024) (j := 48) dlaw_w16 (by decide) rfl
theorem dlaw_v68 : (code.data.toList.drop 1088).take 16 = [21, 4, 4, 96, 46, 42, 21, 4, 5, 96, 46, 42, 21, 4, 6, 96] := dq_sub (n := 1088) (j := 0) dlaw_w17 (by decide) rfl
theorem dlaw_v69 : (code.data.toList.drop 1104).take 16 = [46, 153, 0, 7, 4, 167, 0, 4, 3, 45, 184, 0, 194, 54, 5, 44] := dq_sub (n := 1088) (j := 16) dlaw_w17 (by decide) rfl
theorem dlaw_v70 : (code.data.toList.drop 1120).take 16 = [42, 21, 4, 4, 96, 46, 42, 21, 4, 5, 96, 46, 42, 21, 4, 6] := dq_sub (n := 1088) (j := 32) dlaw_w17 (by decide) rfl
theorem dlaw_v71 : (code.data.toList.drop 1136).take 16 = [96, 46, 153, 0, 7, 4, 167, 0, 4, 3, 182, 0, 197, 54, 6, 167] := dq_sub (n := 1088) (j := 48) dlaw_w17 (by decide) rfl
theorem dlaw_v72 : (code.data.toList.drop 1152).take 16 = [2, 230, 43, 42, 21, 4, 4, 96, 46, 42, 21, 4, 5, 96, 46, 45] := dq_sub (n := 1152) (j := 0) dlaw_w18 (by decide) rfl
theorem dlaw_v73 : (code.data.toList.drop 1168).take 16 = [184, 0, 198, 54, 5, 44, 42, 21, 4, 4, 96, 46, 42, 21, 4, 5] := dq_sub (n := 1152) (j := 16) dlaw_w18 (by decide) rfl
theorem dlaw_v74 : (code.data.toList.drop 1184).take 16 = [96, 46, 182, 0, 200, 54, 6, 167, 2, 190, 43, 42, 21, 4, 4, 96] := dq_sub (n := 1152) (j := 32) dlaw_w18 (by decide) rfl
theorem dlaw_v75 : (code.data.toList.drop 1200).take 16 = [46, 42, 21, 4, 5, 96, 46, 45, 184, 0, 201, 54, 5, 44, 42, 21] := dq_sub (n := 1152) (j := 48) dlaw_w18 (by decide) rfl
theorem dlaw_v76 : (code.data.toList.drop 1216).take 16 = [4, 4, 96, 46, 42, 21, 4, 5, 96, 46, 182, 0, 203, 54, 6, 167] := dq_sub (n := 1216) (j := 0) dlaw_w19 (by decide) rfl
theorem dlaw_v77 : (code.data.toList.drop 1232).take 16 = [2, 150, 43, 42, 21, 4, 4, 96, 46, 42, 21, 4, 5, 96, 46, 45] := dq_sub (n := 1216) (j := 16) dlaw_w19 (by decide) rfl
theorem dlaw_v78 : (code.data.toList.drop 1248).take 16 = [184, 0, 204, 54, 5, 44, 42, 21, 4, 4, 96, 46, 42, 21, 4, 5] := dq_sub (n := 1216) (j := 32) dlaw_w19 (by decide) rfl
theorem dlaw_v79 : (code.data.toList.drop 1264).take 16 = [96, 46, 182, 0, 206, 54, 6, 167, 2, 110, 43, 42, 21, 4, 4, 96] := dq_sub (n := 1216) (j := 48) dlaw_w19 (by decide) rfl
theorem dlaw_v80 : (code.data.toList.drop 1280).take 16 = [46, 42, 21, 4, 5, 96, 46, 42, 21, 4, 6, 96, 46, 45, 184, 0] := dq_sub (n := 1280) (j := 0) dlaw_w20 (by decide) rfl
theorem dlaw_v81 : (code.data.toList.drop 1296).take 16 = [207, 54, 5, 44, 42, 21, 4, 4, 96, 46, 42, 21, 4, 5, 96, 46] := dq_sub (n := 1280) (j := 16) dlaw_w20 (by decide) rfl
theorem dlaw_v82 : (code.data.toList.drop 1312).take 16 = [42, 21, 4, 6, 96, 46, 182, 0, 209, 54, 6, 167, 2, 58, 43, 42] := dq_sub (n := 1280) (j := 32) dlaw_w20 (by decide) rfl
theorem dlaw_v83 : (code.data.toList.drop 1328).take 16 = [21, 4, 4, 96, 46, 42, 21, 4, 5, 96, 46, 42, 21, 4, 6, 96] := dq_sub (n := 1280) (j := 48) dlaw_w20 (by decide) rfl
theorem dlaw_v84 : (code.data.toList.drop 1344).take 16 = [46, 42, 21, 4, 7, 96, 46, 45, 184, 0, 210, 54, 5, 44, 42, 21] := dq_sub (n := 1344) (j := 0) dlaw_w21 (by decide) rfl
theorem dlaw_v85 : (code.data.toList.drop 1360).take 16 = [4, 4, 96, 46, 42, 21, 4, 5, 96, 46, 42, 21, 4, 6, 96, 46] := dq_sub (n := 1344) (j := 16) dlaw_w21 (by decide) rfl
theorem dlaw_v86 : (code.data.toList.drop 1376).take 16 = [42, 21, 4, 7, 96, 46, 182, 0, 212, 54, 6, 167, 1, 250, 43, 42] := dq_sub (n := 1344) (j := 32) dlaw_w21 (by decide) rfl
theorem dlaw_v87 : (code.data.toList.drop 1392).take 16 = [21, 4, 4, 96, 46, 42, 21, 4, 5, 96, 46, 45, 184, 0, 213, 54] := dq_sub (n := 1344) (j := 48) dlaw_w21 (by decide) rfl
theorem dlaw_v88 : (code.data.toList.drop 1408).take 16 = [5, 44, 42, 21, 4, 4, 96, 46, 42, 21, 4, 5, 96, 46, 182, 0] := dq_sub (n := 1408) (j := 0) dlaw_w22 (by decide) rfl
theorem dlaw_v89 : (code.data.toList.drop 1424).take 16 = [215, 54, 6, 167, 1, 210, 43, 42, 21, 4, 4, 96, 46, 42, 21, 4] := dq_sub (n := 1408) (j := 16) dlaw_w22 (by decide) rfl
theorem dlaw_v90 : (code.data.toList.drop 1440).take 16 = [5, 96, 46, 45, 184, 0, 216, 54, 5, 44, 42, 21, 4, 4, 96, 46] := dq_sub (n := 1408) (j := 32) dlaw_w22 (by decide) rfl
theorem dlaw_v91 : (code.data.toList.drop 1456).take 16 = [42, 21, 4, 5, 96, 46, 182, 0, 218, 54, 6, 167, 1, 170, 43, 42] := dq_sub (n := 1408) (j := 48) dlaw_w22 (by decide) rfl
theorem dlaw_v92 : (code.data.toList.drop 1472).take 16 = [21, 4, 4, 96, 46, 42, 21, 4, 5, 96, 46, 42, 21, 4, 6, 96] := dq_sub (n := 1472) (j := 0) dlaw_w23 (by decide) rfl
theorem dlaw_v93 : (code.data.toList.drop 1488).take 16 = [46, 42, 21, 4, 7, 96, 46, 153, 0, 7, 4, 167, 0, 4, 3, 45] := dq_sub (n := 1472) (j := 16) dlaw_w23 (by decide) rfl
theorem dlaw_v94 : (code.data.toList.drop 1504).take 16 = [184, 0, 219, 54, 5, 44, 42, 21, 4, 4, 96, 46, 42, 21, 4, 5] := dq_sub (n := 1472) (j := 32) dlaw_w23 (by decide) rfl
theorem dlaw_v95 : (code.data.toList.drop 1520).take 16 = [96, 46, 42, 21, 4, 6, 96, 46, 42, 21, 4, 7, 96, 46, 153, 0] := dq_sub (n := 1472) (j := 48) dlaw_w23 (by decide) rfl
theorem dlaw_v96 : (code.data.toList.drop 1536).take 16 = [7, 4, 167, 0, 4, 3, 182, 0, 221, 54, 6, 167, 1, 90, 43, 42] := dq_sub (n := 1536) (j := 0) dlaw_w24 (by decide) rfl
theorem dlaw_v97 : (code.data.toList.drop 1552).take 16 = [21, 4, 4, 96, 46, 42, 21, 4, 5, 96, 46, 42, 21, 4, 6, 96] := dq_sub (n := 1536) (j := 16) dlaw_w24 (by decide) rfl
theorem dlaw_v98 : (code.data.toList.drop 1568).take 16 = [46, 153, 0, 7, 4, 167, 0, 4, 3, 45, 184, 0, 222, 54, 5, 44] := dq_sub (n := 1536) (j := 32) dlaw_w24 (by decide) rfl
theorem dlaw_v99 : (code.data.toList.drop 1584).take 16 = [42, 21, 4, 4, 96, 46, 42, 21, 4, 5, 96, 46, 42, 21, 4, 6] := dq_sub (n := 1536) (j := 48) dlaw_w24 (by decide) rfl
theorem dlaw_v100 : (code.data.toList.drop 1600).take 16 = [96, 46, 153, 0, 7, 4, 167, 0, 4, 3, 182, 0, 224, 54, 6, 167] := dq_sub (n := 1600) (j := 0) dlaw_w25 (by decide) rfl
theorem dlaw_v101 : (code.data.toList.drop 1616).take 16 = [1, 22, 43, 42, 21, 4, 4, 96, 46, 42, 21, 4, 5, 96, 46, 45] := dq_sub (n := 1600) (j := 16) dlaw_w25 (by decide) rfl
theorem dlaw_v102 : (code.data.toList.drop 1632).take 16 = [184, 0, 225, 54, 5, 44, 42, 21, 4, 4, 96, 46, 42, 21, 4, 5] := dq_sub (n := 1600) (j := 32) dlaw_w25 (by decide) rfl
theorem dlaw_v103 : (code.data.toList.drop 1648).take 16 = [96, 46, 182, 0, 227, 54, 6, 167, 0, 238, 43, 42, 21, 4, 4, 96] := dq_sub (n := 1600) (j := 48) dlaw_w25 (by decide) rfl
theorem dlaw_v104 : (code.data.toList.drop 1664).take 16 = [46, 42, 21, 4, 5, 96, 46, 45, 184, 0, 228, 54, 5, 44, 42, 21] := dq_sub (n := 1664) (j := 0) dlaw_w26 (by decide) rfl
theorem dlaw_v105 : (code.data.toList.drop 1680).take 16 = [4, 4, 96, 46, 42, 21, 4, 5, 96, 46, 182, 0, 230, 54, 6, 167] := dq_sub (n := 1664) (j := 16) dlaw_w26 (by decide) rfl
theorem dlaw_v106 : (code.data.toList.drop 1696).take 16 = [0, 198, 43, 42, 21, 4, 4, 96, 46, 42, 21, 4, 5, 96, 46, 45] := dq_sub (n := 1664) (j := 32) dlaw_w26 (by decide) rfl
theorem dlaw_v107 : (code.data.toList.drop 1712).take 16 = [184, 0, 231, 54, 5, 44, 42, 21, 4, 4, 96, 46, 42, 21, 4, 5] := dq_sub (n := 1664) (j := 48) dlaw_w26 (by decide) rfl
theorem dlaw_v108 : (code.data.toList.drop 1728).take 16 = [96, 46, 182, 0, 233, 54, 6, 167, 0, 158, 43, 42, 21, 4, 4, 96] := dq_sub (n := 1728) (j := 0) dlaw_w27 (by decide) rfl
theorem dlaw_v109 : (code.data.toList.drop 1744).take 16 = [46, 42, 21, 4, 5, 96, 46, 42, 21, 4, 6, 96, 46, 45, 184, 0] := dq_sub (n := 1728) (j := 16) dlaw_w27 (by decide) rfl
theorem dlaw_v110 : (code.data.toList.drop 1760).take 16 = [234, 54, 5, 44, 42, 21, 4, 4, 96, 46, 42, 21, 4, 5, 96, 46] := dq_sub (n := 1728) (j := 32) dlaw_w27 (by decide) rfl
theorem dlaw_v111 : (code.data.toList.drop 1776).take 16 = [42, 21, 4, 6, 96, 46, 182, 0, 236, 54, 6, 44, 182, 0, 237, 21] := dq_sub (n := 1728) (j := 48) dlaw_w27 (by decide) rfl
theorem dlaw_v112 : (code.data.toList.drop 1792).take 16 = [5, 159, 0, 5, 3, 172, 21, 5, 154, 0, 23, 45, 180, 0, 13, 21] := dq_sub (n := 1792) (j := 0) dlaw_w28 (by decide) rfl
theorem dlaw_v113 : (code.data.toList.drop 1808).take 16 = [6, 153, 0, 7, 10, 167, 0, 4, 9, 148, 153, 0, 5, 3, 172, 167] := dq_sub (n := 1792) (j := 16) dlaw_w28 (by decide) rfl
theorem dlaw_v114 : (code.data.toList.drop 1824).take 16 = [0, 70, 43, 182, 0, 241, 87, 44, 182, 0, 244, 87, 167, 0, 57, 43] := dq_sub (n := 1792) (j := 32) dlaw_w28 (by decide) rfl
theorem dlaw_v115 : (code.data.toList.drop 1840).take 16 = [42, 21, 4, 4, 96, 46, 45, 184, 0, 245, 54, 5, 44, 42, 21, 4] := dq_sub (n := 1792) (j := 48) dlaw_w28 (by decide) rfl
theorem dlaw_v116 : (code.data.toList.drop 1856).take 16 = [4, 96, 46, 182, 0, 247, 54, 6, 167, 0, 29, 43, 182, 0, 248, 87] := dq_sub (n := 1856) (j := 0) dlaw_w29 (by decide) rfl
theorem dlaw_v117 : (code.data.toList.drop 1872).take 16 = [44, 182, 0, 252, 87, 167, 0, 16, 43, 182, 0, 253, 88, 44, 182, 1] := dq_sub (n := 1856) (j := 16) dlaw_w29 (by decide) rfl
theorem dlaw_v118 : (code.data.toList.drop 1888).take 16 = [1, 88, 167, 0, 3, 132, 4, 7, 167, 248, 179, 4, 172] := dq_sub (n := 1856) (j := 32) dlaw_w29 (by decide) rfl
theorem dlaw_0 : decode code 0 = .ok (.new 8, 3) := dk_187 (dq_lk dlaw_v0 (r := 0) (x := 187) rfl) (dq_lk dlaw_v0 (r := 1) (x := 0) rfl) (dq_lk dlaw_v0 (r := 2) (x := 8) rfl)
theorem dlaw_3 : decode code 3 = .ok (.dup, 1) := dk_89 (dq_lk dlaw_v0 (r := 3) (x := 89) rfl)
theorem dlaw_4 : decode code 4 = .ok (.invokespecial 129, 3) := dk_183 (dq_lk dlaw_v0 (r := 4) (x := 183) rfl) (dq_lk dlaw_v0 (r := 5) (x := 0) rfl) (dq_lk dlaw_v0 (r := 6) (x := 129) rfl)
theorem dlaw_7 : decode code 7 = .ok (.astore_n 1, 1) := dk_76 (dq_lk dlaw_v0 (r := 7) (x := 76) rfl)
theorem dlaw_8 : decode code 8 = .ok (.new 130, 3) := dk_187 (dq_lk dlaw_v0 (r := 8) (x := 187) rfl) (dq_lk dlaw_v0 (r := 9) (x := 0) rfl) (dq_lk dlaw_v0 (r := 10) (x := 130) rfl)
theorem dlaw_11 : decode code 11 = .ok (.dup, 1) := dk_89 (dq_lk dlaw_v0 (r := 11) (x := 89) rfl)
theorem dlaw_12 : decode code 12 = .ok (.invokespecial 132, 3) := dk_183 (dq_lk dlaw_v0 (r := 12) (x := 183) rfl) (dq_lk dlaw_v0 (r := 13) (x := 0) rfl) (dq_lk dlaw_v0 (r := 14) (x := 132) rfl)
theorem dlaw_15 : decode code 15 = .ok (.astore_n 2, 1) := dk_77 (dq_lk dlaw_v0 (r := 15) (x := 77) rfl)
theorem dlaw_16 : decode code 16 = .ok (.new 14, 3) := dk_187 (dq_lk dlaw_v1 (r := 0) (x := 187) rfl) (dq_lk dlaw_v1 (r := 1) (x := 0) rfl) (dq_lk dlaw_v1 (r := 2) (x := 14) rfl)
theorem dlaw_19 : decode code 19 = .ok (.dup, 1) := dk_89 (dq_lk dlaw_v1 (r := 3) (x := 89) rfl)
theorem dlaw_20 : decode code 20 = .ok (.invokespecial 133, 3) := dk_183 (dq_lk dlaw_v1 (r := 4) (x := 183) rfl) (dq_lk dlaw_v1 (r := 5) (x := 0) rfl) (dq_lk dlaw_v1 (r := 6) (x := 133) rfl)
theorem dlaw_23 : decode code 23 = .ok (.astore_n 3, 1) := dk_78 (dq_lk dlaw_v1 (r := 7) (x := 78) rfl)
theorem dlaw_24 : decode code 24 = .ok (.iconst 0, 1) := dk_3 (dq_lk dlaw_v1 (r := 8) (x := 3) rfl)
theorem dlaw_25 : decode code 25 = .ok (.istore 4, 2) := dk_54 (dq_lk dlaw_v1 (r := 9) (x := 54) rfl) (dq_lk dlaw_v1 (r := 10) (x := 4) rfl)
theorem dlaw_27 : decode code 27 = .ok (.iload 4, 2) := dk_21 (dq_lk dlaw_v1 (r := 11) (x := 21) rfl) (dq_lk dlaw_v1 (r := 12) (x := 4) rfl)
theorem dlaw_29 : decode code 29 = .ok (.aload_n 0, 1) := dk_42 (dq_lk dlaw_v1 (r := 13) (x := 42) rfl)
theorem dlaw_30 : decode code 30 = .ok (.arraylength, 1) := dk_190 (dq_lk dlaw_v1 (r := 14) (x := 190) rfl)
theorem dlaw_31 : decode code 31 = .ok (.bipush 7, 2) := dk_16 (dq_lk dlaw_v1 (r := 15) (x := 16) rfl) (dq_lk dlaw_v2 (r := 0) (x := 7) rfl) (by decide +kernel)
theorem dlaw_33 : decode code 33 = .ok (.isub, 1) := dk_100 (dq_lk dlaw_v2 (r := 1) (x := 100) rfl)
theorem dlaw_34 : decode code 34 = .ok (.if_icmp .gt 1865, 3) := dk_163 (dq_lk dlaw_v2 (r := 2) (x := 163) rfl) (dq_lk dlaw_v2 (r := 3) (x := 7) rfl) (dq_lk dlaw_v2 (r := 4) (x := 73) rfl) (by decide +kernel)
theorem dlaw_37 : decode code 37 = .ok (.aload_n 0, 1) := dk_42 (dq_lk dlaw_v2 (r := 5) (x := 42) rfl)
theorem dlaw_38 : decode code 38 = .ok (.iload 4, 2) := dk_21 (dq_lk dlaw_v2 (r := 6) (x := 21) rfl) (dq_lk dlaw_v2 (r := 7) (x := 4) rfl)
theorem dlaw_40 : decode code 40 = .ok (.iaload, 1) := dk_46 (dq_lk dlaw_v2 (r := 8) (x := 46) rfl)
theorem dlaw_41 : decode code 41 = .ok (.bipush 63, 2) := dk_16 (dq_lk dlaw_v2 (r := 9) (x := 16) rfl) (dq_lk dlaw_v2 (r := 10) (x := 63) rfl) (by decide +kernel)
theorem dlaw_43 : decode code 43 = .ok (.iand, 1) := dk_126 (dq_lk dlaw_v2 (r := 11) (x := 126) rfl)
theorem dlaw_44 : decode code 44 = .ok (.tableswitch 1849 0 34 #[156, 196, 260, 288, 328, 380, 432, 512, 552, 608, 636, 676, 728, 768, 858, 910, 990, 1042, 1110, 1150, 1190, 1230, 1282, 1346, 1386, 1426, 1506, 1574, 1614, 1654, 1694, 1782, 1795, 1823, 1836], 156) := by decide +kernel
theorem dlaw_200 : decode code 200 = .ok (.aload_n 1, 1) := dk_43 (dq_lk dlaw_v12 (r := 8) (x := 43) rfl)
theorem dlaw_201 : decode code 201 = .ok (.aload_n 0, 1) := dk_42 (dq_lk dlaw_v12 (r := 9) (x := 42) rfl)
theorem dlaw_202 : decode code 202 = .ok (.iload 4, 2) := dk_21 (dq_lk dlaw_v12 (r := 10) (x := 21) rfl) (dq_lk dlaw_v12 (r := 11) (x := 4) rfl)
theorem dlaw_204 : decode code 204 = .ok (.iconst 1, 1) := dk_4 (dq_lk dlaw_v12 (r := 12) (x := 4) rfl)
theorem dlaw_205 : decode code 205 = .ok (.iadd, 1) := dk_96 (dq_lk dlaw_v12 (r := 13) (x := 96) rfl)
theorem dlaw_206 : decode code 206 = .ok (.iaload, 1) := dk_46 (dq_lk dlaw_v12 (r := 14) (x := 46) rfl)
theorem dlaw_207 : decode code 207 = .ok (.aload_n 0, 1) := dk_42 (dq_lk dlaw_v12 (r := 15) (x := 42) rfl)
theorem dlaw_208 : decode code 208 = .ok (.iload 4, 2) := dk_21 (dq_lk dlaw_v13 (r := 0) (x := 21) rfl) (dq_lk dlaw_v13 (r := 1) (x := 4) rfl)
theorem dlaw_210 : decode code 210 = .ok (.iconst 2, 1) := dk_5 (dq_lk dlaw_v13 (r := 2) (x := 5) rfl)
theorem dlaw_211 : decode code 211 = .ok (.iadd, 1) := dk_96 (dq_lk dlaw_v13 (r := 3) (x := 96) rfl)
theorem dlaw_212 : decode code 212 = .ok (.iaload, 1) := dk_46 (dq_lk dlaw_v13 (r := 4) (x := 46) rfl)
theorem dlaw_213 : decode code 213 = .ok (.aload_n 3, 1) := dk_45 (dq_lk dlaw_v13 (r := 5) (x := 45) rfl)
theorem dlaw_214 : decode code 214 = .ok (.invokestatic 134, 3) := dk_184 (dq_lk dlaw_v13 (r := 6) (x := 184) rfl) (dq_lk dlaw_v13 (r := 7) (x := 0) rfl) (dq_lk dlaw_v13 (r := 8) (x := 134) rfl)
theorem dlaw_217 : decode code 217 = .ok (.istore 5, 2) := dk_54 (dq_lk dlaw_v13 (r := 9) (x := 54) rfl) (dq_lk dlaw_v13 (r := 10) (x := 5) rfl)
theorem dlaw_219 : decode code 219 = .ok (.aload_n 2, 1) := dk_44 (dq_lk dlaw_v13 (r := 11) (x := 44) rfl)
theorem dlaw_220 : decode code 220 = .ok (.aload_n 0, 1) := dk_42 (dq_lk dlaw_v13 (r := 12) (x := 42) rfl)
theorem dlaw_221 : decode code 221 = .ok (.iload 4, 2) := dk_21 (dq_lk dlaw_v13 (r := 13) (x := 21) rfl) (dq_lk dlaw_v13 (r := 14) (x := 4) rfl)
theorem dlaw_223 : decode code 223 = .ok (.iconst 1, 1) := dk_4 (dq_lk dlaw_v13 (r := 15) (x := 4) rfl)
theorem dlaw_224 : decode code 224 = .ok (.iadd, 1) := dk_96 (dq_lk dlaw_v14 (r := 0) (x := 96) rfl)
theorem dlaw_225 : decode code 225 = .ok (.iaload, 1) := dk_46 (dq_lk dlaw_v14 (r := 1) (x := 46) rfl)
theorem dlaw_226 : decode code 226 = .ok (.aload_n 0, 1) := dk_42 (dq_lk dlaw_v14 (r := 2) (x := 42) rfl)
theorem dlaw_227 : decode code 227 = .ok (.iload 4, 2) := dk_21 (dq_lk dlaw_v14 (r := 3) (x := 21) rfl) (dq_lk dlaw_v14 (r := 4) (x := 4) rfl)
theorem dlaw_229 : decode code 229 = .ok (.iconst 2, 1) := dk_5 (dq_lk dlaw_v14 (r := 5) (x := 5) rfl)
theorem dlaw_230 : decode code 230 = .ok (.iadd, 1) := dk_96 (dq_lk dlaw_v14 (r := 6) (x := 96) rfl)
theorem dlaw_231 : decode code 231 = .ok (.iaload, 1) := dk_46 (dq_lk dlaw_v14 (r := 7) (x := 46) rfl)
theorem dlaw_232 : decode code 232 = .ok (.invokevirtual 139, 3) := dk_182 (dq_lk dlaw_v14 (r := 8) (x := 182) rfl) (dq_lk dlaw_v14 (r := 9) (x := 0) rfl) (dq_lk dlaw_v14 (r := 10) (x := 139) rfl)
theorem dlaw_235 : decode code 235 = .ok (.istore 6, 2) := dk_54 (dq_lk dlaw_v14 (r := 11) (x := 54) rfl) (dq_lk dlaw_v14 (r := 12) (x := 6) rfl)
theorem dlaw_237 : decode code 237 = .ok (.goto 1656, 3) := dk_167 (dq_lk dlaw_v14 (r := 13) (x := 167) rfl) (dq_lk dlaw_v14 (r := 14) (x := 6) rfl) (dq_lk dlaw_v14 (r := 15) (x := 120) rfl) (by decide +kernel)
theorem dlaw_240 : decode code 240 = .ok (.aload_n 1, 1) := dk_43 (dq_lk dlaw_v15 (r := 0) (x := 43) rfl)
theorem dlaw_241 : decode code 241 = .ok (.aload_n 0, 1) := dk_42 (dq_lk dlaw_v15 (r := 1) (x := 42) rfl)
theorem dlaw_242 : decode code 242 = .ok (.iload 4, 2) := dk_21 (dq_lk dlaw_v15 (r := 2) (x := 21) rfl) (dq_lk dlaw_v15 (r := 3) (x := 4) rfl)
theorem dlaw_244 : decode code 244 = .ok (.iconst 1, 1) := dk_4 (dq_lk dlaw_v15 (r := 4) (x := 4) rfl)
theorem dlaw_245 : decode code 245 = .ok (.iadd, 1) := dk_96 (dq_lk dlaw_v15 (r := 5) (x := 96) rfl)
theorem dlaw_246 : decode code 246 = .ok (.iaload, 1) := dk_46 (dq_lk dlaw_v15 (r := 6) (x := 46) rfl)
theorem dlaw_247 : decode code 247 = .ok (.aload_n 0, 1) := dk_42 (dq_lk dlaw_v15 (r := 7) (x := 42) rfl)
theorem dlaw_248 : decode code 248 = .ok (.iload 4, 2) := dk_21 (dq_lk dlaw_v15 (r := 8) (x := 21) rfl) (dq_lk dlaw_v15 (r := 9) (x := 4) rfl)
theorem dlaw_250 : decode code 250 = .ok (.iconst 2, 1) := dk_5 (dq_lk dlaw_v15 (r := 10) (x := 5) rfl)
theorem dlaw_251 : decode code 251 = .ok (.iadd, 1) := dk_96 (dq_lk dlaw_v15 (r := 11) (x := 96) rfl)
theorem dlaw_252 : decode code 252 = .ok (.iaload, 1) := dk_46 (dq_lk dlaw_v15 (r := 12) (x := 46) rfl)
theorem dlaw_253 : decode code 253 = .ok (.aload_n 0, 1) := dk_42 (dq_lk dlaw_v15 (r := 13) (x := 42) rfl)
theorem dlaw_254 : decode code 254 = .ok (.iload 4, 2) := dk_21 (dq_lk dlaw_v15 (r := 14) (x := 21) rfl) (dq_lk dlaw_v15 (r := 15) (x := 4) rfl)
theorem dlaw_256 : decode code 256 = .ok (.iconst 3, 1) := dk_6 (dq_lk dlaw_v16 (r := 0) (x := 6) rfl)
theorem dlaw_257 : decode code 257 = .ok (.iadd, 1) := dk_96 (dq_lk dlaw_v16 (r := 1) (x := 96) rfl)
theorem dlaw_258 : decode code 258 = .ok (.iaload, 1) := dk_46 (dq_lk dlaw_v16 (r := 2) (x := 46) rfl)
theorem dlaw_259 : decode code 259 = .ok (.aload_n 0, 1) := dk_42 (dq_lk dlaw_v16 (r := 3) (x := 42) rfl)
theorem dlaw_260 : decode code 260 = .ok (.iload 4, 2) := dk_21 (dq_lk dlaw_v16 (r := 4) (x := 21) rfl) (dq_lk dlaw_v16 (r := 5) (x := 4) rfl)
theorem dlaw_262 : decode code 262 = .ok (.iconst 4, 1) := dk_7 (dq_lk dlaw_v16 (r := 6) (x := 7) rfl)
theorem dlaw_263 : decode code 263 = .ok (.iadd, 1) := dk_96 (dq_lk dlaw_v16 (r := 7) (x := 96) rfl)
theorem dlaw_264 : decode code 264 = .ok (.iaload, 1) := dk_46 (dq_lk dlaw_v16 (r := 8) (x := 46) rfl)
theorem dlaw_265 : decode code 265 = .ok (.aload_n 3, 1) := dk_45 (dq_lk dlaw_v16 (r := 9) (x := 45) rfl)
theorem dlaw_266 : decode code 266 = .ok (.invokestatic 140, 3) := dk_184 (dq_lk dlaw_v16 (r := 10) (x := 184) rfl) (dq_lk dlaw_v16 (r := 11) (x := 0) rfl) (dq_lk dlaw_v16 (r := 12) (x := 140) rfl)
theorem dlaw_269 : decode code 269 = .ok (.istore 5, 2) := dk_54 (dq_lk dlaw_v16 (r := 13) (x := 54) rfl) (dq_lk dlaw_v16 (r := 14) (x := 5) rfl)
theorem dlaw_271 : decode code 271 = .ok (.aload_n 2, 1) := dk_44 (dq_lk dlaw_v16 (r := 15) (x := 44) rfl)
theorem dlaw_272 : decode code 272 = .ok (.aload_n 0, 1) := dk_42 (dq_lk dlaw_v17 (r := 0) (x := 42) rfl)
theorem dlaw_273 : decode code 273 = .ok (.iload 4, 2) := dk_21 (dq_lk dlaw_v17 (r := 1) (x := 21) rfl) (dq_lk dlaw_v17 (r := 2) (x := 4) rfl)
theorem dlaw_275 : decode code 275 = .ok (.iconst 1, 1) := dk_4 (dq_lk dlaw_v17 (r := 3) (x := 4) rfl)
theorem dlaw_276 : decode code 276 = .ok (.iadd, 1) := dk_96 (dq_lk dlaw_v17 (r := 4) (x := 96) rfl)
theorem dlaw_277 : decode code 277 = .ok (.iaload, 1) := dk_46 (dq_lk dlaw_v17 (r := 5) (x := 46) rfl)
theorem dlaw_278 : decode code 278 = .ok (.aload_n 0, 1) := dk_42 (dq_lk dlaw_v17 (r := 6) (x := 42) rfl)
theorem dlaw_279 : decode code 279 = .ok (.iload 4, 2) := dk_21 (dq_lk dlaw_v17 (r := 7) (x := 21) rfl) (dq_lk dlaw_v17 (r := 8) (x := 4) rfl)
theorem dlaw_281 : decode code 281 = .ok (.iconst 2, 1) := dk_5 (dq_lk dlaw_v17 (r := 9) (x := 5) rfl)
theorem dlaw_282 : decode code 282 = .ok (.iadd, 1) := dk_96 (dq_lk dlaw_v17 (r := 10) (x := 96) rfl)
theorem dlaw_283 : decode code 283 = .ok (.iaload, 1) := dk_46 (dq_lk dlaw_v17 (r := 11) (x := 46) rfl)
theorem dlaw_284 : decode code 284 = .ok (.aload_n 0, 1) := dk_42 (dq_lk dlaw_v17 (r := 12) (x := 42) rfl)
theorem dlaw_285 : decode code 285 = .ok (.iload 4, 2) := dk_21 (dq_lk dlaw_v17 (r := 13) (x := 21) rfl) (dq_lk dlaw_v17 (r := 14) (x := 4) rfl)
theorem dlaw_287 : decode code 287 = .ok (.iconst 3, 1) := dk_6 (dq_lk dlaw_v17 (r := 15) (x := 6) rfl)
theorem dlaw_288 : decode code 288 = .ok (.iadd, 1) := dk_96 (dq_lk dlaw_v18 (r := 0) (x := 96) rfl)
theorem dlaw_289 : decode code 289 = .ok (.iaload, 1) := dk_46 (dq_lk dlaw_v18 (r := 1) (x := 46) rfl)
theorem dlaw_290 : decode code 290 = .ok (.aload_n 0, 1) := dk_42 (dq_lk dlaw_v18 (r := 2) (x := 42) rfl)
theorem dlaw_291 : decode code 291 = .ok (.iload 4, 2) := dk_21 (dq_lk dlaw_v18 (r := 3) (x := 21) rfl) (dq_lk dlaw_v18 (r := 4) (x := 4) rfl)
theorem dlaw_293 : decode code 293 = .ok (.iconst 4, 1) := dk_7 (dq_lk dlaw_v18 (r := 5) (x := 7) rfl)
theorem dlaw_294 : decode code 294 = .ok (.iadd, 1) := dk_96 (dq_lk dlaw_v18 (r := 6) (x := 96) rfl)
theorem dlaw_295 : decode code 295 = .ok (.iaload, 1) := dk_46 (dq_lk dlaw_v18 (r := 7) (x := 46) rfl)
theorem dlaw_296 : decode code 296 = .ok (.invokevirtual 143, 3) := dk_182 (dq_lk dlaw_v18 (r := 8) (x := 182) rfl) (dq_lk dlaw_v18 (r := 9) (x := 0) rfl) (dq_lk dlaw_v18 (r := 10) (x := 143) rfl)
theorem dlaw_299 : decode code 299 = .ok (.istore 6, 2) := dk_54 (dq_lk dlaw_v18 (r := 11) (x := 54) rfl) (dq_lk dlaw_v18 (r := 12) (x := 6) rfl)
theorem dlaw_301 : decode code 301 = .ok (.goto 1592, 3) := dk_167 (dq_lk dlaw_v18 (r := 13) (x := 167) rfl) (dq_lk dlaw_v18 (r := 14) (x := 6) rfl) (dq_lk dlaw_v18 (r := 15) (x := 56) rfl) (by decide +kernel)
theorem dlaw_304 : decode code 304 = .ok (.aload_n 1, 1) := dk_43 (dq_lk dlaw_v19 (r := 0) (x := 43) rfl)
theorem dlaw_305 : decode code 305 = .ok (.aload_n 0, 1) := dk_42 (dq_lk dlaw_v19 (r := 1) (x := 42) rfl)
theorem dlaw_306 : decode code 306 = .ok (.iload 4, 2) := dk_21 (dq_lk dlaw_v19 (r := 2) (x := 21) rfl) (dq_lk dlaw_v19 (r := 3) (x := 4) rfl)
theorem dlaw_308 : decode code 308 = .ok (.iconst 1, 1) := dk_4 (dq_lk dlaw_v19 (r := 4) (x := 4) rfl)
theorem dlaw_309 : decode code 309 = .ok (.iadd, 1) := dk_96 (dq_lk dlaw_v19 (r := 5) (x := 96) rfl)
theorem dlaw_310 : decode code 310 = .ok (.iaload, 1) := dk_46 (dq_lk dlaw_v19 (r := 6) (x := 46) rfl)
theorem dlaw_311 : decode code 311 = .ok (.aload_n 3, 1) := dk_45 (dq_lk dlaw_v19 (r := 7) (x := 45) rfl)
theorem dlaw_312 : decode code 312 = .ok (.invokestatic 144, 3) := dk_184 (dq_lk dlaw_v19 (r := 8) (x := 184) rfl) (dq_lk dlaw_v19 (r := 9) (x := 0) rfl) (dq_lk dlaw_v19 (r := 10) (x := 144) rfl)
theorem dlaw_315 : decode code 315 = .ok (.istore 5, 2) := dk_54 (dq_lk dlaw_v19 (r := 11) (x := 54) rfl) (dq_lk dlaw_v19 (r := 12) (x := 5) rfl)
theorem dlaw_317 : decode code 317 = .ok (.aload_n 2, 1) := dk_44 (dq_lk dlaw_v19 (r := 13) (x := 44) rfl)
theorem dlaw_318 : decode code 318 = .ok (.aload_n 0, 1) := dk_42 (dq_lk dlaw_v19 (r := 14) (x := 42) rfl)
theorem dlaw_319 : decode code 319 = .ok (.iload 4, 2) := dk_21 (dq_lk dlaw_v19 (r := 15) (x := 21) rfl) (dq_lk dlaw_v20 (r := 0) (x := 4) rfl)
theorem dlaw_321 : decode code 321 = .ok (.iconst 1, 1) := dk_4 (dq_lk dlaw_v20 (r := 1) (x := 4) rfl)
theorem dlaw_322 : decode code 322 = .ok (.iadd, 1) := dk_96 (dq_lk dlaw_v20 (r := 2) (x := 96) rfl)
theorem dlaw_323 : decode code 323 = .ok (.iaload, 1) := dk_46 (dq_lk dlaw_v20 (r := 3) (x := 46) rfl)
theorem dlaw_324 : decode code 324 = .ok (.invokevirtual 147, 3) := dk_182 (dq_lk dlaw_v20 (r := 4) (x := 182) rfl) (dq_lk dlaw_v20 (r := 5) (x := 0) rfl) (dq_lk dlaw_v20 (r := 6) (x := 147) rfl)
theorem dlaw_327 : decode code 327 = .ok (.istore 6, 2) := dk_54 (dq_lk dlaw_v20 (r := 7) (x := 54) rfl) (dq_lk dlaw_v20 (r := 8) (x := 6) rfl)
theorem dlaw_329 : decode code 329 = .ok (.goto 1564, 3) := dk_167 (dq_lk dlaw_v20 (r := 9) (x := 167) rfl) (dq_lk dlaw_v20 (r := 10) (x := 6) rfl) (dq_lk dlaw_v20 (r := 11) (x := 28) rfl) (by decide +kernel)
theorem dlaw_332 : decode code 332 = .ok (.aload_n 1, 1) := dk_43 (dq_lk dlaw_v20 (r := 12) (x := 43) rfl)
theorem dlaw_333 : decode code 333 = .ok (.aload_n 0, 1) := dk_42 (dq_lk dlaw_v20 (r := 13) (x := 42) rfl)
theorem dlaw_334 : decode code 334 = .ok (.iload 4, 2) := dk_21 (dq_lk dlaw_v20 (r := 14) (x := 21) rfl) (dq_lk dlaw_v20 (r := 15) (x := 4) rfl)
theorem dlaw_336 : decode code 336 = .ok (.iconst 1, 1) := dk_4 (dq_lk dlaw_v21 (r := 0) (x := 4) rfl)
theorem dlaw_337 : decode code 337 = .ok (.iadd, 1) := dk_96 (dq_lk dlaw_v21 (r := 1) (x := 96) rfl)
theorem dlaw_338 : decode code 338 = .ok (.iaload, 1) := dk_46 (dq_lk dlaw_v21 (r := 2) (x := 46) rfl)
theorem dlaw_339 : decode code 339 = .ok (.aload_n 0, 1) := dk_42 (dq_lk dlaw_v21 (r := 3) (x := 42) rfl)
theorem dlaw_340 : decode code 340 = .ok (.iload 4, 2) := dk_21 (dq_lk dlaw_v21 (r := 4) (x := 21) rfl) (dq_lk dlaw_v21 (r := 5) (x := 4) rfl)
theorem dlaw_342 : decode code 342 = .ok (.iconst 2, 1) := dk_5 (dq_lk dlaw_v21 (r := 6) (x := 5) rfl)
theorem dlaw_343 : decode code 343 = .ok (.iadd, 1) := dk_96 (dq_lk dlaw_v21 (r := 7) (x := 96) rfl)
theorem dlaw_344 : decode code 344 = .ok (.iaload, 1) := dk_46 (dq_lk dlaw_v21 (r := 8) (x := 46) rfl)
theorem dlaw_345 : decode code 345 = .ok (.aload_n 3, 1) := dk_45 (dq_lk dlaw_v21 (r := 9) (x := 45) rfl)
theorem dlaw_346 : decode code 346 = .ok (.invokestatic 148, 3) := dk_184 (dq_lk dlaw_v21 (r := 10) (x := 184) rfl) (dq_lk dlaw_v21 (r := 11) (x := 0) rfl) (dq_lk dlaw_v21 (r := 12) (x := 148) rfl)
theorem dlaw_349 : decode code 349 = .ok (.istore 5, 2) := dk_54 (dq_lk dlaw_v21 (r := 13) (x := 54) rfl) (dq_lk dlaw_v21 (r := 14) (x := 5) rfl)
theorem dlaw_351 : decode code 351 = .ok (.aload_n 2, 1) := dk_44 (dq_lk dlaw_v21 (r := 15) (x := 44) rfl)
theorem dlaw_352 : decode code 352 = .ok (.aload_n 0, 1) := dk_42 (dq_lk dlaw_v22 (r := 0) (x := 42) rfl)
theorem dlaw_353 : decode code 353 = .ok (.iload 4, 2) := dk_21 (dq_lk dlaw_v22 (r := 1) (x := 21) rfl) (dq_lk dlaw_v22 (r := 2) (x := 4) rfl)
theorem dlaw_355 : decode code 355 = .ok (.iconst 1, 1) := dk_4 (dq_lk dlaw_v22 (r := 3) (x := 4) rfl)
theorem dlaw_356 : decode code 356 = .ok (.iadd, 1) := dk_96 (dq_lk dlaw_v22 (r := 4) (x := 96) rfl)
theorem dlaw_357 : decode code 357 = .ok (.iaload, 1) := dk_46 (dq_lk dlaw_v22 (r := 5) (x := 46) rfl)
theorem dlaw_358 : decode code 358 = .ok (.aload_n 0, 1) := dk_42 (dq_lk dlaw_v22 (r := 6) (x := 42) rfl)
theorem dlaw_359 : decode code 359 = .ok (.iload 4, 2) := dk_21 (dq_lk dlaw_v22 (r := 7) (x := 21) rfl) (dq_lk dlaw_v22 (r := 8) (x := 4) rfl)
theorem dlaw_361 : decode code 361 = .ok (.iconst 2, 1) := dk_5 (dq_lk dlaw_v22 (r := 9) (x := 5) rfl)
theorem dlaw_362 : decode code 362 = .ok (.iadd, 1) := dk_96 (dq_lk dlaw_v22 (r := 10) (x := 96) rfl)
theorem dlaw_363 : decode code 363 = .ok (.iaload, 1) := dk_46 (dq_lk dlaw_v22 (r := 11) (x := 46) rfl)
theorem dlaw_364 : decode code 364 = .ok (.invokevirtual 150, 3) := dk_182 (dq_lk dlaw_v22 (r := 12) (x := 182) rfl) (dq_lk dlaw_v22 (r := 13) (x := 0) rfl) (dq_lk dlaw_v22 (r := 14) (x := 150) rfl)
theorem dlaw_367 : decode code 367 = .ok (.istore 6, 2) := dk_54 (dq_lk dlaw_v22 (r := 15) (x := 54) rfl) (dq_lk dlaw_v23 (r := 0) (x := 6) rfl)
theorem dlaw_369 : decode code 369 = .ok (.goto 1524, 3) := dk_167 (dq_lk dlaw_v23 (r := 1) (x := 167) rfl) (dq_lk dlaw_v23 (r := 2) (x := 5) rfl) (dq_lk dlaw_v23 (r := 3) (x := 244) rfl) (by decide +kernel)
theorem dlaw_372 : decode code 372 = .ok (.aload_n 1, 1) := dk_43 (dq_lk dlaw_v23 (r := 4) (x := 43) rfl)
theorem dlaw_373 : decode code 373 = .ok (.aload_n 0, 1) := dk_42 (dq_lk dlaw_v23 (r := 5) (x := 42) rfl)
theorem dlaw_374 : decode code 374 = .ok (.iload 4, 2) := dk_21 (dq_lk dlaw_v23 (r := 6) (x := 21) rfl) (dq_lk dlaw_v23 (r := 7) (x := 4) rfl)
theorem dlaw_376 : decode code 376 = .ok (.iconst 1, 1) := dk_4 (dq_lk dlaw_v23 (r := 8) (x := 4) rfl)
theorem dlaw_377 : decode code 377 = .ok (.iadd, 1) := dk_96 (dq_lk dlaw_v23 (r := 9) (x := 96) rfl)
theorem dlaw_378 : decode code 378 = .ok (.iaload, 1) := dk_46 (dq_lk dlaw_v23 (r := 10) (x := 46) rfl)
theorem dlaw_379 : decode code 379 = .ok (.aload_n 0, 1) := dk_42 (dq_lk dlaw_v23 (r := 11) (x := 42) rfl)
theorem dlaw_380 : decode code 380 = .ok (.iload 4, 2) := dk_21 (dq_lk dlaw_v23 (r := 12) (x := 21) rfl) (dq_lk dlaw_v23 (r := 13) (x := 4) rfl)
theorem dlaw_382 : decode code 382 = .ok (.iconst 2, 1) := dk_5 (dq_lk dlaw_v23 (r := 14) (x := 5) rfl)
theorem dlaw_383 : decode code 383 = .ok (.iadd, 1) := dk_96 (dq_lk dlaw_v23 (r := 15) (x := 96) rfl)
theorem dlaw_384 : decode code 384 = .ok (.iaload, 1) := dk_46 (dq_lk dlaw_v24 (r := 0) (x := 46) rfl)
theorem dlaw_385 : decode code 385 = .ok (.aload_n 0, 1) := dk_42 (dq_lk dlaw_v24 (r := 1) (x := 42) rfl)
theorem dlaw_386 : decode code 386 = .ok (.iload 4, 2) := dk_21 (dq_lk dlaw_v24 (r := 2) (x := 21) rfl) (dq_lk dlaw_v24 (r := 3) (x := 4) rfl)
theorem dlaw_388 : decode code 388 = .ok (.iconst 3, 1) := dk_6 (dq_lk dlaw_v24 (r := 4) (x := 6) rfl)
theorem dlaw_389 : decode code 389 = .ok (.iadd, 1) := dk_96 (dq_lk dlaw_v24 (r := 5) (x := 96) rfl)
theorem dlaw_390 : decode code 390 = .ok (.iaload, 1) := dk_46 (dq_lk dlaw_v24 (r := 6) (x := 46) rfl)
theorem dlaw_391 : decode code 391 = .ok (.aload_n 3, 1) := dk_45 (dq_lk dlaw_v24 (r := 7) (x := 45) rfl)
theorem dlaw_392 : decode code 392 = .ok (.invokestatic 151, 3) := dk_184 (dq_lk dlaw_v24 (r := 8) (x := 184) rfl) (dq_lk dlaw_v24 (r := 9) (x := 0) rfl) (dq_lk dlaw_v24 (r := 10) (x := 151) rfl)
theorem dlaw_395 : decode code 395 = .ok (.istore 5, 2) := dk_54 (dq_lk dlaw_v24 (r := 11) (x := 54) rfl) (dq_lk dlaw_v24 (r := 12) (x := 5) rfl)
theorem dlaw_397 : decode code 397 = .ok (.aload_n 2, 1) := dk_44 (dq_lk dlaw_v24 (r := 13) (x := 44) rfl)
theorem dlaw_398 : decode code 398 = .ok (.aload_n 0, 1) := dk_42 (dq_lk dlaw_v24 (r := 14) (x := 42) rfl)
theorem dlaw_399 : decode code 399 = .ok (.iload 4, 2) := dk_21 (dq_lk dlaw_v24 (r := 15) (x := 21) rfl) (dq_lk dlaw_v25 (r := 0) (x := 4) rfl)
theorem dlaw_401 : decode code 401 = .ok (.iconst 1, 1) := dk_4 (dq_lk dlaw_v25 (r := 1) (x := 4) rfl)
theorem dlaw_402 : decode code 402 = .ok (.iadd, 1) := dk_96 (dq_lk dlaw_v25 (r := 2) (x := 96) rfl)
theorem dlaw_403 : decode code 403 = .ok (.iaload, 1) := dk_46 (dq_lk dlaw_v25 (r := 3) (x := 46) rfl)
theorem dlaw_404 : decode code 404 = .ok (.aload_n 0, 1) := dk_42 (dq_lk dlaw_v25 (r := 4) (x := 42) rfl)
theorem dlaw_405 : decode code 405 = .ok (.iload 4, 2) := dk_21 (dq_lk dlaw_v25 (r := 5) (x := 21) rfl) (dq_lk dlaw_v25 (r := 6) (x := 4) rfl)
theorem dlaw_407 : decode code 407 = .ok (.iconst 2, 1) := dk_5 (dq_lk dlaw_v25 (r := 7) (x := 5) rfl)
theorem dlaw_408 : decode code 408 = .ok (.iadd, 1) := dk_96 (dq_lk dlaw_v25 (r := 8) (x := 96) rfl)
theorem dlaw_409 : decode code 409 = .ok (.iaload, 1) := dk_46 (dq_lk dlaw_v25 (r := 9) (x := 46) rfl)
theorem dlaw_410 : decode code 410 = .ok (.aload_n 0, 1) := dk_42 (dq_lk dlaw_v25 (r := 10) (x := 42) rfl)
theorem dlaw_411 : decode code 411 = .ok (.iload 4, 2) := dk_21 (dq_lk dlaw_v25 (r := 11) (x := 21) rfl) (dq_lk dlaw_v25 (r := 12) (x := 4) rfl)
theorem dlaw_413 : decode code 413 = .ok (.iconst 3, 1) := dk_6 (dq_lk dlaw_v25 (r := 13) (x := 6) rfl)
theorem dlaw_414 : decode code 414 = .ok (.iadd, 1) := dk_96 (dq_lk dlaw_v25 (r := 14) (x := 96) rfl)
theorem dlaw_415 : decode code 415 = .ok (.iaload, 1) := dk_46 (dq_lk dlaw_v25 (r := 15) (x := 46) rfl)
theorem dlaw_416 : decode code 416 = .ok (.invokevirtual 154, 3) := dk_182 (dq_lk dlaw_v26 (r := 0) (x := 182) rfl) (dq_lk dlaw_v26 (r := 1) (x := 0) rfl) (dq_lk dlaw_v26 (r := 2) (x := 154) rfl)
theorem dlaw_419 : decode code 419 = .ok (.istore 6, 2) := dk_54 (dq_lk dlaw_v26 (r := 3) (x := 54) rfl) (dq_lk dlaw_v26 (r := 4) (x := 6) rfl)
theorem dlaw_421 : decode code 421 = .ok (.goto 1472, 3) := dk_167 (dq_lk dlaw_v26 (r := 5) (x := 167) rfl) (dq_lk dlaw_v26 (r := 6) (x := 5) rfl) (dq_lk dlaw_v26 (r := 7) (x := 192) rfl) (by decide +kernel)
theorem dlaw_424 : decode code 424 = .ok (.aload_n 1, 1) := dk_43 (dq_lk dlaw_v26 (r := 8) (x := 43) rfl)
theorem dlaw_425 : decode code 425 = .ok (.aload_n 0, 1) := dk_42 (dq_lk dlaw_v26 (r := 9) (x := 42) rfl)
theorem dlaw_426 : decode code 426 = .ok (.iload 4, 2) := dk_21 (dq_lk dlaw_v26 (r := 10) (x := 21) rfl) (dq_lk dlaw_v26 (r := 11) (x := 4) rfl)
theorem dlaw_428 : decode code 428 = .ok (.iconst 1, 1) := dk_4 (dq_lk dlaw_v26 (r := 12) (x := 4) rfl)
theorem dlaw_429 : decode code 429 = .ok (.iadd, 1) := dk_96 (dq_lk dlaw_v26 (r := 13) (x := 96) rfl)
theorem dlaw_430 : decode code 430 = .ok (.iaload, 1) := dk_46 (dq_lk dlaw_v26 (r := 14) (x := 46) rfl)
theorem dlaw_431 : decode code 431 = .ok (.aload_n 0, 1) := dk_42 (dq_lk dlaw_v26 (r := 15) (x := 42) rfl)
theorem dlaw_432 : decode code 432 = .ok (.iload 4, 2) := dk_21 (dq_lk dlaw_v27 (r := 0) (x := 21) rfl) (dq_lk dlaw_v27 (r := 1) (x := 4) rfl)
theorem dlaw_434 : decode code 434 = .ok (.iconst 2, 1) := dk_5 (dq_lk dlaw_v27 (r := 2) (x := 5) rfl)
theorem dlaw_435 : decode code 435 = .ok (.iadd, 1) := dk_96 (dq_lk dlaw_v27 (r := 3) (x := 96) rfl)
theorem dlaw_436 : decode code 436 = .ok (.iaload, 1) := dk_46 (dq_lk dlaw_v27 (r := 4) (x := 46) rfl)
theorem dlaw_437 : decode code 437 = .ok (.aload_n 0, 1) := dk_42 (dq_lk dlaw_v27 (r := 5) (x := 42) rfl)
theorem dlaw_438 : decode code 438 = .ok (.iload 4, 2) := dk_21 (dq_lk dlaw_v27 (r := 6) (x := 21) rfl) (dq_lk dlaw_v27 (r := 7) (x := 4) rfl)
theorem dlaw_440 : decode code 440 = .ok (.iconst 3, 1) := dk_6 (dq_lk dlaw_v27 (r := 8) (x := 6) rfl)
theorem dlaw_441 : decode code 441 = .ok (.iadd, 1) := dk_96 (dq_lk dlaw_v27 (r := 9) (x := 96) rfl)
theorem dlaw_442 : decode code 442 = .ok (.iaload, 1) := dk_46 (dq_lk dlaw_v27 (r := 10) (x := 46) rfl)
theorem dlaw_443 : decode code 443 = .ok (.aload_n 3, 1) := dk_45 (dq_lk dlaw_v27 (r := 11) (x := 45) rfl)
theorem dlaw_444 : decode code 444 = .ok (.invokestatic 155, 3) := dk_184 (dq_lk dlaw_v27 (r := 12) (x := 184) rfl) (dq_lk dlaw_v27 (r := 13) (x := 0) rfl) (dq_lk dlaw_v27 (r := 14) (x := 155) rfl)
theorem dlaw_447 : decode code 447 = .ok (.istore 5, 2) := dk_54 (dq_lk dlaw_v27 (r := 15) (x := 54) rfl) (dq_lk dlaw_v28 (r := 0) (x := 5) rfl)
theorem dlaw_449 : decode code 449 = .ok (.aload_n 2, 1) := dk_44 (dq_lk dlaw_v28 (r := 1) (x := 44) rfl)
theorem dlaw_450 : decode code 450 = .ok (.aload_n 0, 1) := dk_42 (dq_lk dlaw_v28 (r := 2) (x := 42) rfl)
theorem dlaw_451 : decode code 451 = .ok (.iload 4, 2) := dk_21 (dq_lk dlaw_v28 (r := 3) (x := 21) rfl) (dq_lk dlaw_v28 (r := 4) (x := 4) rfl)
theorem dlaw_453 : decode code 453 = .ok (.iconst 1, 1) := dk_4 (dq_lk dlaw_v28 (r := 5) (x := 4) rfl)
theorem dlaw_454 : decode code 454 = .ok (.iadd, 1) := dk_96 (dq_lk dlaw_v28 (r := 6) (x := 96) rfl)
theorem dlaw_455 : decode code 455 = .ok (.iaload, 1) := dk_46 (dq_lk dlaw_v28 (r := 7) (x := 46) rfl)
theorem dlaw_456 : decode code 456 = .ok (.aload_n 0, 1) := dk_42 (dq_lk dlaw_v28 (r := 8) (x := 42) rfl)
theorem dlaw_457 : decode code 457 = .ok (.iload 4, 2) := dk_21 (dq_lk dlaw_v28 (r := 9) (x := 21) rfl) (dq_lk dlaw_v28 (r := 10) (x := 4) rfl)
theorem dlaw_459 : decode code 459 = .ok (.iconst 2, 1) := dk_5 (dq_lk dlaw_v28 (r := 11) (x := 5) rfl)
theorem dlaw_460 : decode code 460 = .ok (.iadd, 1) := dk_96 (dq_lk dlaw_v28 (r := 12) (x := 96) rfl)
theorem dlaw_461 : decode code 461 = .ok (.iaload, 1) := dk_46 (dq_lk dlaw_v28 (r := 13) (x := 46) rfl)
theorem dlaw_462 : decode code 462 = .ok (.aload_n 0, 1) := dk_42 (dq_lk dlaw_v28 (r := 14) (x := 42) rfl)
theorem dlaw_463 : decode code 463 = .ok (.iload 4, 2) := dk_21 (dq_lk dlaw_v28 (r := 15) (x := 21) rfl) (dq_lk dlaw_v29 (r := 0) (x := 4) rfl)
theorem dlaw_465 : decode code 465 = .ok (.iconst 3, 1) := dk_6 (dq_lk dlaw_v29 (r := 1) (x := 6) rfl)
theorem dlaw_466 : decode code 466 = .ok (.iadd, 1) := dk_96 (dq_lk dlaw_v29 (r := 2) (x := 96) rfl)
theorem dlaw_467 : decode code 467 = .ok (.iaload, 1) := dk_46 (dq_lk dlaw_v29 (r := 3) (x := 46) rfl)
theorem dlaw_468 : decode code 468 = .ok (.invokevirtual 157, 3) := dk_182 (dq_lk dlaw_v29 (r := 4) (x := 182) rfl) (dq_lk dlaw_v29 (r := 5) (x := 0) rfl) (dq_lk dlaw_v29 (r := 6) (x := 157) rfl)
theorem dlaw_471 : decode code 471 = .ok (.istore 6, 2) := dk_54 (dq_lk dlaw_v29 (r := 7) (x := 54) rfl) (dq_lk dlaw_v29 (r := 8) (x := 6) rfl)
theorem dlaw_473 : decode code 473 = .ok (.goto 1420, 3) := dk_167 (dq_lk dlaw_v29 (r := 9) (x := 167) rfl) (dq_lk dlaw_v29 (r := 10) (x := 5) rfl) (dq_lk dlaw_v29 (r := 11) (x := 140) rfl) (by decide +kernel)
theorem dlaw_476 : decode code 476 = .ok (.aload_n 1, 1) := dk_43 (dq_lk dlaw_v29 (r := 12) (x := 43) rfl)
theorem dlaw_477 : decode code 477 = .ok (.aload_n 0, 1) := dk_42 (dq_lk dlaw_v29 (r := 13) (x := 42) rfl)
theorem dlaw_478 : decode code 478 = .ok (.iload 4, 2) := dk_21 (dq_lk dlaw_v29 (r := 14) (x := 21) rfl) (dq_lk dlaw_v29 (r := 15) (x := 4) rfl)
theorem dlaw_480 : decode code 480 = .ok (.iconst 1, 1) := dk_4 (dq_lk dlaw_v30 (r := 0) (x := 4) rfl)
theorem dlaw_481 : decode code 481 = .ok (.iadd, 1) := dk_96 (dq_lk dlaw_v30 (r := 1) (x := 96) rfl)
theorem dlaw_482 : decode code 482 = .ok (.iaload, 1) := dk_46 (dq_lk dlaw_v30 (r := 2) (x := 46) rfl)
theorem dlaw_483 : decode code 483 = .ok (.aload_n 0, 1) := dk_42 (dq_lk dlaw_v30 (r := 3) (x := 42) rfl)
theorem dlaw_484 : decode code 484 = .ok (.iload 4, 2) := dk_21 (dq_lk dlaw_v30 (r := 4) (x := 21) rfl) (dq_lk dlaw_v30 (r := 5) (x := 4) rfl)
theorem dlaw_486 : decode code 486 = .ok (.iconst 2, 1) := dk_5 (dq_lk dlaw_v30 (r := 6) (x := 5) rfl)
theorem dlaw_487 : decode code 487 = .ok (.iadd, 1) := dk_96 (dq_lk dlaw_v30 (r := 7) (x := 96) rfl)
theorem dlaw_488 : decode code 488 = .ok (.iaload, 1) := dk_46 (dq_lk dlaw_v30 (r := 8) (x := 46) rfl)
theorem dlaw_489 : decode code 489 = .ok (.aload_n 0, 1) := dk_42 (dq_lk dlaw_v30 (r := 9) (x := 42) rfl)
theorem dlaw_490 : decode code 490 = .ok (.iload 4, 2) := dk_21 (dq_lk dlaw_v30 (r := 10) (x := 21) rfl) (dq_lk dlaw_v30 (r := 11) (x := 4) rfl)
theorem dlaw_492 : decode code 492 = .ok (.iconst 3, 1) := dk_6 (dq_lk dlaw_v30 (r := 12) (x := 6) rfl)
theorem dlaw_493 : decode code 493 = .ok (.iadd, 1) := dk_96 (dq_lk dlaw_v30 (r := 13) (x := 96) rfl)
theorem dlaw_494 : decode code 494 = .ok (.iaload, 1) := dk_46 (dq_lk dlaw_v30 (r := 14) (x := 46) rfl)
theorem dlaw_495 : decode code 495 = .ok (.aload_n 0, 1) := dk_42 (dq_lk dlaw_v30 (r := 15) (x := 42) rfl)
theorem dlaw_496 : decode code 496 = .ok (.iload 4, 2) := dk_21 (dq_lk dlaw_v31 (r := 0) (x := 21) rfl) (dq_lk dlaw_v31 (r := 1) (x := 4) rfl)
theorem dlaw_498 : decode code 498 = .ok (.iconst 4, 1) := dk_7 (dq_lk dlaw_v31 (r := 2) (x := 7) rfl)
theorem dlaw_499 : decode code 499 = .ok (.iadd, 1) := dk_96 (dq_lk dlaw_v31 (r := 3) (x := 96) rfl)
theorem dlaw_500 : decode code 500 = .ok (.iaload, 1) := dk_46 (dq_lk dlaw_v31 (r := 4) (x := 46) rfl)
theorem dlaw_501 : decode code 501 = .ok (.ifCond .eq 7, 3) := dk_153 (dq_lk dlaw_v31 (r := 5) (x := 153) rfl) (dq_lk dlaw_v31 (r := 6) (x := 0) rfl) (dq_lk dlaw_v31 (r := 7) (x := 7) rfl) (by decide +kernel)
theorem dlaw_504 : decode code 504 = .ok (.iconst 1, 1) := dk_4 (dq_lk dlaw_v31 (r := 8) (x := 4) rfl)
theorem dlaw_505 : decode code 505 = .ok (.goto 4, 3) := dk_167 (dq_lk dlaw_v31 (r := 9) (x := 167) rfl) (dq_lk dlaw_v31 (r := 10) (x := 0) rfl) (dq_lk dlaw_v31 (r := 11) (x := 4) rfl) (by decide +kernel)
theorem dlaw_508 : decode code 508 = .ok (.iconst 0, 1) := dk_3 (dq_lk dlaw_v31 (r := 12) (x := 3) rfl)
theorem dlaw_509 : decode code 509 = .ok (.aload_n 3, 1) := dk_45 (dq_lk dlaw_v31 (r := 13) (x := 45) rfl)
theorem dlaw_510 : decode code 510 = .ok (.invokestatic 158, 3) := dk_184 (dq_lk dlaw_v31 (r := 14) (x := 184) rfl) (dq_lk dlaw_v31 (r := 15) (x := 0) rfl) (dq_lk dlaw_v32 (r := 0) (x := 158) rfl)
theorem dlaw_513 : decode code 513 = .ok (.istore 5, 2) := dk_54 (dq_lk dlaw_v32 (r := 1) (x := 54) rfl) (dq_lk dlaw_v32 (r := 2) (x := 5) rfl)
theorem dlaw_515 : decode code 515 = .ok (.aload_n 2, 1) := dk_44 (dq_lk dlaw_v32 (r := 3) (x := 44) rfl)
theorem dlaw_516 : decode code 516 = .ok (.aload_n 0, 1) := dk_42 (dq_lk dlaw_v32 (r := 4) (x := 42) rfl)
theorem dlaw_517 : decode code 517 = .ok (.iload 4, 2) := dk_21 (dq_lk dlaw_v32 (r := 5) (x := 21) rfl) (dq_lk dlaw_v32 (r := 6) (x := 4) rfl)
theorem dlaw_519 : decode code 519 = .ok (.iconst 1, 1) := dk_4 (dq_lk dlaw_v32 (r := 7) (x := 4) rfl)
theorem dlaw_520 : decode code 520 = .ok (.iadd, 1) := dk_96 (dq_lk dlaw_v32 (r := 8) (x := 96) rfl)
theorem dlaw_521 : decode code 521 = .ok (.iaload, 1) := dk_46 (dq_lk dlaw_v32 (r := 9) (x := 46) rfl)
theorem dlaw_522 : decode code 522 = .ok (.aload_n 0, 1) := dk_42 (dq_lk dlaw_v32 (r := 10) (x := 42) rfl)
theorem dlaw_523 : decode code 523 = .ok (.iload 4, 2) := dk_21 (dq_lk dlaw_v32 (r := 11) (x := 21) rfl) (dq_lk dlaw_v32 (r := 12) (x := 4) rfl)
theorem dlaw_525 : decode code 525 = .ok (.iconst 2, 1) := dk_5 (dq_lk dlaw_v32 (r := 13) (x := 5) rfl)
theorem dlaw_526 : decode code 526 = .ok (.iadd, 1) := dk_96 (dq_lk dlaw_v32 (r := 14) (x := 96) rfl)
theorem dlaw_527 : decode code 527 = .ok (.iaload, 1) := dk_46 (dq_lk dlaw_v32 (r := 15) (x := 46) rfl)
theorem dlaw_528 : decode code 528 = .ok (.aload_n 0, 1) := dk_42 (dq_lk dlaw_v33 (r := 0) (x := 42) rfl)
theorem dlaw_529 : decode code 529 = .ok (.iload 4, 2) := dk_21 (dq_lk dlaw_v33 (r := 1) (x := 21) rfl) (dq_lk dlaw_v33 (r := 2) (x := 4) rfl)
theorem dlaw_531 : decode code 531 = .ok (.iconst 3, 1) := dk_6 (dq_lk dlaw_v33 (r := 3) (x := 6) rfl)
theorem dlaw_532 : decode code 532 = .ok (.iadd, 1) := dk_96 (dq_lk dlaw_v33 (r := 4) (x := 96) rfl)
theorem dlaw_533 : decode code 533 = .ok (.iaload, 1) := dk_46 (dq_lk dlaw_v33 (r := 5) (x := 46) rfl)
theorem dlaw_534 : decode code 534 = .ok (.aload_n 0, 1) := dk_42 (dq_lk dlaw_v33 (r := 6) (x := 42) rfl)
theorem dlaw_535 : decode code 535 = .ok (.iload 4, 2) := dk_21 (dq_lk dlaw_v33 (r := 7) (x := 21) rfl) (dq_lk dlaw_v33 (r := 8) (x := 4) rfl)
theorem dlaw_537 : decode code 537 = .ok (.iconst 4, 1) := dk_7 (dq_lk dlaw_v33 (r := 9) (x := 7) rfl)
theorem dlaw_538 : decode code 538 = .ok (.iadd, 1) := dk_96 (dq_lk dlaw_v33 (r := 10) (x := 96) rfl)
theorem dlaw_539 : decode code 539 = .ok (.iaload, 1) := dk_46 (dq_lk dlaw_v33 (r := 11) (x := 46) rfl)
theorem dlaw_540 : decode code 540 = .ok (.ifCond .eq 7, 3) := dk_153 (dq_lk dlaw_v33 (r := 12) (x := 153) rfl) (dq_lk dlaw_v33 (r := 13) (x := 0) rfl) (dq_lk dlaw_v33 (r := 14) (x := 7) rfl) (by decide +kernel)
theorem dlaw_543 : decode code 543 = .ok (.iconst 1, 1) := dk_4 (dq_lk dlaw_v33 (r := 15) (x := 4) rfl)
theorem dlaw_544 : decode code 544 = .ok (.goto 4, 3) := dk_167 (dq_lk dlaw_v34 (r := 0) (x := 167) rfl) (dq_lk dlaw_v34 (r := 1) (x := 0) rfl) (dq_lk dlaw_v34 (r := 2) (x := 4) rfl) (by decide +kernel)
theorem dlaw_547 : decode code 547 = .ok (.iconst 0, 1) := dk_3 (dq_lk dlaw_v34 (r := 3) (x := 3) rfl)
theorem dlaw_548 : decode code 548 = .ok (.invokevirtual 161, 3) := dk_182 (dq_lk dlaw_v34 (r := 4) (x := 182) rfl) (dq_lk dlaw_v34 (r := 5) (x := 0) rfl) (dq_lk dlaw_v34 (r := 6) (x := 161) rfl)
theorem dlaw_551 : decode code 551 = .ok (.istore 6, 2) := dk_54 (dq_lk dlaw_v34 (r := 7) (x := 54) rfl) (dq_lk dlaw_v34 (r := 8) (x := 6) rfl)
theorem dlaw_553 : decode code 553 = .ok (.goto 1340, 3) := dk_167 (dq_lk dlaw_v34 (r := 9) (x := 167) rfl) (dq_lk dlaw_v34 (r := 10) (x := 5) rfl) (dq_lk dlaw_v34 (r := 11) (x := 60) rfl) (by decide +kernel)
theorem dlaw_556 : decode code 556 = .ok (.aload_n 1, 1) := dk_43 (dq_lk dlaw_v34 (r := 12) (x := 43) rfl)
theorem dlaw_557 : decode code 557 = .ok (.aload_n 0, 1) := dk_42 (dq_lk dlaw_v34 (r := 13) (x := 42) rfl)
theorem dlaw_558 : decode code 558 = .ok (.iload 4, 2) := dk_21 (dq_lk dlaw_v34 (r := 14) (x := 21) rfl) (dq_lk dlaw_v34 (r := 15) (x := 4) rfl)
theorem dlaw_560 : decode code 560 = .ok (.iconst 1, 1) := dk_4 (dq_lk dlaw_v35 (r := 0) (x := 4) rfl)
theorem dlaw_561 : decode code 561 = .ok (.iadd, 1) := dk_96 (dq_lk dlaw_v35 (r := 1) (x := 96) rfl)
theorem dlaw_562 : decode code 562 = .ok (.iaload, 1) := dk_46 (dq_lk dlaw_v35 (r := 2) (x := 46) rfl)
theorem dlaw_563 : decode code 563 = .ok (.aload_n 0, 1) := dk_42 (dq_lk dlaw_v35 (r := 3) (x := 42) rfl)
theorem dlaw_564 : decode code 564 = .ok (.iload 4, 2) := dk_21 (dq_lk dlaw_v35 (r := 4) (x := 21) rfl) (dq_lk dlaw_v35 (r := 5) (x := 4) rfl)
theorem dlaw_566 : decode code 566 = .ok (.iconst 2, 1) := dk_5 (dq_lk dlaw_v35 (r := 6) (x := 5) rfl)
theorem dlaw_567 : decode code 567 = .ok (.iadd, 1) := dk_96 (dq_lk dlaw_v35 (r := 7) (x := 96) rfl)
theorem dlaw_568 : decode code 568 = .ok (.iaload, 1) := dk_46 (dq_lk dlaw_v35 (r := 8) (x := 46) rfl)
theorem dlaw_569 : decode code 569 = .ok (.aload_n 3, 1) := dk_45 (dq_lk dlaw_v35 (r := 9) (x := 45) rfl)
theorem dlaw_570 : decode code 570 = .ok (.invokestatic 162, 3) := dk_184 (dq_lk dlaw_v35 (r := 10) (x := 184) rfl) (dq_lk dlaw_v35 (r := 11) (x := 0) rfl) (dq_lk dlaw_v35 (r := 12) (x := 162) rfl)
theorem dlaw_573 : decode code 573 = .ok (.istore 5, 2) := dk_54 (dq_lk dlaw_v35 (r := 13) (x := 54) rfl) (dq_lk dlaw_v35 (r := 14) (x := 5) rfl)
theorem dlaw_575 : decode code 575 = .ok (.aload_n 2, 1) := dk_44 (dq_lk dlaw_v35 (r := 15) (x := 44) rfl)
theorem dlaw_576 : decode code 576 = .ok (.aload_n 0, 1) := dk_42 (dq_lk dlaw_v36 (r := 0) (x := 42) rfl)
theorem dlaw_577 : decode code 577 = .ok (.iload 4, 2) := dk_21 (dq_lk dlaw_v36 (r := 1) (x := 21) rfl) (dq_lk dlaw_v36 (r := 2) (x := 4) rfl)
theorem dlaw_579 : decode code 579 = .ok (.iconst 1, 1) := dk_4 (dq_lk dlaw_v36 (r := 3) (x := 4) rfl)
theorem dlaw_580 : decode code 580 = .ok (.iadd, 1) := dk_96 (dq_lk dlaw_v36 (r := 4) (x := 96) rfl)
theorem dlaw_581 : decode code 581 = .ok (.iaload, 1) := dk_46 (dq_lk dlaw_v36 (r := 5) (x := 46) rfl)
theorem dlaw_582 : decode code 582 = .ok (.aload_n 0, 1) := dk_42 (dq_lk dlaw_v36 (r := 6) (x := 42) rfl)
theorem dlaw_583 : decode code 583 = .ok (.iload 4, 2) := dk_21 (dq_lk dlaw_v36 (r := 7) (x := 21) rfl) (dq_lk dlaw_v36 (r := 8) (x := 4) rfl)
theorem dlaw_585 : decode code 585 = .ok (.iconst 2, 1) := dk_5 (dq_lk dlaw_v36 (r := 9) (x := 5) rfl)
theorem dlaw_586 : decode code 586 = .ok (.iadd, 1) := dk_96 (dq_lk dlaw_v36 (r := 10) (x := 96) rfl)
theorem dlaw_587 : decode code 587 = .ok (.iaload, 1) := dk_46 (dq_lk dlaw_v36 (r := 11) (x := 46) rfl)
theorem dlaw_588 : decode code 588 = .ok (.invokevirtual 164, 3) := dk_182 (dq_lk dlaw_v36 (r := 12) (x := 182) rfl) (dq_lk dlaw_v36 (r := 13) (x := 0) rfl) (dq_lk dlaw_v36 (r := 14) (x := 164) rfl)
theorem dlaw_591 : decode code 591 = .ok (.istore 6, 2) := dk_54 (dq_lk dlaw_v36 (r := 15) (x := 54) rfl) (dq_lk dlaw_v37 (r := 0) (x := 6) rfl)
theorem dlaw_593 : decode code 593 = .ok (.goto 1300, 3) := dk_167 (dq_lk dlaw_v37 (r := 1) (x := 167) rfl) (dq_lk dlaw_v37 (r := 2) (x := 5) rfl) (dq_lk dlaw_v37 (r := 3) (x := 20) rfl) (by decide +kernel)
theorem dlaw_596 : decode code 596 = .ok (.aload_n 1, 1) := dk_43 (dq_lk dlaw_v37 (r := 4) (x := 43) rfl)
theorem dlaw_597 : decode code 597 = .ok (.aload_n 0, 1) := dk_42 (dq_lk dlaw_v37 (r := 5) (x := 42) rfl)
theorem dlaw_598 : decode code 598 = .ok (.iload 4, 2) := dk_21 (dq_lk dlaw_v37 (r := 6) (x := 21) rfl) (dq_lk dlaw_v37 (r := 7) (x := 4) rfl)
theorem dlaw_600 : decode code 600 = .ok (.iconst 1, 1) := dk_4 (dq_lk dlaw_v37 (r := 8) (x := 4) rfl)
theorem dlaw_601 : decode code 601 = .ok (.iadd, 1) := dk_96 (dq_lk dlaw_v37 (r := 9) (x := 96) rfl)
theorem dlaw_602 : decode code 602 = .ok (.iaload, 1) := dk_46 (dq_lk dlaw_v37 (r := 10) (x := 46) rfl)
theorem dlaw_603 : decode code 603 = .ok (.aload_n 0, 1) := dk_42 (dq_lk dlaw_v37 (r := 11) (x := 42) rfl)
theorem dlaw_604 : decode code 604 = .ok (.iload 4, 2) := dk_21 (dq_lk dlaw_v37 (r := 12) (x := 21) rfl) (dq_lk dlaw_v37 (r := 13) (x := 4) rfl)
theorem dlaw_606 : decode code 606 = .ok (.iconst 2, 1) := dk_5 (dq_lk dlaw_v37 (r := 14) (x := 5) rfl)
theorem dlaw_607 : decode code 607 = .ok (.iadd, 1) := dk_96 (dq_lk dlaw_v37 (r := 15) (x := 96) rfl)
theorem dlaw_608 : decode code 608 = .ok (.iaload, 1) := dk_46 (dq_lk dlaw_v38 (r := 0) (x := 46) rfl)
theorem dlaw_609 : decode code 609 = .ok (.ifCond .eq 7, 3) := dk_153 (dq_lk dlaw_v38 (r := 1) (x := 153) rfl) (dq_lk dlaw_v38 (r := 2) (x := 0) rfl) (dq_lk dlaw_v38 (r := 3) (x := 7) rfl) (by decide +kernel)
theorem dlaw_612 : decode code 612 = .ok (.iconst 1, 1) := dk_4 (dq_lk dlaw_v38 (r := 4) (x := 4) rfl)
theorem dlaw_613 : decode code 613 = .ok (.goto 4, 3) := dk_167 (dq_lk dlaw_v38 (r := 5) (x := 167) rfl) (dq_lk dlaw_v38 (r := 6) (x := 0) rfl) (dq_lk dlaw_v38 (r := 7) (x := 4) rfl) (by decide +kernel)
theorem dlaw_616 : decode code 616 = .ok (.iconst 0, 1) := dk_3 (dq_lk dlaw_v38 (r := 8) (x := 3) rfl)
theorem dlaw_617 : decode code 617 = .ok (.aload_n 3, 1) := dk_45 (dq_lk dlaw_v38 (r := 9) (x := 45) rfl)
theorem dlaw_618 : decode code 618 = .ok (.invokestatic 165, 3) := dk_184 (dq_lk dlaw_v38 (r := 10) (x := 184) rfl) (dq_lk dlaw_v38 (r := 11) (x := 0) rfl) (dq_lk dlaw_v38 (r := 12) (x := 165) rfl)
theorem dlaw_621 : decode code 621 = .ok (.istore 5, 2) := dk_54 (dq_lk dlaw_v38 (r := 13) (x := 54) rfl) (dq_lk dlaw_v38 (r := 14) (x := 5) rfl)
theorem dlaw_623 : decode code 623 = .ok (.aload_n 2, 1) := dk_44 (dq_lk dlaw_v38 (r := 15) (x := 44) rfl)
theorem dlaw_624 : decode code 624 = .ok (.aload_n 0, 1) := dk_42 (dq_lk dlaw_v39 (r := 0) (x := 42) rfl)
theorem dlaw_625 : decode code 625 = .ok (.iload 4, 2) := dk_21 (dq_lk dlaw_v39 (r := 1) (x := 21) rfl) (dq_lk dlaw_v39 (r := 2) (x := 4) rfl)
theorem dlaw_627 : decode code 627 = .ok (.iconst 1, 1) := dk_4 (dq_lk dlaw_v39 (r := 3) (x := 4) rfl)
theorem dlaw_628 : decode code 628 = .ok (.iadd, 1) := dk_96 (dq_lk dlaw_v39 (r := 4) (x := 96) rfl)
theorem dlaw_629 : decode code 629 = .ok (.iaload, 1) := dk_46 (dq_lk dlaw_v39 (r := 5) (x := 46) rfl)
theorem dlaw_630 : decode code 630 = .ok (.aload_n 0, 1) := dk_42 (dq_lk dlaw_v39 (r := 6) (x := 42) rfl)
theorem dlaw_631 : decode code 631 = .ok (.iload 4, 2) := dk_21 (dq_lk dlaw_v39 (r := 7) (x := 21) rfl) (dq_lk dlaw_v39 (r := 8) (x := 4) rfl)
theorem dlaw_633 : decode code 633 = .ok (.iconst 2, 1) := dk_5 (dq_lk dlaw_v39 (r := 9) (x := 5) rfl)
theorem dlaw_634 : decode code 634 = .ok (.iadd, 1) := dk_96 (dq_lk dlaw_v39 (r := 10) (x := 96) rfl)
theorem dlaw_635 : decode code 635 = .ok (.iaload, 1) := dk_46 (dq_lk dlaw_v39 (r := 11) (x := 46) rfl)
theorem dlaw_636 : decode code 636 = .ok (.ifCond .eq 7, 3) := dk_153 (dq_lk dlaw_v39 (r := 12) (x := 153) rfl) (dq_lk dlaw_v39 (r := 13) (x := 0) rfl) (dq_lk dlaw_v39 (r := 14) (x := 7) rfl) (by decide +kernel)
theorem dlaw_639 : decode code 639 = .ok (.iconst 1, 1) := dk_4 (dq_lk dlaw_v39 (r := 15) (x := 4) rfl)
theorem dlaw_640 : decode code 640 = .ok (.goto 4, 3) := dk_167 (dq_lk dlaw_v40 (r := 0) (x := 167) rfl) (dq_lk dlaw_v40 (r := 1) (x := 0) rfl) (dq_lk dlaw_v40 (r := 2) (x := 4) rfl) (by decide +kernel)
theorem dlaw_643 : decode code 643 = .ok (.iconst 0, 1) := dk_3 (dq_lk dlaw_v40 (r := 3) (x := 3) rfl)
theorem dlaw_644 : decode code 644 = .ok (.invokevirtual 168, 3) := dk_182 (dq_lk dlaw_v40 (r := 4) (x := 182) rfl) (dq_lk dlaw_v40 (r := 5) (x := 0) rfl) (dq_lk dlaw_v40 (r := 6) (x := 168) rfl)
theorem dlaw_647 : decode code 647 = .ok (.istore 6, 2) := dk_54 (dq_lk dlaw_v40 (r := 7) (x := 54) rfl) (dq_lk dlaw_v40 (r := 8) (x := 6) rfl)
theorem dlaw_649 : decode code 649 = .ok (.goto 1244, 3) := dk_167 (dq_lk dlaw_v40 (r := 9) (x := 167) rfl) (dq_lk dlaw_v40 (r := 10) (x := 4) rfl) (dq_lk dlaw_v40 (r := 11) (x := 220) rfl) (by decide +kernel)
theorem dlaw_652 : decode code 652 = .ok (.aload_n 1, 1) := dk_43 (dq_lk dlaw_v40 (r := 12) (x := 43) rfl)
theorem dlaw_653 : decode code 653 = .ok (.aload_n 0, 1) := dk_42 (dq_lk dlaw_v40 (r := 13) (x := 42) rfl)
theorem dlaw_654 : decode code 654 = .ok (.iload 4, 2) := dk_21 (dq_lk dlaw_v40 (r := 14) (x := 21) rfl) (dq_lk dlaw_v40 (r := 15) (x := 4) rfl)
theorem dlaw_656 : decode code 656 = .ok (.iconst 1, 1) := dk_4 (dq_lk dlaw_v41 (r := 0) (x := 4) rfl)
theorem dlaw_657 : decode code 657 = .ok (.iadd, 1) := dk_96 (dq_lk dlaw_v41 (r := 1) (x := 96) rfl)
theorem dlaw_658 : decode code 658 = .ok (.iaload, 1) := dk_46 (dq_lk dlaw_v41 (r := 2) (x := 46) rfl)
theorem dlaw_659 : decode code 659 = .ok (.aload_n 3, 1) := dk_45 (dq_lk dlaw_v41 (r := 3) (x := 45) rfl)
theorem dlaw_660 : decode code 660 = .ok (.invokestatic 169, 3) := dk_184 (dq_lk dlaw_v41 (r := 4) (x := 184) rfl) (dq_lk dlaw_v41 (r := 5) (x := 0) rfl) (dq_lk dlaw_v41 (r := 6) (x := 169) rfl)
theorem dlaw_663 : decode code 663 = .ok (.istore 5, 2) := dk_54 (dq_lk dlaw_v41 (r := 7) (x := 54) rfl) (dq_lk dlaw_v41 (r := 8) (x := 5) rfl)
theorem dlaw_665 : decode code 665 = .ok (.aload_n 2, 1) := dk_44 (dq_lk dlaw_v41 (r := 9) (x := 44) rfl)
theorem dlaw_666 : decode code 666 = .ok (.aload_n 0, 1) := dk_42 (dq_lk dlaw_v41 (r := 10) (x := 42) rfl)
theorem dlaw_667 : decode code 667 = .ok (.iload 4, 2) := dk_21 (dq_lk dlaw_v41 (r := 11) (x := 21) rfl) (dq_lk dlaw_v41 (r := 12) (x := 4) rfl)
theorem dlaw_669 : decode code 669 = .ok (.iconst 1, 1) := dk_4 (dq_lk dlaw_v41 (r := 13) (x := 4) rfl)
theorem dlaw_670 : decode code 670 = .ok (.iadd, 1) := dk_96 (dq_lk dlaw_v41 (r := 14) (x := 96) rfl)
theorem dlaw_671 : decode code 671 = .ok (.iaload, 1) := dk_46 (dq_lk dlaw_v41 (r := 15) (x := 46) rfl)
theorem dlaw_672 : decode code 672 = .ok (.invokevirtual 171, 3) := dk_182 (dq_lk dlaw_v42 (r := 0) (x := 182) rfl) (dq_lk dlaw_v42 (r := 1) (x := 0) rfl) (dq_lk dlaw_v42 (r := 2) (x := 171) rfl)
theorem dlaw_675 : decode code 675 = .ok (.astore 6, 2) := dk_58 (dq_lk dlaw_v42 (r := 3) (x := 58) rfl) (dq_lk dlaw_v42 (r := 4) (x := 6) rfl)
theorem dlaw_677 : decode code 677 = .ok (.goto 1216, 3) := dk_167 (dq_lk dlaw_v42 (r := 5) (x := 167) rfl) (dq_lk dlaw_v42 (r := 6) (x := 4) rfl) (dq_lk dlaw_v42 (r := 7) (x := 192) rfl) (by decide +kernel)
theorem dlaw_680 : decode code 680 = .ok (.aload_n 1, 1) := dk_43 (dq_lk dlaw_v42 (r := 8) (x := 43) rfl)
theorem dlaw_681 : decode code 681 = .ok (.aload_n 0, 1) := dk_42 (dq_lk dlaw_v42 (r := 9) (x := 42) rfl)
theorem dlaw_682 : decode code 682 = .ok (.iload 4, 2) := dk_21 (dq_lk dlaw_v42 (r := 10) (x := 21) rfl) (dq_lk dlaw_v42 (r := 11) (x := 4) rfl)
theorem dlaw_684 : decode code 684 = .ok (.iconst 1, 1) := dk_4 (dq_lk dlaw_v42 (r := 12) (x := 4) rfl)
theorem dlaw_685 : decode code 685 = .ok (.iadd, 1) := dk_96 (dq_lk dlaw_v42 (r := 13) (x := 96) rfl)
theorem dlaw_686 : decode code 686 = .ok (.iaload, 1) := dk_46 (dq_lk dlaw_v42 (r := 14) (x := 46) rfl)
theorem dlaw_687 : decode code 687 = .ok (.aload_n 0, 1) := dk_42 (dq_lk dlaw_v42 (r := 15) (x := 42) rfl)
theorem dlaw_688 : decode code 688 = .ok (.iload 4, 2) := dk_21 (dq_lk dlaw_v43 (r := 0) (x := 21) rfl) (dq_lk dlaw_v43 (r := 1) (x := 4) rfl)
theorem dlaw_690 : decode code 690 = .ok (.iconst 2, 1) := dk_5 (dq_lk dlaw_v43 (r := 2) (x := 5) rfl)
theorem dlaw_691 : decode code 691 = .ok (.iadd, 1) := dk_96 (dq_lk dlaw_v43 (r := 3) (x := 96) rfl)
theorem dlaw_692 : decode code 692 = .ok (.iaload, 1) := dk_46 (dq_lk dlaw_v43 (r := 4) (x := 46) rfl)
theorem dlaw_693 : decode code 693 = .ok (.aload_n 3, 1) := dk_45 (dq_lk dlaw_v43 (r := 5) (x := 45) rfl)
theorem dlaw_694 : decode code 694 = .ok (.invokestatic 172, 3) := dk_184 (dq_lk dlaw_v43 (r := 6) (x := 184) rfl) (dq_lk dlaw_v43 (r := 7) (x := 0) rfl) (dq_lk dlaw_v43 (r := 8) (x := 172) rfl)
theorem dlaw_697 : decode code 697 = .ok (.istore 5, 2) := dk_54 (dq_lk dlaw_v43 (r := 9) (x := 54) rfl) (dq_lk dlaw_v43 (r := 10) (x := 5) rfl)
theorem dlaw_699 : decode code 699 = .ok (.aload_n 2, 1) := dk_44 (dq_lk dlaw_v43 (r := 11) (x := 44) rfl)
theorem dlaw_700 : decode code 700 = .ok (.aload_n 0, 1) := dk_42 (dq_lk dlaw_v43 (r := 12) (x := 42) rfl)
theorem dlaw_701 : decode code 701 = .ok (.iload 4, 2) := dk_21 (dq_lk dlaw_v43 (r := 13) (x := 21) rfl) (dq_lk dlaw_v43 (r := 14) (x := 4) rfl)
theorem dlaw_703 : decode code 703 = .ok (.iconst 1, 1) := dk_4 (dq_lk dlaw_v43 (r := 15) (x := 4) rfl)
theorem dlaw_704 : decode code 704 = .ok (.iadd, 1) := dk_96 (dq_lk dlaw_v44 (r := 0) (x := 96) rfl)
theorem dlaw_705 : decode code 705 = .ok (.iaload, 1) := dk_46 (dq_lk dlaw_v44 (r := 1) (x := 46) rfl)
theorem dlaw_706 : decode code 706 = .ok (.aload_n 0, 1) := dk_42 (dq_lk dlaw_v44 (r := 2) (x := 42) rfl)
theorem dlaw_707 : decode code 707 = .ok (.iload 4, 2) := dk_21 (dq_lk dlaw_v44 (r := 3) (x := 21) rfl) (dq_lk dlaw_v44 (r := 4) (x := 4) rfl)
theorem dlaw_709 : decode code 709 = .ok (.iconst 2, 1) := dk_5 (dq_lk dlaw_v44 (r := 5) (x := 5) rfl)
theorem dlaw_710 : decode code 710 = .ok (.iadd, 1) := dk_96 (dq_lk dlaw_v44 (r := 6) (x := 96) rfl)
theorem dlaw_711 : decode code 711 = .ok (.iaload, 1) := dk_46 (dq_lk dlaw_v44 (r := 7) (x := 46) rfl)
theorem dlaw_712 : decode code 712 = .ok (.invokevirtual 174, 3) := dk_182 (dq_lk dlaw_v44 (r := 8) (x := 182) rfl) (dq_lk dlaw_v44 (r := 9) (x := 0) rfl) (dq_lk dlaw_v44 (r := 10) (x := 174) rfl)
theorem dlaw_715 : decode code 715 = .ok (.istore 6, 2) := dk_54 (dq_lk dlaw_v44 (r := 11) (x := 54) rfl) (dq_lk dlaw_v44 (r := 12) (x := 6) rfl)
theorem dlaw_717 : decode code 717 = .ok (.goto 1176, 3) := dk_167 (dq_lk dlaw_v44 (r := 13) (x := 167) rfl) (dq_lk dlaw_v44 (r := 14) (x := 4) rfl) (dq_lk dlaw_v44 (r := 15) (x := 152) rfl) (by decide +kernel)
theorem dlaw_720 : decode code 720 = .ok (.aload_n 1, 1) := dk_43 (dq_lk dlaw_v45 (r := 0) (x := 43) rfl)
theorem dlaw_721 : decode code 721 = .ok (.aload_n 0, 1) := dk_42 (dq_lk dlaw_v45 (r := 1) (x := 42) rfl)
theorem dlaw_722 : decode code 722 = .ok (.iload 4, 2) := dk_21 (dq_lk dlaw_v45 (r := 2) (x := 21) rfl) (dq_lk dlaw_v45 (r := 3) (x := 4) rfl)
theorem dlaw_724 : decode code 724 = .ok (.iconst 1, 1) := dk_4 (dq_lk dlaw_v45 (r := 4) (x := 4) rfl)
theorem dlaw_725 : decode code 725 = .ok (.iadd, 1) := dk_96 (dq_lk dlaw_v45 (r := 5) (x := 96) rfl)
theorem dlaw_726 : decode code 726 = .ok (.iaload, 1) := dk_46 (dq_lk dlaw_v45 (r := 6) (x := 46) rfl)
theorem dlaw_727 : decode code 727 = .ok (.aload_n 0, 1) := dk_42 (dq_lk dlaw_v45 (r := 7) (x := 42) rfl)
theorem dlaw_728 : decode code 728 = .ok (.iload 4, 2) := dk_21 (dq_lk dlaw_v45 (r := 8) (x := 21) rfl) (dq_lk dlaw_v45 (r := 9) (x := 4) rfl)
theorem dlaw_730 : decode code 730 = .ok (.iconst 2, 1) := dk_5 (dq_lk dlaw_v45 (r := 10) (x := 5) rfl)
theorem dlaw_731 : decode code 731 = .ok (.iadd, 1) := dk_96 (dq_lk dlaw_v45 (r := 11) (x := 96) rfl)
theorem dlaw_732 : decode code 732 = .ok (.iaload, 1) := dk_46 (dq_lk dlaw_v45 (r := 12) (x := 46) rfl)
theorem dlaw_733 : decode code 733 = .ok (.aload_n 0, 1) := dk_42 (dq_lk dlaw_v45 (r := 13) (x := 42) rfl)
theorem dlaw_734 : decode code 734 = .ok (.iload 4, 2) := dk_21 (dq_lk dlaw_v45 (r := 14) (x := 21) rfl) (dq_lk dlaw_v45 (r := 15) (x := 4) rfl)
theorem dlaw_736 : decode code 736 = .ok (.iconst 3, 1) := dk_6 (dq_lk dlaw_v46 (r := 0) (x := 6) rfl)
theorem dlaw_737 : decode code 737 = .ok (.iadd, 1) := dk_96 (dq_lk dlaw_v46 (r := 1) (x := 96) rfl)
theorem dlaw_738 : decode code 738 = .ok (.iaload, 1) := dk_46 (dq_lk dlaw_v46 (r := 2) (x := 46) rfl)
theorem dlaw_739 : decode code 739 = .ok (.aload_n 3, 1) := dk_45 (dq_lk dlaw_v46 (r := 3) (x := 45) rfl)
theorem dlaw_740 : decode code 740 = .ok (.invokestatic 175, 3) := dk_184 (dq_lk dlaw_v46 (r := 4) (x := 184) rfl) (dq_lk dlaw_v46 (r := 5) (x := 0) rfl) (dq_lk dlaw_v46 (r := 6) (x := 175) rfl)
theorem dlaw_743 : decode code 743 = .ok (.istore 5, 2) := dk_54 (dq_lk dlaw_v46 (r := 7) (x := 54) rfl) (dq_lk dlaw_v46 (r := 8) (x := 5) rfl)
theorem dlaw_745 : decode code 745 = .ok (.aload_n 2, 1) := dk_44 (dq_lk dlaw_v46 (r := 9) (x := 44) rfl)
theorem dlaw_746 : decode code 746 = .ok (.aload_n 0, 1) := dk_42 (dq_lk dlaw_v46 (r := 10) (x := 42) rfl)
theorem dlaw_747 : decode code 747 = .ok (.iload 4, 2) := dk_21 (dq_lk dlaw_v46 (r := 11) (x := 21) rfl) (dq_lk dlaw_v46 (r := 12) (x := 4) rfl)
theorem dlaw_749 : decode code 749 = .ok (.iconst 1, 1) := dk_4 (dq_lk dlaw_v46 (r := 13) (x := 4) rfl)
theorem dlaw_750 : decode code 750 = .ok (.iadd, 1) := dk_96 (dq_lk dlaw_v46 (r := 14) (x := 96) rfl)
theorem dlaw_751 : decode code 751 = .ok (.iaload, 1) := dk_46 (dq_lk dlaw_v46 (r := 15) (x := 46) rfl)
theorem dlaw_752 : decode code 752 = .ok (.aload_n 0, 1) := dk_42 (dq_lk dlaw_v47 (r := 0) (x := 42) rfl)
theorem dlaw_753 : decode code 753 = .ok (.iload 4, 2) := dk_21 (dq_lk dlaw_v47 (r := 1) (x := 21) rfl) (dq_lk dlaw_v47 (r := 2) (x := 4) rfl)
theorem dlaw_755 : decode code 755 = .ok (.iconst 2, 1) := dk_5 (dq_lk dlaw_v47 (r := 3) (x := 5) rfl)
theorem dlaw_756 : decode code 756 = .ok (.iadd, 1) := dk_96 (dq_lk dlaw_v47 (r := 4) (x := 96) rfl)
theorem dlaw_757 : decode code 757 = .ok (.iaload, 1) := dk_46 (dq_lk dlaw_v47 (r := 5) (x := 46) rfl)
theorem dlaw_758 : decode code 758 = .ok (.aload_n 0, 1) := dk_42 (dq_lk dlaw_v47 (r := 6) (x := 42) rfl)
theorem dlaw_759 : decode code 759 = .ok (.iload 4, 2) := dk_21 (dq_lk dlaw_v47 (r := 7) (x := 21) rfl) (dq_lk dlaw_v47 (r := 8) (x := 4) rfl)
theorem dlaw_761 : decode code 761 = .ok (.iconst 3, 1) := dk_6 (dq_lk dlaw_v47 (r := 9) (x := 6) rfl)
theorem dlaw_762 : decode code 762 = .ok (.iadd, 1) := dk_96 (dq_lk dlaw_v47 (r := 10) (x := 96) rfl)
theorem dlaw_763 : decode code 763 = .ok (.iaload, 1) := dk_46 (dq_lk dlaw_v47 (r := 11) (x := 46) rfl)
theorem dlaw_764 : decode code 764 = .ok (.invokevirtual 177, 3) := dk_182 (dq_lk dlaw_v47 (r := 12) (x := 182) rfl) (dq_lk dlaw_v47 (r := 13) (x := 0) rfl) (dq_lk dlaw_v47 (r := 14) (x := 177) rfl)
theorem dlaw_767 : decode code 767 = .ok (.istore 6, 2) := dk_54 (dq_lk dlaw_v47 (r := 15) (x := 54) rfl) (dq_lk dlaw_v48 (r := 0) (x := 6) rfl)
theorem dlaw_769 : decode code 769 = .ok (.goto 1124, 3) := dk_167 (dq_lk dlaw_v48 (r := 1) (x := 167) rfl) (dq_lk dlaw_v48 (r := 2) (x := 4) rfl) (dq_lk dlaw_v48 (r := 3) (x := 100) rfl) (by decide +kernel)
theorem dlaw_772 : decode code 772 = .ok (.aload_n 1, 1) := dk_43 (dq_lk dlaw_v48 (r := 4) (x := 43) rfl)
theorem dlaw_773 : decode code 773 = .ok (.aload_n 0, 1) := dk_42 (dq_lk dlaw_v48 (r := 5) (x := 42) rfl)
theorem dlaw_774 : decode code 774 = .ok (.iload 4, 2) := dk_21 (dq_lk dlaw_v48 (r := 6) (x := 21) rfl) (dq_lk dlaw_v48 (r := 7) (x := 4) rfl)
theorem dlaw_776 : decode code 776 = .ok (.iconst 1, 1) := dk_4 (dq_lk dlaw_v48 (r := 8) (x := 4) rfl)
theorem dlaw_777 : decode code 777 = .ok (.iadd, 1) := dk_96 (dq_lk dlaw_v48 (r := 9) (x := 96) rfl)
theorem dlaw_778 : decode code 778 = .ok (.iaload, 1) := dk_46 (dq_lk dlaw_v48 (r := 10) (x := 46) rfl)
theorem dlaw_779 : decode code 779 = .ok (.aload_n 0, 1) := dk_42 (dq_lk dlaw_v48 (r := 11) (x := 42) rfl)
theorem dlaw_780 : decode code 780 = .ok (.iload 4, 2) := dk_21 (dq_lk dlaw_v48 (r := 12) (x := 21) rfl) (dq_lk dlaw_v48 (r := 13) (x := 4) rfl)
theorem dlaw_782 : decode code 782 = .ok (.iconst 2, 1) := dk_5 (dq_lk dlaw_v48 (r := 14) (x := 5) rfl)
theorem dlaw_783 : decode code 783 = .ok (.iadd, 1) := dk_96 (dq_lk dlaw_v48 (r := 15) (x := 96) rfl)
theorem dlaw_784 : decode code 784 = .ok (.iaload, 1) := dk_46 (dq_lk dlaw_v49 (r := 0) (x := 46) rfl)
theorem dlaw_785 : decode code 785 = .ok (.aload_n 3, 1) := dk_45 (dq_lk dlaw_v49 (r := 1) (x := 45) rfl)
theorem dlaw_786 : decode code 786 = .ok (.invokestatic 178, 3) := dk_184 (dq_lk dlaw_v49 (r := 2) (x := 184) rfl) (dq_lk dlaw_v49 (r := 3) (x := 0) rfl) (dq_lk dlaw_v49 (r := 4) (x := 178) rfl)
theorem dlaw_789 : decode code 789 = .ok (.istore 5, 2) := dk_54 (dq_lk dlaw_v49 (r := 5) (x := 54) rfl) (dq_lk dlaw_v49 (r := 6) (x := 5) rfl)
theorem dlaw_791 : decode code 791 = .ok (.aload_n 2, 1) := dk_44 (dq_lk dlaw_v49 (r := 7) (x := 44) rfl)
theorem dlaw_792 : decode code 792 = .ok (.aload_n 0, 1) := dk_42 (dq_lk dlaw_v49 (r := 8) (x := 42) rfl)
theorem dlaw_793 : decode code 793 = .ok (.iload 4, 2) := dk_21 (dq_lk dlaw_v49 (r := 9) (x := 21) rfl) (dq_lk dlaw_v49 (r := 10) (x := 4) rfl)
theorem dlaw_795 : decode code 795 = .ok (.iconst 1, 1) := dk_4 (dq_lk dlaw_v49 (r := 11) (x := 4) rfl)
theorem dlaw_796 : decode code 796 = .ok (.iadd, 1) := dk_96 (dq_lk dlaw_v49 (r := 12) (x := 96) rfl)
theorem dlaw_797 : decode code 797 = .ok (.iaload, 1) := dk_46 (dq_lk dlaw_v49 (r := 13) (x := 46) rfl)
theorem dlaw_798 : decode code 798 = .ok (.aload_n 0, 1) := dk_42 (dq_lk dlaw_v49 (r := 14) (x := 42) rfl)
theorem dlaw_799 : decode code 799 = .ok (.iload 4, 2) := dk_21 (dq_lk dlaw_v49 (r := 15) (x := 21) rfl) (dq_lk dlaw_v50 (r := 0) (x := 4) rfl)
theorem dlaw_801 : decode code 801 = .ok (.iconst 2, 1) := dk_5 (dq_lk dlaw_v50 (r := 1) (x := 5) rfl)
theorem dlaw_802 : decode code 802 = .ok (.iadd, 1) := dk_96 (dq_lk dlaw_v50 (r := 2) (x := 96) rfl)
theorem dlaw_803 : decode code 803 = .ok (.iaload, 1) := dk_46 (dq_lk dlaw_v50 (r := 3) (x := 46) rfl)
theorem dlaw_804 : decode code 804 = .ok (.invokevirtual 180, 3) := dk_182 (dq_lk dlaw_v50 (r := 4) (x := 182) rfl) (dq_lk dlaw_v50 (r := 5) (x := 0) rfl) (dq_lk dlaw_v50 (r := 6) (x := 180) rfl)
theorem dlaw_807 : decode code 807 = .ok (.istore 6, 2) := dk_54 (dq_lk dlaw_v50 (r := 7) (x := 54) rfl) (dq_lk dlaw_v50 (r := 8) (x := 6) rfl)
theorem dlaw_809 : decode code 809 = .ok (.goto 1084, 3) := dk_167 (dq_lk dlaw_v50 (r := 9) (x := 167) rfl) (dq_lk dlaw_v50 (r := 10) (x := 4) rfl) (dq_lk dlaw_v50 (r := 11) (x := 60) rfl) (by decide +kernel)
theorem dlaw_812 : decode code 812 = .ok (.aload_n 1, 1) := dk_43 (dq_lk dlaw_v50 (r := 12) (x := 43) rfl)
theorem dlaw_813 : decode code 813 = .ok (.aload_n 0, 1) := dk_42 (dq_lk dlaw_v50 (r := 13) (x := 42) rfl)
theorem dlaw_814 : decode code 814 = .ok (.iload 4, 2) := dk_21 (dq_lk dlaw_v50 (r := 14) (x := 21) rfl) (dq_lk dlaw_v50 (r := 15) (x := 4) rfl)
theorem dlaw_816 : decode code 816 = .ok (.iconst 1, 1) := dk_4 (dq_lk dlaw_v51 (r := 0) (x := 4) rfl)
theorem dlaw_817 : decode code 817 = .ok (.iadd, 1) := dk_96 (dq_lk dlaw_v51 (r := 1) (x := 96) rfl)
theorem dlaw_818 : decode code 818 = .ok (.iaload, 1) := dk_46 (dq_lk dlaw_v51 (r := 2) (x := 46) rfl)
theorem dlaw_819 : decode code 819 = .ok (.aload_n 0, 1) := dk_42 (dq_lk dlaw_v51 (r := 3) (x := 42) rfl)
theorem dlaw_820 : decode code 820 = .ok (.iload 4, 2) := dk_21 (dq_lk dlaw_v51 (r := 4) (x := 21) rfl) (dq_lk dlaw_v51 (r := 5) (x := 4) rfl)
theorem dlaw_822 : decode code 822 = .ok (.iconst 2, 1) := dk_5 (dq_lk dlaw_v51 (r := 6) (x := 5) rfl)
theorem dlaw_823 : decode code 823 = .ok (.iadd, 1) := dk_96 (dq_lk dlaw_v51 (r := 7) (x := 96) rfl)
theorem dlaw_824 : decode code 824 = .ok (.iaload, 1) := dk_46 (dq_lk dlaw_v51 (r := 8) (x := 46) rfl)
theorem dlaw_825 : decode code 825 = .ok (.aload_n 0, 1) := dk_42 (dq_lk dlaw_v51 (r := 9) (x := 42) rfl)
theorem dlaw_826 : decode code 826 = .ok (.iload 4, 2) := dk_21 (dq_lk dlaw_v51 (r := 10) (x := 21) rfl) (dq_lk dlaw_v51 (r := 11) (x := 4) rfl)
theorem dlaw_828 : decode code 828 = .ok (.iconst 3, 1) := dk_6 (dq_lk dlaw_v51 (r := 12) (x := 6) rfl)
theorem dlaw_829 : decode code 829 = .ok (.iadd, 1) := dk_96 (dq_lk dlaw_v51 (r := 13) (x := 96) rfl)
theorem dlaw_830 : decode code 830 = .ok (.iaload, 1) := dk_46 (dq_lk dlaw_v51 (r := 14) (x := 46) rfl)
theorem dlaw_831 : decode code 831 = .ok (.aload_n 0, 1) := dk_42 (dq_lk dlaw_v51 (r := 15) (x := 42) rfl)
theorem dlaw_832 : decode code 832 = .ok (.iload 4, 2) := dk_21 (dq_lk dlaw_v52 (r := 0) (x := 21) rfl) (dq_lk dlaw_v52 (r := 1) (x := 4) rfl)
theorem dlaw_834 : decode code 834 = .ok (.iconst 4, 1) := dk_7 (dq_lk dlaw_v52 (r := 2) (x := 7) rfl)
theorem dlaw_835 : decode code 835 = .ok (.iadd, 1) := dk_96 (dq_lk dlaw_v52 (r := 3) (x := 96) rfl)
theorem dlaw_836 : decode code 836 = .ok (.iaload, 1) := dk_46 (dq_lk dlaw_v52 (r := 4) (x := 46) rfl)
theorem dlaw_837 : decode code 837 = .ok (.aload_n 0, 1) := dk_42 (dq_lk dlaw_v52 (r := 5) (x := 42) rfl)
theorem dlaw_838 : decode code 838 = .ok (.iload 4, 2) := dk_21 (dq_lk dlaw_v52 (r := 6) (x := 21) rfl) (dq_lk dlaw_v52 (r := 7) (x := 4) rfl)
theorem dlaw_840 : decode code 840 = .ok (.iconst 5, 1) := dk_8 (dq_lk dlaw_v52 (r := 8) (x := 8) rfl)
theorem dlaw_841 : decode code 841 = .ok (.iadd, 1) := dk_96 (dq_lk dlaw_v52 (r := 9) (x := 96) rfl)
theorem dlaw_842 : decode code 842 = .ok (.iaload, 1) := dk_46 (dq_lk dlaw_v52 (r := 10) (x := 46) rfl)
theorem dlaw_843 : decode code 843 = .ok (.aload_n 0, 1) := dk_42 (dq_lk dlaw_v52 (r := 11) (x := 42) rfl)
theorem dlaw_844 : decode code 844 = .ok (.iload 4, 2) := dk_21 (dq_lk dlaw_v52 (r := 12) (x := 21) rfl) (dq_lk dlaw_v52 (r := 13) (x := 4) rfl)
theorem dlaw_846 : decode code 846 = .ok (.bipush 6, 2) := dk_16 (dq_lk dlaw_v52 (r := 14) (x := 16) rfl) (dq_lk dlaw_v52 (r := 15) (x := 6) rfl) (by decide +kernel)
theorem dlaw_848 : decode code 848 = .ok (.iadd, 1) := dk_96 (dq_lk dlaw_v53 (r := 0) (x := 96) rfl)
theorem dlaw_849 : decode code 849 = .ok (.iaload, 1) := dk_46 (dq_lk dlaw_v53 (r := 1) (x := 46) rfl)
theorem dlaw_850 : decode code 850 = .ok (.aload_n 3, 1) := dk_45 (dq_lk dlaw_v53 (r := 2) (x := 45) rfl)
theorem dlaw_851 : decode code 851 = .ok (.invokestatic 181, 3) := dk_184 (dq_lk dlaw_v53 (r := 3) (x := 184) rfl) (dq_lk dlaw_v53 (r := 4) (x := 0) rfl) (dq_lk dlaw_v53 (r := 5) (x := 181) rfl)
theorem dlaw_854 : decode code 854 = .ok (.istore 5, 2) := dk_54 (dq_lk dlaw_v53 (r := 6) (x := 54) rfl) (dq_lk dlaw_v53 (r := 7) (x := 5) rfl)
theorem dlaw_856 : decode code 856 = .ok (.aload_n 2, 1) := dk_44 (dq_lk dlaw_v53 (r := 8) (x := 44) rfl)
theorem dlaw_857 : decode code 857 = .ok (.aload_n 0, 1) := dk_42 (dq_lk dlaw_v53 (r := 9) (x := 42) rfl)
theorem dlaw_858 : decode code 858 = .ok (.iload 4, 2) := dk_21 (dq_lk dlaw_v53 (r := 10) (x := 21) rfl) (dq_lk dlaw_v53 (r := 11) (x := 4) rfl)
theorem dlaw_860 : decode code 860 = .ok (.iconst 1, 1) := dk_4 (dq_lk dlaw_v53 (r := 12) (x := 4) rfl)
theorem dlaw_861 : decode code 861 = .ok (.iadd, 1) := dk_96 (dq_lk dlaw_v53 (r := 13) (x := 96) rfl)
theorem dlaw_862 : decode code 862 = .ok (.iaload, 1) := dk_46 (dq_lk dlaw_v53 (r := 14) (x := 46) rfl)
theorem dlaw_863 : decode code 863 = .ok (.aload_n 0, 1) := dk_42 (dq_lk dlaw_v53 (r := 15) (x := 42) rfl)
theorem dlaw_864 : decode code 864 = .ok (.iload 4, 2) := dk_21 (dq_lk dlaw_v54 (r := 0) (x := 21) rfl) (dq_lk dlaw_v54 (r := 1) (x := 4) rfl)
theorem dlaw_866 : decode code 866 = .ok (.iconst 2, 1) := dk_5 (dq_lk dlaw_v54 (r := 2) (x := 5) rfl)
theorem dlaw_867 : decode code 867 = .ok (.iadd, 1) := dk_96 (dq_lk dlaw_v54 (r := 3) (x := 96) rfl)
theorem dlaw_868 : decode code 868 = .ok (.iaload, 1) := dk_46 (dq_lk dlaw_v54 (r := 4) (x := 46) rfl)
theorem dlaw_869 : decode code 869 = .ok (.aload_n 0, 1) := dk_42 (dq_lk dlaw_v54 (r := 5) (x := 42) rfl)
theorem dlaw_870 : decode code 870 = .ok (.iload 4, 2) := dk_21 (dq_lk dlaw_v54 (r := 6) (x := 21) rfl) (dq_lk dlaw_v54 (r := 7) (x := 4) rfl)
theorem dlaw_872 : decode code 872 = .ok (.iconst 3, 1) := dk_6 (dq_lk dlaw_v54 (r := 8) (x := 6) rfl)
theorem dlaw_873 : decode code 873 = .ok (.iadd, 1) := dk_96 (dq_lk dlaw_v54 (r := 9) (x := 96) rfl)
theorem dlaw_874 : decode code 874 = .ok (.iaload, 1) := dk_46 (dq_lk dlaw_v54 (r := 10) (x := 46) rfl)
theorem dlaw_875 : decode code 875 = .ok (.aload_n 0, 1) := dk_42 (dq_lk dlaw_v54 (r := 11) (x := 42) rfl)
theorem dlaw_876 : decode code 876 = .ok (.iload 4, 2) := dk_21 (dq_lk dlaw_v54 (r := 12) (x := 21) rfl) (dq_lk dlaw_v54 (r := 13) (x := 4) rfl)
theorem dlaw_878 : decode code 878 = .ok (.iconst 4, 1) := dk_7 (dq_lk dlaw_v54 (r := 14) (x := 7) rfl)
theorem dlaw_879 : decode code 879 = .ok (.iadd, 1) := dk_96 (dq_lk dlaw_v54 (r := 15) (x := 96) rfl)
theorem dlaw_880 : decode code 880 = .ok (.iaload, 1) := dk_46 (dq_lk dlaw_v55 (r := 0) (x := 46) rfl)
theorem dlaw_881 : decode code 881 = .ok (.aload_n 0, 1) := dk_42 (dq_lk dlaw_v55 (r := 1) (x := 42) rfl)
theorem dlaw_882 : decode code 882 = .ok (.iload 4, 2) := dk_21 (dq_lk dlaw_v55 (r := 2) (x := 21) rfl) (dq_lk dlaw_v55 (r := 3) (x := 4) rfl)
theorem dlaw_884 : decode code 884 = .ok (.iconst 5, 1) := dk_8 (dq_lk dlaw_v55 (r := 4) (x := 8) rfl)
theorem dlaw_885 : decode code 885 = .ok (.iadd, 1) := dk_96 (dq_lk dlaw_v55 (r := 5) (x := 96) rfl)
theorem dlaw_886 : decode code 886 = .ok (.iaload, 1) := dk_46 (dq_lk dlaw_v55 (r := 6) (x := 46) rfl)
theorem dlaw_887 : decode code 887 = .ok (.aload_n 0, 1) := dk_42 (dq_lk dlaw_v55 (r := 7) (x := 42) rfl)
theorem dlaw_888 : decode code 888 = .ok (.iload 4, 2) := dk_21 (dq_lk dlaw_v55 (r := 8) (x := 21) rfl) (dq_lk dlaw_v55 (r := 9) (x := 4) rfl)
theorem dlaw_890 : decode code 890 = .ok (.bipush 6, 2) := dk_16 (dq_lk dlaw_v55 (r := 10) (x := 16) rfl) (dq_lk dlaw_v55 (r := 11) (x := 6) rfl) (by decide +kernel)
theorem dlaw_892 : decode code 892 = .ok (.iadd, 1) := dk_96 (dq_lk dlaw_v55 (r := 12) (x := 96) rfl)
theorem dlaw_893 : decode code 893 = .ok (.iaload, 1) := dk_46 (dq_lk dlaw_v55 (r := 13) (x := 46) rfl)
theorem dlaw_894 : decode code 894 = .ok (.invokevirtual 184, 3) := dk_182 (dq_lk dlaw_v55 (r := 14) (x := 182) rfl) (dq_lk dlaw_v55 (r := 15) (x := 0) rfl) (dq_lk dlaw_v56 (r := 0) (x := 184) rfl)
theorem dlaw_897 : decode code 897 = .ok (.istore 6, 2) := dk_54 (dq_lk dlaw_v56 (r := 1) (x := 54) rfl) (dq_lk dlaw_v56 (r := 2) (x := 6) rfl)
theorem dlaw_899 : decode code 899 = .ok (.goto 994, 3) := dk_167 (dq_lk dlaw_v56 (r := 3) (x := 167) rfl) (dq_lk dlaw_v56 (r := 4) (x := 3) rfl) (dq_lk dlaw_v56 (r := 5) (x := 226) rfl) (by decide +kernel)
theorem dlaw_902 : decode code 902 = .ok (.aload_n 1, 1) := dk_43 (dq_lk dlaw_v56 (r := 6) (x := 43) rfl)
theorem dlaw_903 : decode code 903 = .ok (.aload_n 0, 1) := dk_42 (dq_lk dlaw_v56 (r := 7) (x := 42) rfl)
theorem dlaw_904 : decode code 904 = .ok (.iload 4, 2) := dk_21 (dq_lk dlaw_v56 (r := 8) (x := 21) rfl) (dq_lk dlaw_v56 (r := 9) (x := 4) rfl)
theorem dlaw_906 : decode code 906 = .ok (.iconst 1, 1) := dk_4 (dq_lk dlaw_v56 (r := 10) (x := 4) rfl)
theorem dlaw_907 : decode code 907 = .ok (.iadd, 1) := dk_96 (dq_lk dlaw_v56 (r := 11) (x := 96) rfl)
theorem dlaw_908 : decode code 908 = .ok (.iaload, 1) := dk_46 (dq_lk dlaw_v56 (r := 12) (x := 46) rfl)
theorem dlaw_909 : decode code 909 = .ok (.aload_n 0, 1) := dk_42 (dq_lk dlaw_v56 (r := 13) (x := 42) rfl)
theorem dlaw_910 : decode code 910 = .ok (.iload 4, 2) := dk_21 (dq_lk dlaw_v56 (r := 14) (x := 21) rfl) (dq_lk dlaw_v56 (r := 15) (x := 4) rfl)
theorem dlaw_912 : decode code 912 = .ok (.iconst 2, 1) := dk_5 (dq_lk dlaw_v57 (r := 0) (x := 5) rfl)
theorem dlaw_913 : decode code 913 = .ok (.iadd, 1) := dk_96 (dq_lk dlaw_v57 (r := 1) (x := 96) rfl)
theorem dlaw_914 : decode code 914 = .ok (.iaload, 1) := dk_46 (dq_lk dlaw_v57 (r := 2) (x := 46) rfl)
theorem dlaw_915 : decode code 915 = .ok (.aload_n 0, 1) := dk_42 (dq_lk dlaw_v57 (r := 3) (x := 42) rfl)
theorem dlaw_916 : decode code 916 = .ok (.iload 4, 2) := dk_21 (dq_lk dlaw_v57 (r := 4) (x := 21) rfl) (dq_lk dlaw_v57 (r := 5) (x := 4) rfl)
theorem dlaw_918 : decode code 918 = .ok (.iconst 3, 1) := dk_6 (dq_lk dlaw_v57 (r := 6) (x := 6) rfl)
theorem dlaw_919 : decode code 919 = .ok (.iadd, 1) := dk_96 (dq_lk dlaw_v57 (r := 7) (x := 96) rfl)
theorem dlaw_920 : decode code 920 = .ok (.iaload, 1) := dk_46 (dq_lk dlaw_v57 (r := 8) (x := 46) rfl)
theorem dlaw_921 : decode code 921 = .ok (.aload_n 3, 1) := dk_45 (dq_lk dlaw_v57 (r := 9) (x := 45) rfl)
theorem dlaw_922 : decode code 922 = .ok (.invokestatic 185, 3) := dk_184 (dq_lk dlaw_v57 (r := 10) (x := 184) rfl) (dq_lk dlaw_v57 (r := 11) (x := 0) rfl) (dq_lk dlaw_v57 (r := 12) (x := 185) rfl)
theorem dlaw_925 : decode code 925 = .ok (.istore 5, 2) := dk_54 (dq_lk dlaw_v57 (r := 13) (x := 54) rfl) (dq_lk dlaw_v57 (r := 14) (x := 5) rfl)
theorem dlaw_927 : decode code 927 = .ok (.aload_n 2, 1) := dk_44 (dq_lk dlaw_v57 (r := 15) (x := 44) rfl)
theorem dlaw_928 : decode code 928 = .ok (.aload_n 0, 1) := dk_42 (dq_lk dlaw_v58 (r := 0) (x := 42) rfl)
theorem dlaw_929 : decode code 929 = .ok (.iload 4, 2) := dk_21 (dq_lk dlaw_v58 (r := 1) (x := 21) rfl) (dq_lk dlaw_v58 (r := 2) (x := 4) rfl)
theorem dlaw_931 : decode code 931 = .ok (.iconst 1, 1) := dk_4 (dq_lk dlaw_v58 (r := 3) (x := 4) rfl)
theorem dlaw_932 : decode code 932 = .ok (.iadd, 1) := dk_96 (dq_lk dlaw_v58 (r := 4) (x := 96) rfl)
theorem dlaw_933 : decode code 933 = .ok (.iaload, 1) := dk_46 (dq_lk dlaw_v58 (r := 5) (x := 46) rfl)
theorem dlaw_934 : decode code 934 = .ok (.aload_n 0, 1) := dk_42 (dq_lk dlaw_v58 (r := 6) (x := 42) rfl)
theorem dlaw_935 : decode code 935 = .ok (.iload 4, 2) := dk_21 (dq_lk dlaw_v58 (r := 7) (x := 21) rfl) (dq_lk dlaw_v58 (r := 8) (x := 4) rfl)
theorem dlaw_937 : decode code 937 = .ok (.iconst 2, 1) := dk_5 (dq_lk dlaw_v58 (r := 9) (x := 5) rfl)
theorem dlaw_938 : decode code 938 = .ok (.iadd, 1) := dk_96 (dq_lk dlaw_v58 (r := 10) (x := 96) rfl)
theorem dlaw_939 : decode code 939 = .ok (.iaload, 1) := dk_46 (dq_lk dlaw_v58 (r := 11) (x := 46) rfl)
theorem dlaw_940 : decode code 940 = .ok (.aload_n 0, 1) := dk_42 (dq_lk dlaw_v58 (r := 12) (x := 42) rfl)
theorem dlaw_941 : decode code 941 = .ok (.iload 4, 2) := dk_21 (dq_lk dlaw_v58 (r := 13) (x := 21) rfl) (dq_lk dlaw_v58 (r := 14) (x := 4) rfl)
theorem dlaw_943 : decode code 943 = .ok (.iconst 3, 1) := dk_6 (dq_lk dlaw_v58 (r := 15) (x := 6) rfl)
theorem dlaw_944 : decode code 944 = .ok (.iadd, 1) := dk_96 (dq_lk dlaw_v59 (r := 0) (x := 96) rfl)
theorem dlaw_945 : decode code 945 = .ok (.iaload, 1) := dk_46 (dq_lk dlaw_v59 (r := 1) (x := 46) rfl)
theorem dlaw_946 : decode code 946 = .ok (.invokevirtual 187, 3) := dk_182 (dq_lk dlaw_v59 (r := 2) (x := 182) rfl) (dq_lk dlaw_v59 (r := 3) (x := 0) rfl) (dq_lk dlaw_v59 (r := 4) (x := 187) rfl)
theorem dlaw_949 : decode code 949 = .ok (.istore 6, 2) := dk_54 (dq_lk dlaw_v59 (r := 5) (x := 54) rfl) (dq_lk dlaw_v59 (r := 6) (x := 6) rfl)
theorem dlaw_951 : decode code 951 = .ok (.goto 942, 3) := dk_167 (dq_lk dlaw_v59 (r := 7) (x := 167) rfl) (dq_lk dlaw_v59 (r := 8) (x := 3) rfl) (dq_lk dlaw_v59 (r := 9) (x := 174) rfl) (by decide +kernel)
theorem dlaw_954 : decode code 954 = .ok (.aload_n 1, 1) := dk_43 (dq_lk dlaw_v59 (r := 10) (x := 43) rfl)
theorem dlaw_955 : decode code 955 = .ok (.aload_n 0, 1) := dk_42 (dq_lk dlaw_v59 (r := 11) (x := 42) rfl)
theorem dlaw_956 : decode code 956 = .ok (.iload 4, 2) := dk_21 (dq_lk dlaw_v59 (r := 12) (x := 21) rfl) (dq_lk dlaw_v59 (r := 13) (x := 4) rfl)
theorem dlaw_958 : decode code 958 = .ok (.iconst 1, 1) := dk_4 (dq_lk dlaw_v59 (r := 14) (x := 4) rfl)
theorem dlaw_959 : decode code 959 = .ok (.iadd, 1) := dk_96 (dq_lk dlaw_v59 (r := 15) (x := 96) rfl)
theorem dlaw_960 : decode code 960 = .ok (.iaload, 1) := dk_46 (dq_lk dlaw_v60 (r := 0) (x := 46) rfl)
theorem dlaw_961 : decode code 961 = .ok (.aload_n 0, 1) := dk_42 (dq_lk dlaw_v60 (r := 1) (x := 42) rfl)
theorem dlaw_962 : decode code 962 = .ok (.iload 4, 2) := dk_21 (dq_lk dlaw_v60 (r := 2) (x := 21) rfl) (dq_lk dlaw_v60 (r := 3) (x := 4) rfl)
theorem dlaw_964 : decode code 964 = .ok (.iconst 2, 1) := dk_5 (dq_lk dlaw_v60 (r := 4) (x := 5) rfl)
theorem dlaw_965 : decode code 965 = .ok (.iadd, 1) := dk_96 (dq_lk dlaw_v60 (r := 5) (x := 96) rfl)
theorem dlaw_966 : decode code 966 = .ok (.iaload, 1) := dk_46 (dq_lk dlaw_v60 (r := 6) (x := 46) rfl)
theorem dlaw_967 : decode code 967 = .ok (.aload_n 0, 1) := dk_42 (dq_lk dlaw_v60 (r := 7) (x := 42) rfl)
theorem dlaw_968 : decode code 968 = .ok (.iload 4, 2) := dk_21 (dq_lk dlaw_v60 (r := 8) (x := 21) rfl) (dq_lk dlaw_v60 (r := 9) (x := 4) rfl)
theorem dlaw_970 : decode code 970 = .ok (.iconst 3, 1) := dk_6 (dq_lk dlaw_v60 (r := 10) (x := 6) rfl)
theorem dlaw_971 : decode code 971 = .ok (.iadd, 1) := dk_96 (dq_lk dlaw_v60 (r := 11) (x := 96) rfl)
theorem dlaw_972 : decode code 972 = .ok (.iaload, 1) := dk_46 (dq_lk dlaw_v60 (r := 12) (x := 46) rfl)
theorem dlaw_973 : decode code 973 = .ok (.aload_n 0, 1) := dk_42 (dq_lk dlaw_v60 (r := 13) (x := 42) rfl)
theorem dlaw_974 : decode code 974 = .ok (.iload 4, 2) := dk_21 (dq_lk dlaw_v60 (r := 14) (x := 21) rfl) (dq_lk dlaw_v60 (r := 15) (x := 4) rfl)
theorem dlaw_976 : decode code 976 = .ok (.iconst 4, 1) := dk_7 (dq_lk dlaw_v61 (r := 0) (x := 7) rfl)
theorem dlaw_977 : decode code 977 = .ok (.iadd, 1) := dk_96 (dq_lk dlaw_v61 (r := 1) (x := 96) rfl)
theorem dlaw_978 : decode code 978 = .ok (.iaload, 1) := dk_46 (dq_lk dlaw_v61 (r := 2) (x := 46) rfl)
theorem dlaw_979 : decode code 979 = .ok (.ifCond .eq 7, 3) := dk_153 (dq_lk dlaw_v61 (r := 3) (x := 153) rfl) (dq_lk dlaw_v61 (r := 4) (x := 0) rfl) (dq_lk dlaw_v61 (r := 5) (x := 7) rfl) (by decide +kernel)
theorem dlaw_982 : decode code 982 = .ok (.iconst 1, 1) := dk_4 (dq_lk dlaw_v61 (r := 6) (x := 4) rfl)
theorem dlaw_983 : decode code 983 = .ok (.goto 4, 3) := dk_167 (dq_lk dlaw_v61 (r := 7) (x := 167) rfl) (dq_lk dlaw_v61 (r := 8) (x := 0) rfl) (dq_lk dlaw_v61 (r := 9) (x := 4) rfl) (by decide +kernel)
theorem dlaw_986 : decode code 986 = .ok (.iconst 0, 1) := dk_3 (dq_lk dlaw_v61 (r := 10) (x := 3) rfl)
theorem dlaw_987 : decode code 987 = .ok (.aload_n 3, 1) := dk_45 (dq_lk dlaw_v61 (r := 11) (x := 45) rfl)
theorem dlaw_988 : decode code 988 = .ok (.invokestatic 188, 3) := dk_184 (dq_lk dlaw_v61 (r := 12) (x := 184) rfl) (dq_lk dlaw_v61 (r := 13) (x := 0) rfl) (dq_lk dlaw_v61 (r := 14) (x := 188) rfl)
theorem dlaw_991 : decode code 991 = .ok (.istore 5, 2) := dk_54 (dq_lk dlaw_v61 (r := 15) (x := 54) rfl) (dq_lk dlaw_v62 (r := 0) (x := 5) rfl)
theorem dlaw_993 : decode code 993 = .ok (.aload_n 2, 1) := dk_44 (dq_lk dlaw_v62 (r := 1) (x := 44) rfl)
theorem dlaw_994 : decode code 994 = .ok (.aload_n 0, 1) := dk_42 (dq_lk dlaw_v62 (r := 2) (x := 42) rfl)
theorem dlaw_995 : decode code 995 = .ok (.iload 4, 2) := dk_21 (dq_lk dlaw_v62 (r := 3) (x := 21) rfl) (dq_lk dlaw_v62 (r := 4) (x := 4) rfl)
theorem dlaw_997 : decode code 997 = .ok (.iconst 1, 1) := dk_4 (dq_lk dlaw_v62 (r := 5) (x := 4) rfl)
theorem dlaw_998 : decode code 998 = .ok (.iadd, 1) := dk_96 (dq_lk dlaw_v62 (r := 6) (x := 96) rfl)
theorem dlaw_999 : decode code 999 = .ok (.iaload, 1) := dk_46 (dq_lk dlaw_v62 (r := 7) (x := 46) rfl)
theorem dlaw_1000 : decode code 1000 = .ok (.aload_n 0, 1) := dk_42 (dq_lk dlaw_v62 (r := 8) (x := 42) rfl)
theorem dlaw_1001 : decode code 1001 = .ok (.iload 4, 2) := dk_21 (dq_lk dlaw_v62 (r := 9) (x := 21) rfl) (dq_lk dlaw_v62 (r := 10) (x := 4) rfl)
theorem dlaw_1003 : decode code 1003 = .ok (.iconst 2, 1) := dk_5 (dq_lk dlaw_v62 (r := 11) (x := 5) rfl)
theorem dlaw_1004 : decode code 1004 = .ok (.iadd, 1) := dk_96 (dq_lk dlaw_v62 (r := 12) (x := 96) rfl)
theorem dlaw_1005 : decode code 1005 = .ok (.iaload, 1) := dk_46 (dq_lk dlaw_v62 (r := 13) (x := 46) rfl)
theorem dlaw_1006 : decode code 1006 = .ok (.aload_n 0, 1) := dk_42 (dq_lk dlaw_v62 (r := 14) (x := 42) rfl)
theorem dlaw_1007 : decode code 1007 = .ok (.iload 4, 2) := dk_21 (dq_lk dlaw_v62 (r := 15) (x := 21) rfl) (dq_lk dlaw_v63 (r := 0) (x := 4) rfl)
theorem dlaw_1009 : decode code 1009 = .ok (.iconst 3, 1) := dk_6 (dq_lk dlaw_v63 (r := 1) (x := 6) rfl)
theorem dlaw_1010 : decode code 1010 = .ok (.iadd, 1) := dk_96 (dq_lk dlaw_v63 (r := 2) (x := 96) rfl)
theorem dlaw_1011 : decode code 1011 = .ok (.iaload, 1) := dk_46 (dq_lk dlaw_v63 (r := 3) (x := 46) rfl)
theorem dlaw_1012 : decode code 1012 = .ok (.aload_n 0, 1) := dk_42 (dq_lk dlaw_v63 (r := 4) (x := 42) rfl)
theorem dlaw_1013 : decode code 1013 = .ok (.iload 4, 2) := dk_21 (dq_lk dlaw_v63 (r := 5) (x := 21) rfl) (dq_lk dlaw_v63 (r := 6) (x := 4) rfl)
theorem dlaw_1015 : decode code 1015 = .ok (.iconst 4, 1) := dk_7 (dq_lk dlaw_v63 (r := 7) (x := 7) rfl)
theorem dlaw_1016 : decode code 1016 = .ok (.iadd, 1) := dk_96 (dq_lk dlaw_v63 (r := 8) (x := 96) rfl)
theorem dlaw_1017 : decode code 1017 = .ok (.iaload, 1) := dk_46 (dq_lk dlaw_v63 (r := 9) (x := 46) rfl)
theorem dlaw_1018 : decode code 1018 = .ok (.ifCond .eq 7, 3) := dk_153 (dq_lk dlaw_v63 (r := 10) (x := 153) rfl) (dq_lk dlaw_v63 (r := 11) (x := 0) rfl) (dq_lk dlaw_v63 (r := 12) (x := 7) rfl) (by decide +kernel)
theorem dlaw_1021 : decode code 1021 = .ok (.iconst 1, 1) := dk_4 (dq_lk dlaw_v63 (r := 13) (x := 4) rfl)
theorem dlaw_1022 : decode code 1022 = .ok (.goto 4, 3) := dk_167 (dq_lk dlaw_v63 (r := 14) (x := 167) rfl) (dq_lk dlaw_v63 (r := 15) (x := 0) rfl) (dq_lk dlaw_v64 (r := 0) (x := 4) rfl) (by decide +kernel)
theorem dlaw_1025 : decode code 1025 = .ok (.iconst 0, 1) := dk_3 (dq_lk dlaw_v64 (r := 1) (x := 3) rfl)
theorem dlaw_1026 : decode code 1026 = .ok (.invokevirtual 190, 3) := dk_182 (dq_lk dlaw_v64 (r := 2) (x := 182) rfl) (dq_lk dlaw_v64 (r := 3) (x := 0) rfl) (dq_lk dlaw_v64 (r := 4) (x := 190) rfl)
theorem dlaw_1029 : decode code 1029 = .ok (.istore 6, 2) := dk_54 (dq_lk dlaw_v64 (r := 5) (x := 54) rfl) (dq_lk dlaw_v64 (r := 6) (x := 6) rfl)
theorem dlaw_1031 : decode code 1031 = .ok (.goto 862, 3) := dk_167 (dq_lk dlaw_v64 (r := 7) (x := 167) rfl) (dq_lk dlaw_v64 (r := 8) (x := 3) rfl) (dq_lk dlaw_v64 (r := 9) (x := 94) rfl) (by decide +kernel)
theorem dlaw_1034 : decode code 1034 = .ok (.aload_n 1, 1) := dk_43 (dq_lk dlaw_v64 (r := 10) (x := 43) rfl)
theorem dlaw_1035 : decode code 1035 = .ok (.aload_n 0, 1) := dk_42 (dq_lk dlaw_v64 (r := 11) (x := 42) rfl)
theorem dlaw_1036 : decode code 1036 = .ok (.iload 4, 2) := dk_21 (dq_lk dlaw_v64 (r := 12) (x := 21) rfl) (dq_lk dlaw_v64 (r := 13) (x := 4) rfl)
theorem dlaw_1038 : decode code 1038 = .ok (.iconst 1, 1) := dk_4 (dq_lk dlaw_v64 (r := 14) (x := 4) rfl)
theorem dlaw_1039 : decode code 1039 = .ok (.iadd, 1) := dk_96 (dq_lk dlaw_v64 (r := 15) (x := 96) rfl)
theorem dlaw_1040 : decode code 1040 = .ok (.iaload, 1) := dk_46 (dq_lk dlaw_v65 (r := 0) (x := 46) rfl)
theorem dlaw_1041 : decode code 1041 = .ok (.aload_n 0, 1) := dk_42 (dq_lk dlaw_v65 (r := 1) (x := 42) rfl)
theorem dlaw_1042 : decode code 1042 = .ok (.iload 4, 2) := dk_21 (dq_lk dlaw_v65 (r := 2) (x := 21) rfl) (dq_lk dlaw_v65 (r := 3) (x := 4) rfl)
theorem dlaw_1044 : decode code 1044 = .ok (.iconst 2, 1) := dk_5 (dq_lk dlaw_v65 (r := 4) (x := 5) rfl)
theorem dlaw_1045 : decode code 1045 = .ok (.iadd, 1) := dk_96 (dq_lk dlaw_v65 (r := 5) (x := 96) rfl)
theorem dlaw_1046 : decode code 1046 = .ok (.iaload, 1) := dk_46 (dq_lk dlaw_v65 (r := 6) (x := 46) rfl)
theorem dlaw_1047 : decode code 1047 = .ok (.aload_n 0, 1) := dk_42 (dq_lk dlaw_v65 (r := 7) (x := 42) rfl)
theorem dlaw_1048 : decode code 1048 = .ok (.iload 4, 2) := dk_21 (dq_lk dlaw_v65 (r := 8) (x := 21) rfl) (dq_lk dlaw_v65 (r := 9) (x := 4) rfl)
theorem dlaw_1050 : decode code 1050 = .ok (.iconst 3, 1) := dk_6 (dq_lk dlaw_v65 (r := 10) (x := 6) rfl)
theorem dlaw_1051 : decode code 1051 = .ok (.iadd, 1) := dk_96 (dq_lk dlaw_v65 (r := 11) (x := 96) rfl)
theorem dlaw_1052 : decode code 1052 = .ok (.iaload, 1) := dk_46 (dq_lk dlaw_v65 (r := 12) (x := 46) rfl)
theorem dlaw_1053 : decode code 1053 = .ok (.aload_n 3, 1) := dk_45 (dq_lk dlaw_v65 (r := 13) (x := 45) rfl)
theorem dlaw_1054 : decode code 1054 = .ok (.invokestatic 191, 3) := dk_184 (dq_lk dlaw_v65 (r := 14) (x := 184) rfl) (dq_lk dlaw_v65 (r := 15) (x := 0) rfl) (dq_lk dlaw_v66 (r := 0) (x := 191) rfl)
theorem dlaw_1057 : decode code 1057 = .ok (.istore 5, 2) := dk_54 (dq_lk dlaw_v66 (r := 1) (x := 54) rfl) (dq_lk dlaw_v66 (r := 2) (x := 5) rfl)
theorem dlaw_1059 : decode code 1059 = .ok (.aload_n 2, 1) := dk_44 (dq_lk dlaw_v66 (r := 3) (x := 44) rfl)
theorem dlaw_1060 : decode code 1060 = .ok (.aload_n 0, 1) := dk_42 (dq_lk dlaw_v66 (r := 4) (x := 42) rfl)
theorem dlaw_1061 : decode code 1061 = .ok (.iload 4, 2) := dk_21 (dq_lk dlaw_v66 (r := 5) (x := 21) rfl) (dq_lk dlaw_v66 (r := 6) (x := 4) rfl)
theorem dlaw_1063 : decode code 1063 = .ok (.iconst 1, 1) := dk_4 (dq_lk dlaw_v66 (r := 7) (x := 4) rfl)
theorem dlaw_1064 : decode code 1064 = .ok (.iadd, 1) := dk_96 (dq_lk dlaw_v66 (r := 8) (x := 96) rfl)
theorem dlaw_1065 : decode code 1065 = .ok (.iaload, 1) := dk_46 (dq_lk dlaw_v66 (r := 9) (x := 46) rfl)
theorem dlaw_1066 : decode code 1066 = .ok (.aload_n 0, 1) := dk_42 (dq_lk dlaw_v66 (r := 10) (x := 42) rfl)
theorem dlaw_1067 : decode code 1067 = .ok (.iload 4, 2) := dk_21 (dq_lk dlaw_v66 (r := 11) (x := 21) rfl) (dq_lk dlaw_v66 (r := 12) (x := 4) rfl)
theorem dlaw_1069 : decode code 1069 = .ok (.iconst 2, 1) := dk_5 (dq_lk dlaw_v66 (r := 13) (x := 5) rfl)
theorem dlaw_1070 : decode code 1070 = .ok (.iadd, 1) := dk_96 (dq_lk dlaw_v66 (r := 14) (x := 96) rfl)
theorem dlaw_1071 : decode code 1071 = .ok (.iaload, 1) := dk_46 (dq_lk dlaw_v66 (r := 15) (x := 46) rfl)
theorem dlaw_1072 : decode code 1072 = .ok (.aload_n 0, 1) := dk_42 (dq_lk dlaw_v67 (r := 0) (x := 42) rfl)
theorem dlaw_1073 : decode code 1073 = .ok (.iload 4, 2) := dk_21 (dq_lk dlaw_v67 (r := 1) (x := 21) rfl) (dq_lk dlaw_v67 (r := 2) (x := 4) rfl)
theorem dlaw_1075 : decode code 1075 = .ok (.iconst 3, 1) := dk_6 (dq_lk dlaw_v67 (r := 3) (x := 6) rfl)
theorem dlaw_1076 : decode code 1076 = .ok (.iadd, 1) := dk_96 (dq_lk dlaw_v67 (r := 4) (x := 96) rfl)
theorem dlaw_1077 : decode code 1077 = .ok (.iaload, 1) := dk_46 (dq_lk dlaw_v67 (r := 5) (x := 46) rfl)
theorem dlaw_1078 : decode code 1078 = .ok (.invokevirtual 193, 3) := dk_182 (dq_lk dlaw_v67 (r := 6) (x := 182) rfl) (dq_lk dlaw_v67 (r := 7) (x := 0) rfl) (dq_lk dlaw_v67 (r := 8) (x := 193) rfl)
theorem dlaw_1081 : decode code 1081 = .ok (.istore 6, 2) := dk_54 (dq_lk dlaw_v67 (r := 9) (x := 54) rfl) (dq_lk dlaw_v67 (r := 10) (x := 6) rfl)
theorem dlaw_1083 : decode code 1083 = .ok (.goto 810, 3) := dk_167 (dq_lk dlaw_v67 (r := 11) (x := 167) rfl) (dq_lk dlaw_v67 (r := 12) (x := 3) rfl) (dq_lk dlaw_v67 (r := 13) (x := 42) rfl) (by decide +kernel)
theorem dlaw_1086 : decode code 1086 = .ok (.aload_n 1, 1) := dk_43 (dq_lk dlaw_v67 (r := 14) (x := 43) rfl)
theorem dlaw_1087 : decode code 1087 = .ok (.aload_n 0, 1) := dk_42 (dq_lk dlaw_v67 (r := 15) (x := 42) rfl)
theorem dlaw_1088 : decode code 1088 = .ok (.iload 4, 2) := dk_21 (dq_lk dlaw_v68 (r := 0) (x := 21) rfl) (dq_lk dlaw_v68 (r := 1) (x := 4) rfl)
theorem dlaw_1090 : decode code 1090 = .ok (.iconst 1, 1) := dk_4 (dq_lk dlaw_v68 (r := 2) (x := 4) rfl)
theorem dlaw_1091 : decode code 1091 = .ok (.iadd, 1) := dk_96 (dq_lk dlaw_v68 (r := 3) (x := 96) rfl)
theorem dlaw_1092 : decode code 1092 = .ok (.iaload, 1) := dk_46 (dq_lk dlaw_v68 (r := 4) (x := 46) rfl)
theorem dlaw_1093 : decode code 1093 = .ok (.aload_n 0, 1) := dk_42 (dq_lk dlaw_v68 (r := 5) (x := 42) rfl)
theorem dlaw_1094 : decode code 1094 = .ok (.iload 4, 2) := dk_21 (dq_lk dlaw_v68 (r := 6) (x := 21) rfl) (dq_lk dlaw_v68 (r := 7) (x := 4) rfl)
theorem dlaw_1096 : decode code 1096 = .ok (.iconst 2, 1) := dk_5 (dq_lk dlaw_v68 (r := 8) (x := 5) rfl)
theorem dlaw_1097 : decode code 1097 = .ok (.iadd, 1) := dk_96 (dq_lk dlaw_v68 (r := 9) (x := 96) rfl)
theorem dlaw_1098 : decode code 1098 = .ok (.iaload, 1) := dk_46 (dq_lk dlaw_v68 (r := 10) (x := 46) rfl)
theorem dlaw_1099 : decode code 1099 = .ok (.aload_n 0, 1) := dk_42 (dq_lk dlaw_v68 (r := 11) (x := 42) rfl)
theorem dlaw_1100 : decode code 1100 = .ok (.iload 4, 2) := dk_21 (dq_lk dlaw_v68 (r := 12) (x := 21) rfl) (dq_lk dlaw_v68 (r := 13) (x := 4) rfl)
theorem dlaw_1102 : decode code 1102 = .ok (.iconst 3, 1) := dk_6 (dq_lk dlaw_v68 (r := 14) (x := 6) rfl)
theorem dlaw_1103 : decode code 1103 = .ok (.iadd, 1) := dk_96 (dq_lk dlaw_v68 (r := 15) (x := 96) rfl)
theorem dlaw_1104 : decode code 1104 = .ok (.iaload, 1) := dk_46 (dq_lk dlaw_v69 (r := 0) (x := 46) rfl)
theorem dlaw_1105 : decode code 1105 = .ok (.ifCond .eq 7, 3) := dk_153 (dq_lk dlaw_v69 (r := 1) (x := 153) rfl) (dq_lk dlaw_v69 (r := 2) (x := 0) rfl) (dq_lk dlaw_v69 (r := 3) (x := 7) rfl) (by decide +kernel)
theorem dlaw_1108 : decode code 1108 = .ok (.iconst 1, 1) := dk_4 (dq_lk dlaw_v69 (r := 4) (x := 4) rfl)
theorem dlaw_1109 : decode code 1109 = .ok (.goto 4, 3) := dk_167 (dq_lk dlaw_v69 (r := 5) (x := 167) rfl) (dq_lk dlaw_v69 (r := 6) (x := 0) rfl) (dq_lk dlaw_v69 (r := 7) (x := 4) rfl) (by decide +kernel)
theorem dlaw_1112 : decode code 1112 = .ok (.iconst 0, 1) := dk_3 (dq_lk dlaw_v69 (r := 8) (x := 3) rfl)
theorem dlaw_1113 : decode code 1113 = .ok (.aload_n 3, 1) := dk_45 (dq_lk dlaw_v69 (r := 9) (x := 45) rfl)
theorem dlaw_1114 : decode code 1114 = .ok (.invokestatic 194, 3) := dk_184 (dq_lk dlaw_v69 (r := 10) (x := 184) rfl) (dq_lk dlaw_v69 (r := 11) (x := 0) rfl) (dq_lk dlaw_v69 (r := 12) (x := 194) rfl)
theorem dlaw_1117 : decode code 1117 = .ok (.istore 5, 2) := dk_54 (dq_lk dlaw_v69 (r := 13) (x := 54) rfl) (dq_lk dlaw_v69 (r := 14) (x := 5) rfl)
theorem dlaw_1119 : decode code 1119 = .ok (.aload_n 2, 1) := dk_44 (dq_lk dlaw_v69 (r := 15) (x := 44) rfl)
theorem dlaw_1120 : decode code 1120 = .ok (.aload_n 0, 1) := dk_42 (dq_lk dlaw_v70 (r := 0) (x := 42) rfl)
theorem dlaw_1121 : decode code 1121 = .ok (.iload 4, 2) := dk_21 (dq_lk dlaw_v70 (r := 1) (x := 21) rfl) (dq_lk dlaw_v70 (r := 2) (x := 4) rfl)
theorem dlaw_1123 : decode code 1123 = .ok (.iconst 1, 1) := dk_4 (dq_lk dlaw_v70 (r := 3) (x := 4) rfl)
theorem dlaw_1124 : decode code 1124 = .ok (.iadd, 1) := dk_96 (dq_lk dlaw_v70 (r := 4) (x := 96) rfl)
theorem dlaw_1125 : decode code 1125 = .ok (.iaload, 1) := dk_46 (dq_lk dlaw_v70 (r := 5) (x := 46) rfl)
theorem dlaw_1126 : decode code 1126 = .ok (.aload_n 0, 1) := dk_42 (dq_lk dlaw_v70 (r := 6) (x := 42) rfl)
theorem dlaw_1127 : decode code 1127 = .ok (.iload 4, 2) := dk_21 (dq_lk dlaw_v70 (r := 7) (x := 21) rfl) (dq_lk dlaw_v70 (r := 8) (x := 4) rfl)
theorem dlaw_1129 : decode code 1129 = .ok (.iconst 2, 1) := dk_5 (dq_lk dlaw_v70 (r := 9) (x := 5) rfl)
theorem dlaw_1130 : decode code 1130 = .ok (.iadd, 1) := dk_96 (dq_lk dlaw_v70 (r := 10) (x := 96) rfl)
theorem dlaw_1131 : decode code 1131 = .ok (.iaload, 1) := dk_46 (dq_lk dlaw_v70 (r := 11) (x := 46) rfl)
theorem dlaw_1132 : decode code 1132 = .ok (.aload_n 0, 1) := dk_42 (dq_lk dlaw_v70 (r := 12) (x := 42) rfl)
theorem dlaw_1133 : decode code 1133 = .ok (.iload 4, 2) := dk_21 (dq_lk dlaw_v70 (r := 13) (x := 21) rfl) (dq_lk dlaw_v70 (r := 14) (x := 4) rfl)
theorem dlaw_1135 : decode code 1135 = .ok (.iconst 3, 1) := dk_6 (dq_lk dlaw_v70 (r := 15) (x := 6) rfl)
theorem dlaw_1136 : decode code 1136 = .ok (.iadd, 1) := dk_96 (dq_lk dlaw_v71 (r := 0) (x := 96) rfl)
theorem dlaw_1137 : decode code 1137 = .ok (.iaload, 1) := dk_46 (dq_lk dlaw_v71 (r := 1) (x := 46) rfl)
theorem dlaw_1138 : decode code 1138 = .ok (.ifCond .eq 7, 3) := dk_153 (dq_lk dlaw_v71 (r := 2) (x := 153) rfl) (dq_lk dlaw_v71 (r := 3) (x := 0) rfl) (dq_lk dlaw_v71 (r := 4) (x := 7) rfl) (by decide +kernel)
theorem dlaw_1141 : decode code 1141 = .ok (.iconst 1, 1) := dk_4 (dq_lk dlaw_v71 (r := 5) (x := 4) rfl)
theorem dlaw_1142 : decode code 1142 = .ok (.goto 4, 3) := dk_167 (dq_lk dlaw_v71 (r := 6) (x := 167) rfl) (dq_lk dlaw_v71 (r := 7) (x := 0) rfl) (dq_lk dlaw_v71 (r := 8) (x := 4) rfl) (by decide +kernel)
theorem dlaw_1145 : decode code 1145 = .ok (.iconst 0, 1) := dk_3 (dq_lk dlaw_v71 (r := 9) (x := 3) rfl)
theorem dlaw_1146 : decode code 1146 = .ok (.invokevirtual 197, 3) := dk_182 (dq_lk dlaw_v71 (r := 10) (x := 182) rfl) (dq_lk dlaw_v71 (r := 11) (x := 0) rfl) (dq_lk dlaw_v71 (r := 12) (x := 197) rfl)
theorem dlaw_1149 : decode code 1149 = .ok (.istore 6, 2) := dk_54 (dq_lk dlaw_v71 (r := 13) (x := 54) rfl) (dq_lk dlaw_v71 (r := 14) (x := 6) rfl)
theorem dlaw_1151 : decode code 1151 = .ok (.goto 742, 3) := dk_167 (dq_lk dlaw_v71 (r := 15) (x := 167) rfl) (dq_lk dlaw_v72 (r := 0) (x := 2) rfl) (dq_lk dlaw_v72 (r := 1) (x := 230) rfl) (by decide +kernel)
theorem dlaw_1154 : decode code 1154 = .ok (.aload_n 1, 1) := dk_43 (dq_lk dlaw_v72 (r := 2) (x := 43) rfl)
theorem dlaw_1155 : decode code 1155 = .ok (.aload_n 0, 1) := dk_42 (dq_lk dlaw_v72 (r := 3) (x := 42) rfl)
theorem dlaw_1156 : decode code 1156 = .ok (.iload 4, 2) := dk_21 (dq_lk dlaw_v72 (r := 4) (x := 21) rfl) (dq_lk dlaw_v72 (r := 5) (x := 4) rfl)
theorem dlaw_1158 : decode code 1158 = .ok (.iconst 1, 1) := dk_4 (dq_lk dlaw_v72 (r := 6) (x := 4) rfl)
theorem dlaw_1159 : decode code 1159 = .ok (.iadd, 1) := dk_96 (dq_lk dlaw_v72 (r := 7) (x := 96) rfl)
theorem dlaw_1160 : decode code 1160 = .ok (.iaload, 1) := dk_46 (dq_lk dlaw_v72 (r := 8) (x := 46) rfl)
theorem dlaw_1161 : decode code 1161 = .ok (.aload_n 0, 1) := dk_42 (dq_lk dlaw_v72 (r := 9) (x := 42) rfl)
theorem dlaw_1162 : decode code 1162 = .ok (.iload 4, 2) := dk_21 (dq_lk dlaw_v72 (r := 10) (x := 21) rfl) (dq_lk dlaw_v72 (r := 11) (x := 4) rfl)
theorem dlaw_1164 : decode code 1164 = .ok (.iconst 2, 1) := dk_5 (dq_lk dlaw_v72 (r := 12) (x := 5) rfl)
theorem dlaw_1165 : decode code 1165 = .ok (.iadd, 1) := dk_96 (dq_lk dlaw_v72 (r := 13) (x := 96) rfl)
theorem dlaw_1166 : decode code 1166 = .ok (.iaload, 1) := dk_46 (dq_lk dlaw_v72 (r := 14) (x := 46) rfl)
theorem dlaw_1167 : decode code 1167 = .ok (.aload_n 3, 1) := dk_45 (dq_lk dlaw_v72 (r := 15) (x := 45) rfl)
theorem dlaw_1168 : decode code 1168 = .ok (.invokestatic 198, 3) := dk_184 (dq_lk dlaw_v73 (r := 0) (x := 184) rfl) (dq_lk dlaw_v73 (r := 1) (x := 0) rfl) (dq_lk dlaw_v73 (r := 2) (x := 198) rfl)
theorem dlaw_1171 : decode code 1171 = .ok (.istore 5, 2) := dk_54 (dq_lk dlaw_v73 (r := 3) (x := 54) rfl) (dq_lk dlaw_v73 (r := 4) (x := 5) rfl)
theorem dlaw_1173 : decode code 1173 = .ok (.aload_n 2, 1) := dk_44 (dq_lk dlaw_v73 (r := 5) (x := 44) rfl)
theorem dlaw_1174 : decode code 1174 = .ok (.aload_n 0, 1) := dk_42 (dq_lk dlaw_v73 (r := 6) (x := 42) rfl)
theorem dlaw_1175 : decode code 1175 = .ok (.iload 4, 2) := dk_21 (dq_lk dlaw_v73 (r := 7) (x := 21) rfl) (dq_lk dlaw_v73 (r := 8) (x := 4) rfl)
theorem dlaw_1177 : decode code 1177 = .ok (.iconst 1, 1) := dk_4 (dq_lk dlaw_v73 (r := 9) (x := 4) rfl)
theorem dlaw_1178 : decode code 1178 = .ok (.iadd, 1) := dk_96 (dq_lk dlaw_v73 (r := 10) (x := 96) rfl)
theorem dlaw_1179 : decode code 1179 = .ok (.iaload, 1) := dk_46 (dq_lk dlaw_v73 (r := 11) (x := 46) rfl)
theorem dlaw_1180 : decode code 1180 = .ok (.aload_n 0, 1) := dk_42 (dq_lk dlaw_v73 (r := 12) (x := 42) rfl)
theorem dlaw_1181 : decode code 1181 = .ok (.iload 4, 2) := dk_21 (dq_lk dlaw_v73 (r := 13) (x := 21) rfl) (dq_lk dlaw_v73 (r := 14) (x := 4) rfl)
theorem dlaw_1183 : decode code 1183 = .ok (.iconst 2, 1) := dk_5 (dq_lk dlaw_v73 (r := 15) (x := 5) rfl)
theorem dlaw_1184 : decode code 1184 = .ok (.iadd, 1) := dk_96 (dq_lk dlaw_v74 (r := 0) (x := 96) rfl)
theorem dlaw_1185 : decode code 1185 = .ok (.iaload, 1) := dk_46 (dq_lk dlaw_v74 (r := 1) (x := 46) rfl)
theorem dlaw_1186 : decode code 1186 = .ok (.invokevirtual 200, 3) := dk_182 (dq_lk dlaw_v74 (r := 2) (x := 182) rfl) (dq_lk dlaw_v74 (r := 3) (x := 0) rfl) (dq_lk dlaw_v74 (r := 4) (x := 200) rfl)
theorem dlaw_1189 : decode code 1189 = .ok (.istore 6, 2) := dk_54 (dq_lk dlaw_v74 (r := 5) (x := 54) rfl) (dq_lk dlaw_v74 (r := 6) (x := 6) rfl)
theorem dlaw_1191 : decode code 1191 = .ok (.goto 702, 3) := dk_167 (dq_lk dlaw_v74 (r := 7) (x := 167) rfl) (dq_lk dlaw_v74 (r := 8) (x := 2) rfl) (dq_lk dlaw_v74 (r := 9) (x := 190) rfl) (by decide +kernel)
theorem dlaw_1194 : decode code 1194 = .ok (.aload_n 1, 1) := dk_43 (dq_lk dlaw_v74 (r := 10) (x := 43) rfl)
theorem dlaw_1195 : decode code 1195 = .ok (.aload_n 0, 1) := dk_42 (dq_lk dlaw_v74 (r := 11) (x := 42) rfl)
theorem dlaw_1196 : decode code 1196 = .ok (.iload 4, 2) := dk_21 (dq_lk dlaw_v74 (r := 12) (x := 21) rfl) (dq_lk dlaw_v74 (r := 13) (x := 4) rfl)
theorem dlaw_1198 : decode code 1198 = .ok (.iconst 1, 1) := dk_4 (dq_lk dlaw_v74 (r := 14) (x := 4) rfl)
theorem dlaw_1199 : decode code 1199 = .ok (.iadd, 1) := dk_96 (dq_lk dlaw_v74 (r := 15) (x := 96) rfl)
theorem dlaw_1200 : decode code 1200 = .ok (.iaload, 1) := dk_46 (dq_lk dlaw_v75 (r := 0) (x := 46) rfl)
theorem dlaw_1201 : decode code 1201 = .ok (.aload_n 0, 1) := dk_42 (dq_lk dlaw_v75 (r := 1) (x := 42) rfl)
theorem dlaw_1202 : decode code 1202 = .ok (.iload 4, 2) := dk_21 (dq_lk dlaw_v75 (r := 2) (x := 21) rfl) (dq_lk dlaw_v75 (r := 3) (x := 4) rfl)
theorem dlaw_1204 : decode code 1204 = .ok (.iconst 2, 1) := dk_5 (dq_lk dlaw_v75 (r := 4) (x := 5) rfl)
theorem dlaw_1205 : decode code 1205 = .ok (.iadd, 1) := dk_96 (dq_lk dlaw_v75 (r := 5) (x := 96) rfl)
theorem dlaw_1206 : decode code 1206 = .ok (.iaload, 1) := dk_46 (dq_lk dlaw_v75 (r := 6) (x := 46) rfl)
theorem dlaw_1207 : decode code 1207 = .ok (.aload_n 3, 1) := dk_45 (dq_lk dlaw_v75 (r := 7) (x := 45) rfl)
theorem dlaw_1208 : decode code 1208 = .ok (.invokestatic 201, 3) := dk_184 (dq_lk dlaw_v75 (r := 8) (x := 184) rfl) (dq_lk dlaw_v75 (r := 9) (x := 0) rfl) (dq_lk dlaw_v75 (r := 10) (x := 201) rfl)
theorem dlaw_1211 : decode code 1211 = .ok (.istore 5, 2) := dk_54 (dq_lk dlaw_v75 (r := 11) (x := 54) rfl) (dq_lk dlaw_v75 (r := 12) (x := 5) rfl)
theorem dlaw_1213 : decode code 1213 = .ok (.aload_n 2, 1) := dk_44 (dq_lk dlaw_v75 (r := 13) (x := 44) rfl)
theorem dlaw_1214 : decode code 1214 = .ok (.aload_n 0, 1) := dk_42 (dq_lk dlaw_v75 (r := 14) (x := 42) rfl)
theorem dlaw_1215 : decode code 1215 = .ok (.iload 4, 2) := dk_21 (dq_lk dlaw_v75 (r := 15) (x := 21) rfl) (dq_lk dlaw_v76 (r := 0) (x := 4) rfl)
theorem dlaw_1217 : decode code 1217 = .ok (.iconst 1, 1) := dk_4 (dq_lk dlaw_v76 (r := 1) (x := 4) rfl)
theorem dlaw_1218 : decode code 1218 = .ok (.iadd, 1) := dk_96 (dq_lk dlaw_v76 (r := 2) (x := 96) rfl)
theorem dlaw_1219 : decode code 1219 = .ok (.iaload, 1) := dk_46 (dq_lk dlaw_v76 (r := 3) (x := 46) rfl)
theorem dlaw_1220 : decode code 1220 = .ok (.aload_n 0, 1) := dk_42 (dq_lk dlaw_v76 (r := 4) (x := 42) rfl)
theorem dlaw_1221 : decode code 1221 = .ok (.iload 4, 2) := dk_21 (dq_lk dlaw_v76 (r := 5) (x := 21) rfl) (dq_lk dlaw_v76 (r := 6) (x := 4) rfl)
theorem dlaw_1223 : decode code 1223 = .ok (.iconst 2, 1) := dk_5 (dq_lk dlaw_v76 (r := 7) (x := 5) rfl)
theorem dlaw_1224 : decode code 1224 = .ok (.iadd, 1) := dk_96 (dq_lk dlaw_v76 (r := 8) (x := 96) rfl)
theorem dlaw_1225 : decode code 1225 = .ok (.iaload, 1) := dk_46 (dq_lk dlaw_v76 (r := 9) (x := 46) rfl)
theorem dlaw_1226 : decode code 1226 = .ok (.invokevirtual 203, 3) := dk_182 (dq_lk dlaw_v76 (r := 10) (x := 182) rfl) (dq_lk dlaw_v76 (r := 11) (x := 0) rfl) (dq_lk dlaw_v76 (r := 12) (x := 203) rfl)
theorem dlaw_1229 : decode code 1229 = .ok (.istore 6, 2) := dk_54 (dq_lk dlaw_v76 (r := 13) (x := 54) rfl) (dq_lk dlaw_v76 (r := 14) (x := 6) rfl)
theorem dlaw_1231 : decode code 1231 = .ok (.goto 662, 3) := dk_167 (dq_lk dlaw_v76 (r := 15) (x := 167) rfl) (dq_lk dlaw_v77 (r := 0) (x := 2) rfl) (dq_lk dlaw_v77 (r := 1) (x := 150) rfl) (by decide +kernel)
theorem dlaw_1234 : decode code 1234 = .ok (.aload_n 1, 1) := dk_43 (dq_lk dlaw_v77 (r := 2) (x := 43) rfl)
theorem dlaw_1235 : decode code 1235 = .ok (.aload_n 0, 1) := dk_42 (dq_lk dlaw_v77 (r := 3) (x := 42) rfl)
theorem dlaw_1236 : decode code 1236 = .ok (.iload 4, 2) := dk_21 (dq_lk dlaw_v77 (r := 4) (x := 21) rfl) (dq_lk dlaw_v77 (r := 5) (x := 4) rfl)
theorem dlaw_1238 : decode code 1238 = .ok (.iconst 1, 1) := dk_4 (dq_lk dlaw_v77 (r := 6) (x := 4) rfl)
theorem dlaw_1239 : decode code 1239 = .ok (.iadd, 1) := dk_96 (dq_lk dlaw_v77 (r := 7) (x := 96) rfl)
theorem dlaw_1240 : decode code 1240 = .ok (.iaload, 1) := dk_46 (dq_lk dlaw_v77 (r := 8) (x := 46) rfl)
theorem dlaw_1241 : decode code 1241 = .ok (.aload_n 0, 1) := dk_42 (dq_lk dlaw_v77 (r := 9) (x := 42) rfl)
theorem dlaw_1242 : decode code 1242 = .ok (.iload 4, 2) := dk_21 (dq_lk dlaw_v77 (r := 10) (x := 21) rfl) (dq_lk dlaw_v77 (r := 11) (x := 4) rfl)
theorem dlaw_1244 : decode code 1244 = .ok (.iconst 2, 1) := dk_5 (dq_lk dlaw_v77 (r := 12) (x := 5) rfl)
theorem dlaw_1245 : decode code 1245 = .ok (.iadd, 1) := dk_96 (dq_lk dlaw_v77 (r := 13) (x := 96) rfl)
theorem dlaw_1246 : decode code 1246 = .ok (.iaload, 1) := dk_46 (dq_lk dlaw_v77 (r := 14) (x := 46) rfl)
theorem dlaw_1247 : decode code 1247 = .ok (.aload_n 3, 1) := dk_45 (dq_lk dlaw_v77 (r := 15) (x := 45) rfl)
theorem dlaw_1248 : decode code 1248 = .ok (.invokestatic 204, 3) := dk_184 (dq_lk dlaw_v78 (r := 0) (x := 184) rfl) (dq_lk dlaw_v78 (r := 1) (x := 0) rfl) (dq_lk dlaw_v78 (r := 2) (x := 204) rfl)
theorem dlaw_1251 : decode code 1251 = .ok (.istore 5, 2) := dk_54 (dq_lk dlaw_v78 (r := 3) (x := 54) rfl) (dq_lk dlaw_v78 (r := 4) (x := 5) rfl)
theorem dlaw_1253 : decode code 1253 = .ok (.aload_n 2, 1) := dk_44 (dq_lk dlaw_v78 (r := 5) (x := 44) rfl)
theorem dlaw_1254 : decode code 1254 = .ok (.aload_n 0, 1) := dk_42 (dq_lk dlaw_v78 (r := 6) (x := 42) rfl)
theorem dlaw_1255 : decode code 1255 = .ok (.iload 4, 2) := dk_21 (dq_lk dlaw_v78 (r := 7) (x := 21) rfl) (dq_lk dlaw_v78 (r := 8) (x := 4) rfl)
theorem dlaw_1257 : decode code 1257 = .ok (.iconst 1, 1) := dk_4 (dq_lk dlaw_v78 (r := 9) (x := 4) rfl)
theorem dlaw_1258 : decode code 1258 = .ok (.iadd, 1) := dk_96 (dq_lk dlaw_v78 (r := 10) (x := 96) rfl)
theorem dlaw_1259 : decode code 1259 = .ok (.iaload, 1) := dk_46 (dq_lk dlaw_v78 (r := 11) (x := 46) rfl)
theorem dlaw_1260 : decode code 1260 = .ok (.aload_n 0, 1) := dk_42 (dq_lk dlaw_v78 (r := 12) (x := 42) rfl)
theorem dlaw_1261 : decode code 1261 = .ok (.iload 4, 2) := dk_21 (dq_lk dlaw_v78 (r := 13) (x := 21) rfl) (dq_lk dlaw_v78 (r := 14) (x := 4) rfl)
theorem dlaw_1263 : decode code 1263 = .ok (.iconst 2, 1) := dk_5 (dq_lk dlaw_v78 (r := 15) (x := 5) rfl)
theorem dlaw_1264 : decode code 1264 = .ok (.iadd, 1) := dk_96 (dq_lk dlaw_v79 (r := 0) (x := 96) rfl)
theorem dlaw_1265 : decode code 1265 = .ok (.iaload, 1) := dk_46 (dq_lk dlaw_v79 (r := 1) (x := 46) rfl)
theorem dlaw_1266 : decode code 1266 = .ok (.invokevirtual 206, 3) := dk_182 (dq_lk dlaw_v79 (r := 2) (x := 182) rfl) (dq_lk dlaw_v79 (r := 3) (x := 0) rfl) (dq_lk dlaw_v79 (r := 4) (x := 206) rfl)
theorem dlaw_1269 : decode code 1269 = .ok (.istore 6, 2) := dk_54 (dq_lk dlaw_v79 (r := 5) (x := 54) rfl) (dq_lk dlaw_v79 (r := 6) (x := 6) rfl)
theorem dlaw_1271 : decode code 1271 = .ok (.goto 622, 3) := dk_167 (dq_lk dlaw_v79 (r := 7) (x := 167) rfl) (dq_lk dlaw_v79 (r := 8) (x := 2) rfl) (dq_lk dlaw_v79 (r := 9) (x := 110) rfl) (by decide +kernel)
theorem dlaw_1274 : decode code 1274 = .ok (.aload_n 1, 1) := dk_43 (dq_lk dlaw_v79 (r := 10) (x := 43) rfl)
theorem dlaw_1275 : decode code 1275 = .ok (.aload_n 0, 1) := dk_42 (dq_lk dlaw_v79 (r := 11) (x := 42) rfl)
theorem dlaw_1276 : decode code 1276 = .ok (.iload 4, 2) := dk_21 (dq_lk dlaw_v79 (r := 12) (x := 21) rfl) (dq_lk dlaw_v79 (r := 13) (x := 4) rfl)
theorem dlaw_1278 : decode code 1278 = .ok (.iconst 1, 1) := dk_4 (dq_lk dlaw_v79 (r := 14) (x := 4) rfl)
theorem dlaw_1279 : decode code 1279 = .ok (.iadd, 1) := dk_96 (dq_lk dlaw_v79 (r := 15) (x := 96) rfl)
theorem dlaw_1280 : decode code 1280 = .ok (.iaload, 1) := dk_46 (dq_lk dlaw_v80 (r := 0) (x := 46) rfl)
theorem dlaw_1281 : decode code 1281 = .ok (.aload_n 0, 1) := dk_42 (dq_lk dlaw_v80 (r := 1) (x := 42) rfl)
theorem dlaw_1282 : decode code 1282 = .ok (.iload 4, 2) := dk_21 (dq_lk dlaw_v80 (r := 2) (x := 21) rfl) (dq_lk dlaw_v80 (r := 3) (x := 4) rfl)
theorem dlaw_1284 : decode code 1284 = .ok (.iconst 2, 1) := dk_5 (dq_lk dlaw_v80 (r := 4) (x := 5) rfl)
theorem dlaw_1285 : decode code 1285 = .ok (.iadd, 1) := dk_96 (dq_lk dlaw_v80 (r := 5) (x := 96) rfl)
theorem dlaw_1286 : decode code 1286 = .ok (.iaload, 1) := dk_46 (dq_lk dlaw_v80 (r := 6) (x := 46) rfl)
theorem dlaw_1287 : decode code 1287 = .ok (.aload_n 0, 1) := dk_42 (dq_lk dlaw_v80 (r := 7) (x := 42) rfl)
theorem dlaw_1288 : decode code 1288 = .ok (.iload 4, 2) := dk_21 (dq_lk dlaw_v80 (r := 8) (x := 21) rfl) (dq_lk dlaw_v80 (r := 9) (x := 4) rfl)
theorem dlaw_1290 : decode code 1290 = .ok (.iconst 3, 1) := dk_6 (dq_lk dlaw_v80 (r := 10) (x := 6) rfl)
theorem dlaw_1291 : decode code 1291 = .ok (.iadd, 1) := dk_96 (dq_lk dlaw_v80 (r := 11) (x := 96) rfl)
theorem dlaw_1292 : decode code 1292 = .ok (.iaload, 1) := dk_46 (dq_lk dlaw_v80 (r := 12) (x := 46) rfl)
theorem dlaw_1293 : decode code 1293 = .ok (.aload_n 3, 1) := dk_45 (dq_lk dlaw_v80 (r := 13) (x := 45) rfl)
theorem dlaw_1294 : decode code 1294 = .ok (.invokestatic 207, 3) := dk_184 (dq_lk dlaw_v80 (r := 14) (x := 184) rfl) (dq_lk dlaw_v80 (r := 15) (x := 0) rfl) (dq_lk dlaw_v81 (r := 0) (x := 207) rfl)
theorem dlaw_1297 : decode code 1297 = .ok (.istore 5, 2) := dk_54 (dq_lk dlaw_v81 (r := 1) (x := 54) rfl) (dq_lk dlaw_v81 (r := 2) (x := 5) rfl)
theorem dlaw_1299 : decode code 1299 = .ok (.aload_n 2, 1) := dk_44 (dq_lk dlaw_v81 (r := 3) (x := 44) rfl)
theorem dlaw_1300 : decode code 1300 = .ok (.aload_n 0, 1) := dk_42 (dq_lk dlaw_v81 (r := 4) (x := 42) rfl)
theorem dlaw_1301 : decode code 1301 = .ok (.iload 4, 2) := dk_21 (dq_lk dlaw_v81 (r := 5) (x := 21) rfl) (dq_lk dlaw_v81 (r := 6) (x := 4) rfl)
theorem dlaw_1303 : decode code 1303 = .ok (.iconst 1, 1) := dk_4 (dq_lk dlaw_v81 (r := 7) (x := 4) rfl)
theorem dlaw_1304 : decode code 1304 = .ok (.iadd, 1) := dk_96 (dq_lk dlaw_v81 (r := 8) (x := 96) rfl)
theorem dlaw_1305 : decode code 1305 = .ok (.iaload, 1) := dk_46 (dq_lk dlaw_v81 (r := 9) (x := 46) rfl)
theorem dlaw_1306 : decode code 1306 = .ok (.aload_n 0, 1) := dk_42 (dq_lk dlaw_v81 (r := 10) (x := 42) rfl)
theorem dlaw_1307 : decode code 1307 = .ok (.iload 4, 2) := dk_21 (dq_lk dlaw_v81 (r := 11) (x := 21) rfl) (dq_lk dlaw_v81 (r := 12) (x := 4) rfl)
theorem dlaw_1309 : decode code 1309 = .ok (.iconst 2, 1) := dk_5 (dq_lk dlaw_v81 (r := 13) (x := 5) rfl)
theorem dlaw_1310 : decode code 1310 = .ok (.iadd, 1) := dk_96 (dq_lk dlaw_v81 (r := 14) (x := 96) rfl)
theorem dlaw_1311 : decode code 1311 = .ok (.iaload, 1) := dk_46 (dq_lk dlaw_v81 (r := 15) (x := 46) rfl)
theorem dlaw_1312 : decode code 1312 = .ok (.aload_n 0, 1) := dk_42 (dq_lk dlaw_v82 (r := 0) (x := 42) rfl)
theorem dlaw_1313 : decode code 1313 = .ok (.iload 4, 2) := dk_21 (dq_lk dlaw_v82 (r := 1) (x := 21) rfl) (dq_lk dlaw_v82 (r := 2) (x := 4) rfl)
theorem dlaw_1315 : decode code 1315 = .ok (.iconst 3, 1) := dk_6 (dq_lk dlaw_v82 (r := 3) (x := 6) rfl)
theorem dlaw_1316 : decode code 1316 = .ok (.iadd, 1) := dk_96 (dq_lk dlaw_v82 (r := 4) (x := 96) rfl)
theorem dlaw_1317 : decode code 1317 = .ok (.iaload, 1) := dk_46 (dq_lk dlaw_v82 (r := 5) (x := 46) rfl)
theorem dlaw_1318 : decode code 1318 = .ok (.invokevirtual 209, 3) := dk_182 (dq_lk dlaw_v82 (r := 6) (x := 182) rfl) (dq_lk dlaw_v82 (r := 7) (x := 0) rfl) (dq_lk dlaw_v82 (r := 8) (x := 209) rfl)
theorem dlaw_1321 : decode code 1321 = .ok (.istore 6, 2) := dk_54 (dq_lk dlaw_v82 (r := 9) (x := 54) rfl) (dq_lk dlaw_v82 (r := 10) (x := 6) rfl)
theorem dlaw_1323 : decode code 1323 = .ok (.goto 570, 3) := dk_167 (dq_lk dlaw_v82 (r := 11) (x := 167) rfl) (dq_lk dlaw_v82 (r := 12) (x := 2) rfl) (dq_lk dlaw_v82 (r := 13) (x := 58) rfl) (by decide +kernel)
theorem dlaw_1326 : decode code 1326 = .ok (.aload_n 1, 1) := dk_43 (dq_lk dlaw_v82 (r := 14) (x := 43) rfl)
theorem dlaw_1327 : decode code 1327 = .ok (.aload_n 0, 1) := dk_42 (dq_lk dlaw_v82 (r := 15) (x := 42) rfl)
theorem dlaw_1328 : decode code 1328 = .ok (.iload 4, 2) := dk_21 (dq_lk dlaw_v83 (r := 0) (x := 21) rfl) (dq_lk dlaw_v83 (r := 1) (x := 4) rfl)
theorem dlaw_1330 : decode code 1330 = .ok (.iconst 1, 1) := dk_4 (dq_lk dlaw_v83 (r := 2) (x := 4) rfl)
theorem dlaw_1331 : decode code 1331 = .ok (.iadd, 1) := dk_96 (dq_lk dlaw_v83 (r := 3) (x := 96) rfl)
theorem dlaw_1332 : decode code 1332 = .ok (.iaload, 1) := dk_46 (dq_lk dlaw_v83 (r := 4) (x := 46) rfl)
theorem dlaw_1333 : decode code 1333 = .ok (.aload_n 0, 1) := dk_42 (dq_lk dlaw_v83 (r := 5) (x := 42) rfl)
theorem dlaw_1334 : decode code 1334 = .ok (.iload 4, 2) := dk_21 (dq_lk dlaw_v83 (r := 6) (x := 21) rfl) (dq_lk dlaw_v83 (r := 7) (x := 4) rfl)
theorem dlaw_1336 : decode code 1336 = .ok (.iconst 2, 1) := dk_5 (dq_lk dlaw_v83 (r := 8) (x := 5) rfl)
theorem dlaw_1337 : decode code 1337 = .ok (.iadd, 1) := dk_96 (dq_lk dlaw_v83 (r := 9) (x := 96) rfl)
theorem dlaw_1338 : decode code 1338 = .ok (.iaload, 1) := dk_46 (dq_lk dlaw_v83 (r := 10) (x := 46) rfl)
theorem dlaw_1339 : decode code 1339 = .ok (.aload_n 0, 1) := dk_42 (dq_lk dlaw_v83 (r := 11) (x := 42) rfl)
theorem dlaw_1340 : decode code 1340 = .ok (.iload 4, 2) := dk_21 (dq_lk dlaw_v83 (r := 12) (x := 21) rfl) (dq_lk dlaw_v83 (r := 13) (x := 4) rfl)
theorem dlaw_1342 : decode code 1342 = .ok (.iconst 3, 1) := dk_6 (dq_lk dlaw_v83 (r := 14) (x := 6) rfl)
theorem dlaw_1343 : decode code 1343 = .ok (.iadd, 1) := dk_96 (dq_lk dlaw_v83 (r := 15) (x := 96) rfl)
theorem dlaw_1344 : decode code 1344 = .ok (.iaload, 1) := dk_46 (dq_lk dlaw_v84 (r := 0) (x := 46) rfl)
theorem dlaw_1345 : decode code 1345 = .ok (.aload_n 0, 1) := dk_42 (dq_lk dlaw_v84 (r := 1) (x := 42) rfl)
theorem dlaw_1346 : decode code 1346 = .ok (.iload 4, 2) := dk_21 (dq_lk dlaw_v84 (r := 2) (x := 21) rfl) (dq_lk dlaw_v84 (r := 3) (x := 4) rfl)
theorem dlaw_1348 : decode code 1348 = .ok (.iconst 4, 1) := dk_7 (dq_lk dlaw_v84 (r := 4) (x := 7) rfl)
theorem dlaw_1349 : decode code 1349 = .ok (.iadd, 1) := dk_96 (dq_lk dlaw_v84 (r := 5) (x := 96) rfl)
theorem dlaw_1350 : decode code 1350 = .ok (.iaload, 1) := dk_46 (dq_lk dlaw_v84 (r := 6) (x := 46) rfl)
theorem dlaw_1351 : decode code 1351 = .ok (.aload_n 3, 1) := dk_45 (dq_lk dlaw_v84 (r := 7) (x := 45) rfl)
theorem dlaw_1352 : decode code 1352 = .ok (.invokestatic 210, 3) := dk_184 (dq_lk dlaw_v84 (r := 8) (x := 184) rfl) (dq_lk dlaw_v84 (r := 9) (x := 0) rfl) (dq_lk dlaw_v84 (r := 10) (x := 210) rfl)
theorem dlaw_1355 : decode code 1355 = .ok (.istore 5, 2) := dk_54 (dq_lk dlaw_v84 (r := 11) (x := 54) rfl) (dq_lk dlaw_v84 (r := 12) (x := 5) rfl)
theorem dlaw_1357 : decode code 1357 = .ok (.aload_n 2, 1) := dk_44 (dq_lk dlaw_v84 (r := 13) (x := 44) rfl)
theorem dlaw_1358 : decode code 1358 = .ok (.aload_n 0, 1) := dk_42 (dq_lk dlaw_v84 (r := 14) (x := 42) rfl)
theorem dlaw_1359 : decode code 1359 = .ok (.iload 4, 2) := dk_21 (dq_lk dlaw_v84 (r := 15) (x := 21) rfl) (dq_lk dlaw_v85 (r := 0) (x := 4) rfl)
theorem dlaw_1361 : decode code 1361 = .ok (.iconst 1, 1) := dk_4 (dq_lk dlaw_v85 (r := 1) (x := 4) rfl)
theorem dlaw_1362 : decode code 1362 = .ok (.iadd, 1) := dk_96 (dq_lk dlaw_v85 (r := 2) (x := 96) rfl)
theorem dlaw_1363 : decode code 1363 = .ok (.iaload, 1) := dk_46 (dq_lk dlaw_v85 (r := 3) (x := 46) rfl)
theorem dlaw_1364 : decode code 1364 = .ok (.aload_n 0, 1) := dk_42 (dq_lk dlaw_v85 (r := 4) (x := 42) rfl)
theorem dlaw_1365 : decode code 1365 = .ok (.iload 4, 2) := dk_21 (dq_lk dlaw_v85 (r := 5) (x := 21) rfl) (dq_lk dlaw_v85 (r := 6) (x := 4) rfl)
theorem dlaw_1367 : decode code 1367 = .ok (.iconst 2, 1) := dk_5 (dq_lk dlaw_v85 (r := 7) (x := 5) rfl)
theorem dlaw_1368 : decode code 1368 = .ok (.iadd, 1) := dk_96 (dq_lk dlaw_v85 (r := 8) (x := 96) rfl)
theorem dlaw_1369 : decode code 1369 = .ok (.iaload, 1) := dk_46 (dq_lk dlaw_v85 (r := 9) (x := 46) rfl)
theorem dlaw_1370 : decode code 1370 = .ok (.aload_n 0, 1) := dk_42 (dq_lk dlaw_v85 (r := 10) (x := 42) rfl)
theorem dlaw_1371 : decode code 1371 = .ok (.iload 4, 2) := dk_21 (dq_lk dlaw_v85 (r := 11) (x := 21) rfl) (dq_lk dlaw_v85 (r := 12) (x := 4) rfl)
theorem dlaw_1373 : decode code 1373 = .ok (.iconst 3, 1) := dk_6 (dq_lk dlaw_v85 (r := 13) (x := 6) rfl)
theorem dlaw_1374 : decode code 1374 = .ok (.iadd, 1) := dk_96 (dq_lk dlaw_v85 (r := 14) (x := 96) rfl)
theorem dlaw_1375 : decode code 1375 = .ok (.iaload, 1) := dk_46 (dq_lk dlaw_v85 (r := 15) (x := 46) rfl)
theorem dlaw_1376 : decode code 1376 = .ok (.aload_n 0, 1) := dk_42 (dq_lk dlaw_v86 (r := 0) (x := 42) rfl)
theorem dlaw_1377 : decode code 1377 = .ok (.iload 4, 2) := dk_21 (dq_lk dlaw_v86 (r := 1) (x := 21) rfl) (dq_lk dlaw_v86 (r := 2) (x := 4) rfl)
theorem dlaw_1379 : decode code 1379 = .ok (.iconst 4, 1) := dk_7 (dq_lk dlaw_v86 (r := 3) (x := 7) rfl)
theorem dlaw_1380 : decode code 1380 = .ok (.iadd, 1) := dk_96 (dq_lk dlaw_v86 (r := 4) (x := 96) rfl)
theorem dlaw_1381 : decode code 1381 = .ok (.iaload, 1) := dk_46 (dq_lk dlaw_v86 (r := 5) (x := 46) rfl)
theorem dlaw_1382 : decode code 1382 = .ok (.invokevirtual 212, 3) := dk_182 (dq_lk dlaw_v86 (r := 6) (x := 182) rfl) (dq_lk dlaw_v86 (r := 7) (x := 0) rfl) (dq_lk dlaw_v86 (r := 8) (x := 212) rfl)
theorem dlaw_1385 : decode code 1385 = .ok (.istore 6, 2) := dk_54 (dq_lk dlaw_v86 (r := 9) (x := 54) rfl) (dq_lk dlaw_v86 (r := 10) (x := 6) rfl)
theorem dlaw_1387 : decode code 1387 = .ok (.goto 506, 3) := dk_167 (dq_lk dlaw_v86 (r := 11) (x := 167) rfl) (dq_lk dlaw_v86 (r := 12) (x := 1) rfl) (dq_lk dlaw_v86 (r := 13) (x := 250) rfl) (by decide +kernel)
theorem dlaw_1390 : decode code 1390 = .ok (.aload_n 1, 1) := dk_43 (dq_lk dlaw_v86 (r := 14) (x := 43) rfl)
theorem dlaw_1391 : decode code 1391 = .ok (.aload_n 0, 1) := dk_42 (dq_lk dlaw_v86 (r := 15) (x := 42) rfl)
theorem dlaw_1392 : decode code 1392 = .ok (.iload 4, 2) := dk_21 (dq_lk dlaw_v87 (r := 0) (x := 21) rfl) (dq_lk dlaw_v87 (r := 1) (x := 4) rfl)
theorem dlaw_1394 : decode code 1394 = .ok (.iconst 1, 1) := dk_4 (dq_lk dlaw_v87 (r := 2) (x := 4) rfl)
theorem dlaw_1395 : decode code 1395 = .ok (.iadd, 1) := dk_96 (dq_lk dlaw_v87 (r := 3) (x := 96) rfl)
theorem dlaw_1396 : decode code 1396 = .ok (.iaload, 1) := dk_46 (dq_lk dlaw_v87 (r := 4) (x := 46) rfl)
theorem dlaw_1397 : decode code 1397 = .ok (.aload_n 0, 1) := dk_42 (dq_lk dlaw_v87 (r := 5) (x := 42) rfl)
theorem dlaw_1398 : decode code 1398 = .ok (.iload 4, 2) := dk_21 (dq_lk dlaw_v87 (r := 6) (x := 21) rfl) (dq_lk dlaw_v87 (r := 7) (x := 4) rfl)
theorem dlaw_1400 : decode code 1400 = .ok (.iconst 2, 1) := dk_5 (dq_lk dlaw_v87 (r := 8) (x := 5) rfl)
theorem dlaw_1401 : decode code 1401 = .ok (.iadd, 1) := dk_96 (dq_lk dlaw_v87 (r := 9) (x := 96) rfl)
theorem dlaw_1402 : decode code 1402 = .ok (.iaload, 1) := dk_46 (dq_lk dlaw_v87 (r := 10) (x := 46) rfl)
theorem dlaw_1403 : decode code 1403 = .ok (.aload_n 3, 1) := dk_45 (dq_lk dlaw_v87 (r := 11) (x := 45) rfl)
theorem dlaw_1404 : decode code 1404 = .ok (.invokestatic 213, 3) := dk_184 (dq_lk dlaw_v87 (r := 12) (x := 184) rfl) (dq_lk dlaw_v87 (r := 13) (x := 0) rfl) (dq_lk dlaw_v87 (r := 14) (x := 213) rfl)
theorem dlaw_1407 : decode code 1407 = .ok (.istore 5, 2) := dk_54 (dq_lk dlaw_v87 (r := 15) (x := 54) rfl) (dq_lk dlaw_v88 (r := 0) (x := 5) rfl)
theorem dlaw_1409 : decode code 1409 = .ok (.aload_n 2, 1) := dk_44 (dq_lk dlaw_v88 (r := 1) (x := 44) rfl)
theorem dlaw_1410 : decode code 1410 = .ok (.aload_n 0, 1) := dk_42 (dq_lk dlaw_v88 (r := 2) (x := 42) rfl)
theorem dlaw_1411 : decode code 1411 = .ok (.iload 4, 2) := dk_21 (dq_lk dlaw_v88 (r := 3) (x := 21) rfl) (dq_lk dlaw_v88 (r := 4) (x := 4) rfl)
theorem dlaw_1413 : decode code 1413 = .ok (.iconst 1, 1) := dk_4 (dq_lk dlaw_v88 (r := 5) (x := 4) rfl)
theorem dlaw_1414 : decode code 1414 = .ok (.iadd, 1) := dk_96 (dq_lk dlaw_v88 (r := 6) (x := 96) rfl)
theorem dlaw_1415 : decode code 1415 = .ok (.iaload, 1) := dk_46 (dq_lk dlaw_v88 (r := 7) (x := 46) rfl)
theorem dlaw_1416 : decode code 1416 = .ok (.aload_n 0, 1) := dk_42 (dq_lk dlaw_v88 (r := 8) (x := 42) rfl)
theorem dlaw_1417 : decode code 1417 = .ok (.iload 4, 2) := dk_21 (dq_lk dlaw_v88 (r := 9) (x := 21) rfl) (dq_lk dlaw_v88 (r := 10) (x := 4) rfl)
theorem dlaw_1419 : decode code 1419 = .ok (.iconst 2, 1) := dk_5 (dq_lk dlaw_v88 (r := 11) (x := 5) rfl)
theorem dlaw_1420 : decode code 1420 = .ok (.iadd, 1) := dk_96 (dq_lk dlaw_v88 (r := 12) (x := 96) rfl)
theorem dlaw_1421 : decode code 1421 = .ok (.iaload, 1) := dk_46 (dq_lk dlaw_v88 (r := 13) (x := 46) rfl)
theorem dlaw_1422 : decode code 1422 = .ok (.invokevirtual 215, 3) := dk_182 (dq_lk dlaw_v88 (r := 14) (x := 182) rfl) (dq_lk dlaw_v88 (r := 15) (x := 0) rfl) (dq_lk dlaw_v89 (r := 0) (x := 215) rfl)
theorem dlaw_1425 : decode code 1425 = .ok (.istore 6, 2) := dk_54 (dq_lk dlaw_v89 (r := 1) (x := 54) rfl) (dq_lk dlaw_v89 (r := 2) (x := 6) rfl)
theorem dlaw_1427 : decode code 1427 = .ok (.goto 466, 3) := dk_167 (dq_lk dlaw_v89 (r := 3) (x := 167) rfl) (dq_lk dlaw_v89 (r := 4) (x := 1) rfl) (dq_lk dlaw_v89 (r := 5) (x := 210) rfl) (by decide +kernel)
theorem dlaw_1430 : decode code 1430 = .ok (.aload_n 1, 1) := dk_43 (dq_lk dlaw_v89 (r := 6) (x := 43) rfl)
theorem dlaw_1431 : decode code 1431 = .ok (.aload_n 0, 1) := dk_42 (dq_lk dlaw_v89 (r := 7) (x := 42) rfl)
theorem dlaw_1432 : decode code 1432 = .ok (.iload 4, 2) := dk_21 (dq_lk dlaw_v89 (r := 8) (x := 21) rfl) (dq_lk dlaw_v89 (r := 9) (x := 4) rfl)
theorem dlaw_1434 : decode code 1434 = .ok (.iconst 1, 1) := dk_4 (dq_lk dlaw_v89 (r := 10) (x := 4) rfl)
theorem dlaw_1435 : decode code 1435 = .ok (.iadd, 1) := dk_96 (dq_lk dlaw_v89 (r := 11) (x := 96) rfl)
theorem dlaw_1436 : decode code 1436 = .ok (.iaload, 1) := dk_46 (dq_lk dlaw_v89 (r := 12) (x := 46) rfl)
theorem dlaw_1437 : decode code 1437 = .ok (.aload_n 0, 1) := dk_42 (dq_lk dlaw_v89 (r := 13) (x := 42) rfl)
theorem dlaw_1438 : decode code 1438 = .ok (.iload 4, 2) := dk_21 (dq_lk dlaw_v89 (r := 14) (x := 21) rfl) (dq_lk dlaw_v89 (r := 15) (x := 4) rfl)
theorem dlaw_1440 : decode code 1440 = .ok (.iconst 2, 1) := dk_5 (dq_lk dlaw_v90 (r := 0) (x := 5) rfl)
theorem dlaw_1441 : decode code 1441 = .ok (.iadd, 1) := dk_96 (dq_lk dlaw_v90 (r := 1) (x := 96) rfl)
theorem dlaw_1442 : decode code 1442 = .ok (.iaload, 1) := dk_46 (dq_lk dlaw_v90 (r := 2) (x := 46) rfl)
theorem dlaw_1443 : decode code 1443 = .ok (.aload_n 3, 1) := dk_45 (dq_lk dlaw_v90 (r := 3) (x := 45) rfl)
theorem dlaw_1444 : decode code 1444 = .ok (.invokestatic 216, 3) := dk_184 (dq_lk dlaw_v90 (r := 4) (x := 184) rfl) (dq_lk dlaw_v90 (r := 5) (x := 0) rfl) (dq_lk dlaw_v90 (r := 6) (x := 216) rfl)
theorem dlaw_1447 : decode code 1447 = .ok (.istore 5, 2) := dk_54 (dq_lk dlaw_v90 (r := 7) (x := 54) rfl) (dq_lk dlaw_v90 (r := 8) (x := 5) rfl)
theorem dlaw_1449 : decode code 1449 = .ok (.aload_n 2, 1) := dk_44 (dq_lk dlaw_v90 (r := 9) (x := 44) rfl)
theorem dlaw_1450 : decode code 1450 = .ok (.aload_n 0, 1) := dk_42 (dq_lk dlaw_v90 (r := 10) (x := 42) rfl)
theorem dlaw_1451 : decode code 1451 = .ok (.iload 4, 2) := dk_21 (dq_lk dlaw_v90 (r := 11) (x := 21) rfl) (dq_lk dlaw_v90 (r := 12) (x := 4) rfl)
theorem dlaw_1453 : decode code 1453 = .ok (.iconst 1, 1) := dk_4 (dq_lk dlaw_v90 (r := 13) (x := 4) rfl)
theorem dlaw_1454 : decode code 1454 = .ok (.iadd, 1) := dk_96 (dq_lk dlaw_v90 (r := 14) (x := 96) rfl)
theorem dlaw_1455 : decode code 1455 = .ok (.iaload, 1) := dk_46 (dq_lk dlaw_v90 (r := 15) (x := 46) rfl)
theorem dlaw_1456 : decode code 1456 = .ok (.aload_n 0, 1) := dk_42 (dq_lk dlaw_v91 (r := 0) (x := 42) rfl)
theorem dlaw_1457 : decode code 1457 = .ok (.iload 4, 2) := dk_21 (dq_lk dlaw_v91 (r := 1) (x := 21) rfl) (dq_lk dlaw_v91 (r := 2) (x := 4) rfl)
theorem dlaw_1459 : decode code 1459 = .ok (.iconst 2, 1) := dk_5 (dq_lk dlaw_v91 (r := 3) (x := 5) rfl)
theorem dlaw_1460 : decode code 1460 = .ok (.iadd, 1) := dk_96 (dq_lk dlaw_v91 (r := 4) (x := 96) rfl)
theorem dlaw_1461 : decode code 1461 = .ok (.iaload, 1) := dk_46 (dq_lk dlaw_v91 (r := 5) (x := 46) rfl)
theorem dlaw_1462 : decode code 1462 = .ok (.invokevirtual 218, 3) := dk_182 (dq_lk dlaw_v91 (r := 6) (x := 182) rfl) (dq_lk dlaw_v91 (r := 7) (x := 0) rfl) (dq_lk dlaw_v91 (r := 8) (x := 218) rfl)
theorem dlaw_1465 : decode code 1465 = .ok (.istore 6, 2) := dk_54 (dq_lk dlaw_v91 (r := 9) (x := 54) rfl) (dq_lk dlaw_v91 (r := 10) (x := 6) rfl)
theorem dlaw_1467 : decode code 1467 = .ok (.goto 426, 3) := dk_167 (dq_lk dlaw_v91 (r := 11) (x := 167) rfl) (dq_lk dlaw_v91 (r := 12) (x := 1) rfl) (dq_lk dlaw_v91 (r := 13) (x := 170) rfl) (by decide +kernel)
theorem dlaw_1470 : decode code 1470 = .ok (.aload_n 1, 1) := dk_43 (dq_lk dlaw_v91 (r := 14) (x := 43) rfl)
theorem dlaw_1471 : decode code 1471 = .ok (.aload_n 0, 1) := dk_42 (dq_lk dlaw_v91 (r := 15) (x := 42) rfl)
theorem dlaw_1472 : decode code 1472 = .ok (.iload 4, 2) := dk_21 (dq_lk dlaw_v92 (r := 0) (x := 21) rfl) (dq_lk dlaw_v92 (r := 1) (x := 4) rfl)
theorem dlaw_1474 : decode code 1474 = .ok (.iconst 1, 1) := dk_4 (dq_lk dlaw_v92 (r := 2) (x := 4) rfl)
theorem dlaw_1475 : decode code 1475 = .ok (.iadd, 1) := dk_96 (dq_lk dlaw_v92 (r := 3) (x := 96) rfl)
theorem dlaw_1476 : decode code 1476 = .ok (.iaload, 1) := dk_46 (dq_lk dlaw_v92 (r := 4) (x := 46) rfl)
theorem dlaw_1477 : decode code 1477 = .ok (.aload_n 0, 1) := dk_42 (dq_lk dlaw_v92 (r := 5) (x := 42) rfl)
theorem dlaw_1478 : decode code 1478 = .ok (.iload 4, 2) := dk_21 (dq_lk dlaw_v92 (r := 6) (x := 21) rfl) (dq_lk dlaw_v92 (r := 7) (x := 4) rfl)
theorem dlaw_1480 : decode code 1480 = .ok (.iconst 2, 1) := dk_5 (dq_lk dlaw_v92 (r := 8) (x := 5) rfl)
theorem dlaw_1481 : decode code 1481 = .ok (.iadd, 1) := dk_96 (dq_lk dlaw_v92 (r := 9) (x := 96) rfl)
theorem dlaw_1482 : decode code 1482 = .ok (.iaload, 1) := dk_46 (dq_lk dlaw_v92 (r := 10) (x := 46) rfl)
theorem dlaw_1483 : decode code 1483 = .ok (.aload_n 0, 1) := dk_42 (dq_lk dlaw_v92 (r := 11) (x := 42) rfl)
theorem dlaw_1484 : decode code 1484 = .ok (.iload 4, 2) := dk_21 (dq_lk dlaw_v92 (r := 12) (x := 21) rfl) (dq_lk dlaw_v92 (r := 13) (x := 4) rfl)
theorem dlaw_1486 : decode code 1486 = .ok (.iconst 3, 1) := dk_6 (dq_lk dlaw_v92 (r := 14) (x := 6) rfl)
theorem dlaw_1487 : decode code 1487 = .ok (.iadd, 1) := dk_96 (dq_lk dlaw_v92 (r := 15) (x := 96) rfl)
theorem dlaw_1488 : decode code 1488 = .ok (.iaload, 1) := dk_46 (dq_lk dlaw_v93 (r := 0) (x := 46) rfl)
theorem dlaw_1489 : decode code 1489 = .ok (.aload_n 0, 1) := dk_42 (dq_lk dlaw_v93 (r := 1) (x := 42) rfl)
theorem dlaw_1490 : decode code 1490 = .ok (.iload 4, 2) := dk_21 (dq_lk dlaw_v93 (r := 2) (x := 21) rfl) (dq_lk dlaw_v93 (r := 3) (x := 4) rfl)
theorem dlaw_1492 : decode code 1492 = .ok (.iconst 4, 1) := dk_7 (dq_lk dlaw_v93 (r := 4) (x := 7) rfl)
theorem dlaw_1493 : decode code 1493 = .ok (.iadd, 1) := dk_96 (dq_lk dlaw_v93 (r := 5) (x := 96) rfl)
theorem dlaw_1494 : decode code 1494 = .ok (.iaload, 1) := dk_46 (dq_lk dlaw_v93 (r := 6) (x := 46) rfl)
theorem dlaw_1495 : decode code 1495 = .ok (.ifCond .eq 7, 3) := dk_153 (dq_lk dlaw_v93 (r := 7) (x := 153) rfl) (dq_lk dlaw_v93 (r := 8) (x := 0) rfl) (dq_lk dlaw_v93 (r := 9) (x := 7) rfl) (by decide +kernel)
theorem dlaw_1498 : decode code 1498 = .ok (.iconst 1, 1) := dk_4 (dq_lk dlaw_v93 (r := 10) (x := 4) rfl)
theorem dlaw_1499 : decode code 1499 = .ok (.goto 4, 3) := dk_167 (dq_lk dlaw_v93 (r := 11) (x := 167) rfl) (dq_lk dlaw_v93 (r := 12) (x := 0) rfl) (dq_lk dlaw_v93 (r := 13) (x := 4) rfl) (by decide +kernel)
theorem dlaw_1502 : decode code 1502 = .ok (.iconst 0, 1) := dk_3 (dq_lk dlaw_v93 (r := 14) (x := 3) rfl)
theorem dlaw_1503 : decode code 1503 = .ok (.aload_n 3, 1) := dk_45 (dq_lk dlaw_v93 (r := 15) (x := 45) rfl)
theorem dlaw_1504 : decode code 1504 = .ok (.invokestatic 219, 3) := dk_184 (dq_lk dlaw_v94 (r := 0) (x := 184) rfl) (dq_lk dlaw_v94 (r := 1) (x := 0) rfl) (dq_lk dlaw_v94 (r := 2) (x := 219) rfl)
theorem dlaw_1507 : decode code 1507 = .ok (.istore 5, 2) := dk_54 (dq_lk dlaw_v94 (r := 3) (x := 54) rfl) (dq_lk dlaw_v94 (r := 4) (x := 5) rfl)
theorem dlaw_1509 : decode code 1509 = .ok (.aload_n 2, 1) := dk_44 (dq_lk dlaw_v94 (r := 5) (x := 44) rfl)
theorem dlaw_1510 : decode code 1510 = .ok (.aload_n 0, 1) := dk_42 (dq_lk dlaw_v94 (r := 6) (x := 42) rfl)
theorem dlaw_1511 : decode code 1511 = .ok (.iload 4, 2) := dk_21 (dq_lk dlaw_v94 (r := 7) (x := 21) rfl) (dq_lk dlaw_v94 (r := 8) (x := 4) rfl)
theorem dlaw_1513 : decode code 1513 = .ok (.iconst 1, 1) := dk_4 (dq_lk dlaw_v94 (r := 9) (x := 4) rfl)
theorem dlaw_1514 : decode code 1514 = .ok (.iadd, 1) := dk_96 (dq_lk dlaw_v94 (r := 10) (x := 96) rfl)
theorem dlaw_1515 : decode code 1515 = .ok (.iaload, 1) := dk_46 (dq_lk dlaw_v94 (r := 11) (x := 46) rfl)
theorem dlaw_1516 : decode code 1516 = .ok (.aload_n 0, 1) := dk_42 (dq_lk dlaw_v94 (r := 12) (x := 42) rfl)
theorem dlaw_1517 : decode code 1517 = .ok (.iload 4, 2) := dk_21 (dq_lk dlaw_v94 (r := 13) (x := 21) rfl) (dq_lk dlaw_v94 (r := 14) (x := 4) rfl)
theorem dlaw_1519 : decode code 1519 = .ok (.iconst 2, 1) := dk_5 (dq_lk dlaw_v94 (r := 15) (x := 5) rfl)
theorem dlaw_1520 : decode code 1520 = .ok (.iadd, 1) := dk_96 (dq_lk dlaw_v95 (r := 0) (x := 96) rfl)
theorem dlaw_1521 : decode code 1521 = .ok (.iaload, 1) := dk_46 (dq_lk dlaw_v95 (r := 1) (x := 46) rfl)
theorem dlaw_1522 : decode code 1522 = .ok (.aload_n 0, 1) := dk_42 (dq_lk dlaw_v95 (r := 2) (x := 42) rfl)
theorem dlaw_1523 : decode code 1523 = .ok (.iload 4, 2) := dk_21 (dq_lk dlaw_v95 (r := 3) (x := 21) rfl) (dq_lk dlaw_v95 (r := 4) (x := 4) rfl)
theorem dlaw_1525 : decode code 1525 = .ok (.iconst 3, 1) := dk_6 (dq_lk dlaw_v95 (r := 5) (x := 6) rfl)
theorem dlaw_1526 : decode code 1526 = .ok (.iadd, 1) := dk_96 (dq_lk dlaw_v95 (r := 6) (x := 96) rfl)
theorem dlaw_1527 : decode code 1527 = .ok (.iaload, 1) := dk_46 (dq_lk dlaw_v95 (r := 7) (x := 46) rfl)
theorem dlaw_1528 : decode code 1528 = .ok (.aload_n 0, 1) := dk_42 (dq_lk dlaw_v95 (r := 8) (x := 42) rfl)
theorem dlaw_1529 : decode code 1529 = .ok (.iload 4, 2) := dk_21 (dq_lk dlaw_v95 (r := 9) (x := 21) rfl) (dq_lk dlaw_v95 (r := 10) (x := 4) rfl)
theorem dlaw_1531 : decode code 1531 = .ok (.iconst 4, 1) := dk_7 (dq_lk dlaw_v95 (r := 11) (x := 7) rfl)
theorem dlaw_1532 : decode code 1532 = .ok (.iadd, 1) := dk_96 (dq_lk dlaw_v95 (r := 12) (x := 96) rfl)
theorem dlaw_1533 : decode code 1533 = .ok (.iaload, 1) := dk_46 (dq_lk dlaw_v95 (r := 13) (x := 46) rfl)
theorem dlaw_1534 : decode code 1534 = .ok (.ifCond .eq 7, 3) := dk_153 (dq_lk dlaw_v95 (r := 14) (x := 153) rfl) (dq_lk dlaw_v95 (r := 15) (x := 0) rfl) (dq_lk dlaw_v96 (r := 0) (x := 7) rfl) (by decide +kernel)
theorem dlaw_1537 : decode code 1537 = .ok (.iconst 1, 1) := dk_4 (dq_lk dlaw_v96 (r := 1) (x := 4) rfl)
theorem dlaw_1538 : decode code 1538 = .ok (.goto 4, 3) := dk_167 (dq_lk dlaw_v96 (r := 2) (x := 167) rfl) (dq_lk dlaw_v96 (r := 3) (x := 0) rfl) (dq_lk dlaw_v96 (r := 4) (x := 4) rfl) (by decide +kernel)
theorem dlaw_1541 : decode code 1541 = .ok (.iconst 0, 1) := dk_3 (dq_lk dlaw_v96 (r := 5) (x := 3) rfl)
theorem dlaw_1542 : decode code 1542 = .ok (.invokevirtual 221, 3) := dk_182 (dq_lk dlaw_v96 (r := 6) (x := 182) rfl) (dq_lk dlaw_v96 (r := 7) (x := 0) rfl) (dq_lk dlaw_v96 (r := 8) (x := 221) rfl)
theorem dlaw_1545 : decode code 1545 = .ok (.istore 6, 2) := dk_54 (dq_lk dlaw_v96 (r := 9) (x := 54) rfl) (dq_lk dlaw_v96 (r := 10) (x := 6) rfl)
theorem dlaw_1547 : decode code 1547 = .ok (.goto 346, 3) := dk_167 (dq_lk dlaw_v96 (r := 11) (x := 167) rfl) (dq_lk dlaw_v96 (r := 12) (x := 1) rfl) (dq_lk dlaw_v96 (r := 13) (x := 90) rfl) (by decide +kernel)
theorem dlaw_1550 : decode code 1550 = .ok (.aload_n 1, 1) := dk_43 (dq_lk dlaw_v96 (r := 14) (x := 43) rfl)
theorem dlaw_1551 : decode code 1551 = .ok (.aload_n 0, 1) := dk_42 (dq_lk dlaw_v96 (r := 15) (x := 42) rfl)
theorem dlaw_1552 : decode code 1552 = .ok (.iload 4, 2) := dk_21 (dq_lk dlaw_v97 (r := 0) (x := 21) rfl) (dq_lk dlaw_v97 (r := 1) (x := 4) rfl)
theorem dlaw_1554 : decode code 1554 = .ok (.iconst 1, 1) := dk_4 (dq_lk dlaw_v97 (r := 2) (x := 4) rfl)
theorem dlaw_1555 : decode code 1555 = .ok (.iadd, 1) := dk_96 (dq_lk dlaw_v97 (r := 3) (x := 96) rfl)
theorem dlaw_1556 : decode code 1556 = .ok (.iaload, 1) := dk_46 (dq_lk dlaw_v97 (r := 4) (x := 46) rfl)
theorem dlaw_1557 : decode code 1557 = .ok (.aload_n 0, 1) := dk_42 (dq_lk dlaw_v97 (r := 5) (x := 42) rfl)
theorem dlaw_1558 : decode code 1558 = .ok (.iload 4, 2) := dk_21 (dq_lk dlaw_v97 (r := 6) (x := 21) rfl) (dq_lk dlaw_v97 (r := 7) (x := 4) rfl)
theorem dlaw_1560 : decode code 1560 = .ok (.iconst 2, 1) := dk_5 (dq_lk dlaw_v97 (r := 8) (x := 5) rfl)
theorem dlaw_1561 : decode code 1561 = .ok (.iadd, 1) := dk_96 (dq_lk dlaw_v97 (r := 9) (x := 96) rfl)
theorem dlaw_1562 : decode code 1562 = .ok (.iaload, 1) := dk_46 (dq_lk dlaw_v97 (r := 10) (x := 46) rfl)
theorem dlaw_1563 : decode code 1563 = .ok (.aload_n 0, 1) := dk_42 (dq_lk dlaw_v97 (r := 11) (x := 42) rfl)
theorem dlaw_1564 : decode code 1564 = .ok (.iload 4, 2) := dk_21 (dq_lk dlaw_v97 (r := 12) (x := 21) rfl) (dq_lk dlaw_v97 (r := 13) (x := 4) rfl)
theorem dlaw_1566 : decode code 1566 = .ok (.iconst 3, 1) := dk_6 (dq_lk dlaw_v97 (r := 14) (x := 6) rfl)
theorem dlaw_1567 : decode code 1567 = .ok (.iadd, 1) := dk_96 (dq_lk dlaw_v97 (r := 15) (x := 96) rfl)
theorem dlaw_1568 : decode code 1568 = .ok (.iaload, 1) := dk_46 (dq_lk dlaw_v98 (r := 0) (x := 46) rfl)
theorem dlaw_1569 : decode code 1569 = .ok (.ifCond .eq 7, 3) := dk_153 (dq_lk dlaw_v98 (r := 1) (x := 153) rfl) (dq_lk dlaw_v98 (r := 2) (x := 0) rfl) (dq_lk dlaw_v98 (r := 3) (x := 7) rfl) (by decide +kernel)
theorem dlaw_1572 : decode code 1572 = .ok (.iconst 1, 1) := dk_4 (dq_lk dlaw_v98 (r := 4) (x := 4) rfl)
theorem dlaw_1573 : decode code 1573 = .ok (.goto 4, 3) := dk_167 (dq_lk dlaw_v98 (r := 5) (x := 167) rfl) (dq_lk dlaw_v98 (r := 6) (x := 0) rfl) (dq_lk dlaw_v98 (r := 7) (x := 4) rfl) (by decide +kernel)
theorem dlaw_1576 : decode code 1576 = .ok (.iconst 0, 1) := dk_3 (dq_lk dlaw_v98 (r := 8) (x := 3) rfl)
theorem dlaw_1577 : decode code 1577 = .ok (.aload_n 3, 1) := dk_45 (dq_lk dlaw_v98 (r := 9) (x := 45) rfl)
theorem dlaw_1578 : decode code 1578 = .ok (.invokestatic 222, 3) := dk_184 (dq_lk dlaw_v98 (r := 10) (x := 184) rfl) (dq_lk dlaw_v98 (r := 11) (x := 0) rfl) (dq_lk dlaw_v98 (r := 12) (x := 222) rfl)
theorem dlaw_1581 : decode code 1581 = .ok (.istore 5, 2) := dk_54 (dq_lk dlaw_v98 (r := 13) (x := 54) rfl) (dq_lk dlaw_v98 (r := 14) (x := 5) rfl)
theorem dlaw_1583 : decode code 1583 = .ok (.aload_n 2, 1) := dk_44 (dq_lk dlaw_v98 (r := 15) (x := 44) rfl)
theorem dlaw_1584 : decode code 1584 = .ok (.aload_n 0, 1) := dk_42 (dq_lk dlaw_v99 (r := 0) (x := 42) rfl)
theorem dlaw_1585 : decode code 1585 = .ok (.iload 4, 2) := dk_21 (dq_lk dlaw_v99 (r := 1) (x := 21) rfl) (dq_lk dlaw_v99 (r := 2) (x := 4) rfl)
theorem dlaw_1587 : decode code 1587 = .ok (.iconst 1, 1) := dk_4 (dq_lk dlaw_v99 (r := 3) (x := 4) rfl)
theorem dlaw_1588 : decode code 1588 = .ok (.iadd, 1) := dk_96 (dq_lk dlaw_v99 (r := 4) (x := 96) rfl)
theorem dlaw_1589 : decode code 1589 = .ok (.iaload, 1) := dk_46 (dq_lk dlaw_v99 (r := 5) (x := 46) rfl)
theorem dlaw_1590 : decode code 1590 = .ok (.aload_n 0, 1) := dk_42 (dq_lk dlaw_v99 (r := 6) (x := 42) rfl)
theorem dlaw_1591 : decode code 1591 = .ok (.iload 4, 2) := dk_21 (dq_lk dlaw_v99 (r := 7) (x := 21) rfl) (dq_lk dlaw_v99 (r := 8) (x := 4) rfl)
theorem dlaw_1593 : decode code 1593 = .ok (.iconst 2, 1) := dk_5 (dq_lk dlaw_v99 (r := 9) (x := 5) rfl)
theorem dlaw_1594 : decode code 1594 = .ok (.iadd, 1) := dk_96 (dq_lk dlaw_v99 (r := 10) (x := 96) rfl)
theorem dlaw_1595 : decode code 1595 = .ok (.iaload, 1) := dk_46 (dq_lk dlaw_v99 (r := 11) (x := 46) rfl)
theorem dlaw_1596 : decode code 1596 = .ok (.aload_n 0, 1) := dk_42 (dq_lk dlaw_v99 (r := 12) (x := 42) rfl)
theorem dlaw_1597 : decode code 1597 = .ok (.iload 4, 2) := dk_21 (dq_lk dlaw_v99 (r := 13) (x := 21) rfl) (dq_lk dlaw_v99 (r := 14) (x := 4) rfl)
theorem dlaw_1599 : decode code 1599 = .ok (.iconst 3, 1) := dk_6 (dq_lk dlaw_v99 (r := 15) (x := 6) rfl)
theorem dlaw_1600 : decode code 1600 = .ok (.iadd, 1) := dk_96 (dq_lk dlaw_v100 (r := 0) (x := 96) rfl)
theorem dlaw_1601 : decode code 1601 = .ok (.iaload, 1) := dk_46 (dq_lk dlaw_v100 (r := 1) (x := 46) rfl)
theorem dlaw_1602 : decode code 1602 = .ok (.ifCond .eq 7, 3) := dk_153 (dq_lk dlaw_v100 (r := 2) (x := 153) rfl) (dq_lk dlaw_v100 (r := 3) (x := 0) rfl) (dq_lk dlaw_v100 (r := 4) (x := 7) rfl) (by decide +kernel)
theorem dlaw_1605 : decode code 1605 = .ok (.iconst 1, 1) := dk_4 (dq_lk dlaw_v100 (r := 5) (x := 4) rfl)
theorem dlaw_1606 : decode code 1606 = .ok (.goto 4, 3) := dk_167 (dq_lk dlaw_v100 (r := 6) (x := 167) rfl) (dq_lk dlaw_v100 (r := 7) (x := 0) rfl) (dq_lk dlaw_v100 (r := 8) (x := 4) rfl) (by decide +kernel)
theorem dlaw_1609 : decode code 1609 = .ok (.iconst 0, 1) := dk_3 (dq_lk dlaw_v100 (r := 9) (x := 3) rfl)
theorem dlaw_1610 : decode code 1610 = .ok (.invokevirtual 224, 3) := dk_182 (dq_lk dlaw_v100 (r := 10) (x := 182) rfl) (dq_lk dlaw_v100 (r := 11) (x := 0) rfl) (dq_lk dlaw_v100 (r := 12) (x := 224) rfl)
theorem dlaw_1613 : decode code 1613 = .ok (.istore 6, 2) := dk_54 (dq_lk dlaw_v100 (r := 13) (x := 54) rfl) (dq_lk dlaw_v100 (r := 14) (x := 6) rfl)
theorem dlaw_1615 : decode code 1615 = .ok (.goto 278, 3) := dk_167 (dq_lk dlaw_v100 (r := 15) (x := 167) rfl) (dq_lk dlaw_v101 (r := 0) (x := 1) rfl) (dq_lk dlaw_v101 (r := 1) (x := 22) rfl) (by decide +kernel)
theorem dlaw_1618 : decode code 1618 = .ok (.aload_n 1, 1) := dk_43 (dq_lk dlaw_v101 (r := 2) (x := 43) rfl)
theorem dlaw_1619 : decode code 1619 = .ok (.aload_n 0, 1) := dk_42 (dq_lk dlaw_v101 (r := 3) (x := 42) rfl)
theorem dlaw_1620 : decode code 1620 = .ok (.iload 4, 2) := dk_21 (dq_lk dlaw_v101 (r := 4) (x := 21) rfl) (dq_lk dlaw_v101 (r := 5) (x := 4) rfl)
theorem dlaw_1622 : decode code 1622 = .ok (.iconst 1, 1) := dk_4 (dq_lk dlaw_v101 (r := 6) (x := 4) rfl)
theorem dlaw_1623 : decode code 1623 = .ok (.iadd, 1) := dk_96 (dq_lk dlaw_v101 (r := 7) (x := 96) rfl)
theorem dlaw_1624 : decode code 1624 = .ok (.iaload, 1) := dk_46 (dq_lk dlaw_v101 (r := 8) (x := 46) rfl)
theorem dlaw_1625 : decode code 1625 = .ok (.aload_n 0, 1) := dk_42 (dq_lk dlaw_v101 (r := 9) (x := 42) rfl)
theorem dlaw_1626 : decode code 1626 = .ok (.iload 4, 2) := dk_21 (dq_lk dlaw_v101 (r := 10) (x := 21) rfl) (dq_lk dlaw_v101 (r := 11) (x := 4) rfl)
theorem dlaw_1628 : decode code 1628 = .ok (.iconst 2, 1) := dk_5 (dq_lk dlaw_v101 (r := 12) (x := 5) rfl)
theorem dlaw_1629 : decode code 1629 = .ok (.iadd, 1) := dk_96 (dq_lk dlaw_v101 (r := 13) (x := 96) rfl)
theorem dlaw_1630 : decode code 1630 = .ok (.iaload, 1) := dk_46 (dq_lk dlaw_v101 (r := 14) (x := 46) rfl)
theorem dlaw_1631 : decode code 1631 = .ok (.aload_n 3, 1) := dk_45 (dq_lk dlaw_v101 (r := 15) (x := 45) rfl)
theorem dlaw_1632 : decode code 1632 = .ok (.invokestatic 225, 3) := dk_184 (dq_lk dlaw_v102 (r := 0) (x := 184) rfl) (dq_lk dlaw_v102 (r := 1) (x := 0) rfl) (dq_lk dlaw_v102 (r := 2) (x := 225) rfl)
theorem dlaw_1635 : decode code 1635 = .ok (.istore 5, 2) := dk_54 (dq_lk dlaw_v102 (r := 3) (x := 54) rfl) (dq_lk dlaw_v102 (r := 4) (x := 5) rfl)
theorem dlaw_1637 : decode code 1637 = .ok (.aload_n 2, 1) := dk_44 (dq_lk dlaw_v102 (r := 5) (x := 44) rfl)
theorem dlaw_1638 : decode code 1638 = .ok (.aload_n 0, 1) := dk_42 (dq_lk dlaw_v102 (r := 6) (x := 42) rfl)
theorem dlaw_1639 : decode code 1639 = .ok (.iload 4, 2) := dk_21 (dq_lk dlaw_v102 (r := 7) (x := 21) rfl) (dq_lk dlaw_v102 (r := 8) (x := 4) rfl)
theorem dlaw_1641 : decode code 1641 = .ok (.iconst 1, 1) := dk_4 (dq_lk dlaw_v102 (r := 9) (x := 4) rfl)
theorem dlaw_1642 : decode code 1642 = .ok (.iadd, 1) := dk_96 (dq_lk dlaw_v102 (r := 10) (x := 96) rfl)
theorem dlaw_1643 : decode code 1643 = .ok (.iaload, 1) := dk_46 (dq_lk dlaw_v102 (r := 11) (x := 46) rfl)
theorem dlaw_1644 : decode code 1644 = .ok (.aload_n 0, 1) := dk_42 (dq_lk dlaw_v102 (r := 12) (x := 42) rfl)
theorem dlaw_1645 : decode code 1645 = .ok (.iload 4, 2) := dk_21 (dq_lk dlaw_v102 (r := 13) (x := 21) rfl) (dq_lk dlaw_v102 (r := 14) (x := 4) rfl)
theorem dlaw_1647 : decode code 1647 = .ok (.iconst 2, 1) := dk_5 (dq_lk dlaw_v102 (r := 15) (x := 5) rfl)
theorem dlaw_1648 : decode code 1648 = .ok (.iadd, 1) := dk_96 (dq_lk dlaw_v103 (r := 0) (x := 96) rfl)
theorem dlaw_1649 : decode code 1649 = .ok (.iaload, 1) := dk_46 (dq_lk dlaw_v103 (r := 1) (x := 46) rfl)
theorem dlaw_1650 : decode code 1650 = .ok (.invokevirtual 227, 3) := dk_182 (dq_lk dlaw_v103 (r := 2) (x := 182) rfl) (dq_lk dlaw_v103 (r := 3) (x := 0) rfl) (dq_lk dlaw_v103 (r := 4) (x := 227) rfl)
theorem dlaw_1653 : decode code 1653 = .ok (.istore 6, 2) := dk_54 (dq_lk dlaw_v103 (r := 5) (x := 54) rfl) (dq_lk dlaw_v103 (r := 6) (x := 6) rfl)
theorem dlaw_1655 : decode code 1655 = .ok (.goto 238, 3) := dk_167 (dq_lk dlaw_v103 (r := 7) (x := 167) rfl) (dq_lk dlaw_v103 (r := 8) (x := 0) rfl) (dq_lk dlaw_v103 (r := 9) (x := 238) rfl) (by decide +kernel)
theorem dlaw_1658 : decode code 1658 = .ok (.aload_n 1, 1) := dk_43 (dq_lk dlaw_v103 (r := 10) (x := 43) rfl)
theorem dlaw_1659 : decode code 1659 = .ok (.aload_n 0, 1) := dk_42 (dq_lk dlaw_v103 (r := 11) (x := 42) rfl)
theorem dlaw_1660 : decode code 1660 = .ok (.iload 4, 2) := dk_21 (dq_lk dlaw_v103 (r := 12) (x := 21) rfl) (dq_lk dlaw_v103 (r := 13) (x := 4) rfl)
theorem dlaw_1662 : decode code 1662 = .ok (.iconst 1, 1) := dk_4 (dq_lk dlaw_v103 (r := 14) (x := 4) rfl)
theorem dlaw_1663 : decode code 1663 = .ok (.iadd, 1) := dk_96 (dq_lk dlaw_v103 (r := 15) (x := 96) rfl)
theorem dlaw_1664 : decode code 1664 = .ok (.iaload, 1) := dk_46 (dq_lk dlaw_v104 (r := 0) (x := 46) rfl)
theorem dlaw_1665 : decode code 1665 = .ok (.aload_n 0, 1) := dk_42 (dq_lk dlaw_v104 (r := 1) (x := 42) rfl)
theorem dlaw_1666 : decode code 1666 = .ok (.iload 4, 2) := dk_21 (dq_lk dlaw_v104 (r := 2) (x := 21) rfl) (dq_lk dlaw_v104 (r := 3) (x := 4) rfl)
theorem dlaw_1668 : decode code 1668 = .ok (.iconst 2, 1) := dk_5 (dq_lk dlaw_v104 (r := 4) (x := 5) rfl)
theorem dlaw_1669 : decode code 1669 = .ok (.iadd, 1) := dk_96 (dq_lk dlaw_v104 (r := 5) (x := 96) rfl)
theorem dlaw_1670 : decode code 1670 = .ok (.iaload, 1) := dk_46 (dq_lk dlaw_v104 (r := 6) (x := 46) rfl)
theorem dlaw_1671 : decode code 1671 = .ok (.aload_n 3, 1) := dk_45 (dq_lk dlaw_v104 (r := 7) (x := 45) rfl)
theorem dlaw_1672 : decode code 1672 = .ok (.invokestatic 228, 3) := dk_184 (dq_lk dlaw_v104 (r := 8) (x := 184) rfl) (dq_lk dlaw_v104 (r := 9) (x := 0) rfl) (dq_lk dlaw_v104 (r := 10) (x := 228) rfl)
theorem dlaw_1675 : decode code 1675 = .ok (.istore 5, 2) := dk_54 (dq_lk dlaw_v104 (r := 11) (x := 54) rfl) (dq_lk dlaw_v104 (r := 12) (x := 5) rfl)
theorem dlaw_1677 : decode code 1677 = .ok (.aload_n 2, 1) := dk_44 (dq_lk dlaw_v104 (r := 13) (x := 44) rfl)
theorem dlaw_1678 : decode code 1678 = .ok (.aload_n 0, 1) := dk_42 (dq_lk dlaw_v104 (r := 14) (x := 42) rfl)
theorem dlaw_1679 : decode code 1679 = .ok (.iload 4, 2) := dk_21 (dq_lk dlaw_v104 (r := 15) (x := 21) rfl) (dq_lk dlaw_v105 (r := 0) (x := 4) rfl)
theorem dlaw_1681 : decode code 1681 = .ok (.iconst 1, 1) := dk_4 (dq_lk dlaw_v105 (r := 1) (x := 4) rfl)
theorem dlaw_1682 : decode code 1682 = .ok (.iadd, 1) := dk_96 (dq_lk dlaw_v105 (r := 2) (x := 96) rfl)
theorem dlaw_1683 : decode code 1683 = .ok (.iaload, 1) := dk_46 (dq_lk dlaw_v105 (r := 3) (x := 46) rfl)
theorem dlaw_1684 : decode code 1684 = .ok (.aload_n 0, 1) := dk_42 (dq_lk dlaw_v105 (r := 4) (x := 42) rfl)
theorem dlaw_1685 : decode code 1685 = .ok (.iload 4, 2) := dk_21 (dq_lk dlaw_v105 (r := 5) (x := 21) rfl) (dq_lk dlaw_v105 (r := 6) (x := 4) rfl)
theorem dlaw_1687 : decode code 1687 = .ok (.iconst 2, 1) := dk_5 (dq_lk dlaw_v105 (r := 7) (x := 5) rfl)
theorem dlaw_1688 : decode code 1688 = .ok (.iadd, 1) := dk_96 (dq_lk dlaw_v105 (r := 8) (x := 96) rfl)
theorem dlaw_1689 : decode code 1689 = .ok (.iaload, 1) := dk_46 (dq_lk dlaw_v105 (r := 9) (x := 46) rfl)
theorem dlaw_1690 : decode code 1690 = .ok (.invokevirtual 230, 3) := dk_182 (dq_lk dlaw_v105 (r := 10) (x := 182) rfl) (dq_lk dlaw_v105 (r := 11) (x := 0) rfl) (dq_lk dlaw_v105 (r := 12) (x := 230) rfl)
theorem dlaw_1693 : decode code 1693 = .ok (.istore 6, 2) := dk_54 (dq_lk dlaw_v105 (r := 13) (x := 54) rfl) (dq_lk dlaw_v105 (r := 14) (x := 6) rfl)
theorem dlaw_1695 : decode code 1695 = .ok (.goto 198, 3) := dk_167 (dq_lk dlaw_v105 (r := 15) (x := 167) rfl) (dq_lk dlaw_v106 (r := 0) (x := 0) rfl) (dq_lk dlaw_v106 (r := 1) (x := 198) rfl) (by decide +kernel)
theorem dlaw_1698 : decode code 1698 = .ok (.aload_n 1, 1) := dk_43 (dq_lk dlaw_v106 (r := 2) (x := 43) rfl)
theorem dlaw_1699 : decode code 1699 = .ok (.aload_n 0, 1) := dk_42 (dq_lk dlaw_v106 (r := 3) (x := 42) rfl)
theorem dlaw_1700 : decode code 1700 = .ok (.iload 4, 2) := dk_21 (dq_lk dlaw_v106 (r := 4) (x := 21) rfl) (dq_lk dlaw_v106 (r := 5) (x := 4) rfl)
theorem dlaw_1702 : decode code 1702 = .ok (.iconst 1, 1) := dk_4 (dq_lk dlaw_v106 (r := 6) (x := 4) rfl)
theorem dlaw_1703 : decode code 1703 = .ok (.iadd, 1) := dk_96 (dq_lk dlaw_v106 (r := 7) (x := 96) rfl)
theorem dlaw_1704 : decode code 1704 = .ok (.iaload, 1) := dk_46 (dq_lk dlaw_v106 (r := 8) (x := 46) rfl)
theorem dlaw_1705 : decode code 1705 = .ok (.aload_n 0, 1) := dk_42 (dq_lk dlaw_v106 (r := 9) (x := 42) rfl)
theorem dlaw_1706 : decode code 1706 = .ok (.iload 4, 2) := dk_21 (dq_lk dlaw_v106 (r := 10) (x := 21) rfl) (dq_lk dlaw_v106 (r := 11) (x := 4) rfl)
theorem dlaw_1708 : decode code 1708 = .ok (.iconst 2, 1) := dk_5 (dq_lk dlaw_v106 (r := 12) (x := 5) rfl)
theorem dlaw_1709 : decode code 1709 = .ok (.iadd, 1) := dk_96 (dq_lk dlaw_v106 (r := 13) (x := 96) rfl)
theorem dlaw_1710 : decode code 1710 = .ok (.iaload, 1) := dk_46 (dq_lk dlaw_v106 (r := 14) (x := 46) rfl)
theorem dlaw_1711 : decode code 1711 = .ok (.aload_n 3, 1) := dk_45 (dq_lk dlaw_v106 (r := 15) (x := 45) rfl)
theorem dlaw_1712 : decode code 1712 = .ok (.invokestatic 231, 3) := dk_184 (dq_lk dlaw_v107 (r := 0) (x := 184) rfl) (dq_lk dlaw_v107 (r := 1) (x := 0) rfl) (dq_lk dlaw_v107 (r := 2) (x := 231) rfl)
theorem dlaw_1715 : decode code 1715 = .ok (.istore 5, 2) := dk_54 (dq_lk dlaw_v107 (r := 3) (x := 54) rfl) (dq_lk dlaw_v107 (r := 4) (x := 5) rfl)
theorem dlaw_1717 : decode code 1717 = .ok (.aload_n 2, 1) := dk_44 (dq_lk dlaw_v107 (r := 5) (x := 44) rfl)
theorem dlaw_1718 : decode code 1718 = .ok (.aload_n 0, 1) := dk_42 (dq_lk dlaw_v107 (r := 6) (x := 42) rfl)
theorem dlaw_1719 : decode code 1719 = .ok (.iload 4, 2) := dk_21 (dq_lk dlaw_v107 (r := 7) (x := 21) rfl) (dq_lk dlaw_v107 (r := 8) (x := 4) rfl)
theorem dlaw_1721 : decode code 1721 = .ok (.iconst 1, 1) := dk_4 (dq_lk dlaw_v107 (r := 9) (x := 4) rfl)
theorem dlaw_1722 : decode code 1722 = .ok (.iadd, 1) := dk_96 (dq_lk dlaw_v107 (r := 10) (x := 96) rfl)
theorem dlaw_1723 : decode code 1723 = .ok (.iaload, 1) := dk_46 (dq_lk dlaw_v107 (r := 11) (x := 46) rfl)
theorem dlaw_1724 : decode code 1724 = .ok (.aload_n 0, 1) := dk_42 (dq_lk dlaw_v107 (r := 12) (x := 42) rfl)
theorem dlaw_1725 : decode code 1725 = .ok (.iload 4, 2) := dk_21 (dq_lk dlaw_v107 (r := 13) (x := 21) rfl) (dq_lk dlaw_v107 (r := 14) (x := 4) rfl)
theorem dlaw_1727 : decode code 1727 = .ok (.iconst 2, 1) := dk_5 (dq_lk dlaw_v107 (r := 15) (x := 5) rfl)
theorem dlaw_1728 : decode code 1728 = .ok (.iadd, 1) := dk_96 (dq_lk dlaw_v108 (r := 0) (x := 96) rfl)
theorem dlaw_1729 : decode code 1729 = .ok (.iaload, 1) := dk_46 (dq_lk dlaw_v108 (r := 1) (x := 46) rfl)
theorem dlaw_1730 : decode code 1730 = .ok (.invokevirtual 233, 3) := dk_182 (dq_lk dlaw_v108 (r := 2) (x := 182) rfl) (dq_lk dlaw_v108 (r := 3) (x := 0) rfl) (dq_lk dlaw_v108 (r := 4) (x := 233) rfl)
theorem dlaw_1733 : decode code 1733 = .ok (.istore 6, 2) := dk_54 (dq_lk dlaw_v108 (r := 5) (x := 54) rfl) (dq_lk dlaw_v108 (r := 6) (x := 6) rfl)
theorem dlaw_1735 : decode code 1735 = .ok (.goto 158, 3) := dk_167 (dq_lk dlaw_v108 (r := 7) (x := 167) rfl) (dq_lk dlaw_v108 (r := 8) (x := 0) rfl) (dq_lk dlaw_v108 (r := 9) (x := 158) rfl) (by decide +kernel)
theorem dlaw_1738 : decode code 1738 = .ok (.aload_n 1, 1) := dk_43 (dq_lk dlaw_v108 (r := 10) (x := 43) rfl)
theorem dlaw_1739 : decode code 1739 = .ok (.aload_n 0, 1) := dk_42 (dq_lk dlaw_v108 (r := 11) (x := 42) rfl)
theorem dlaw_1740 : decode code 1740 = .ok (.iload 4, 2) := dk_21 (dq_lk dlaw_v108 (r := 12) (x := 21) rfl) (dq_lk dlaw_v108 (r := 13) (x := 4) rfl)
theorem dlaw_1742 : decode code 1742 = .ok (.iconst 1, 1) := dk_4 (dq_lk dlaw_v108 (r := 14) (x := 4) rfl)
theorem dlaw_1743 : decode code 1743 = .ok (.iadd, 1) := dk_96 (dq_lk dlaw_v108 (r := 15) (x := 96) rfl)
theorem dlaw_1744 : decode code 1744 = .ok (.iaload, 1) := dk_46 (dq_lk dlaw_v109 (r := 0) (x := 46) rfl)
theorem dlaw_1745 : decode code 1745 = .ok (.aload_n 0, 1) := dk_42 (dq_lk dlaw_v109 (r := 1) (x := 42) rfl)
theorem dlaw_1746 : decode code 1746 = .ok (.iload 4, 2) := dk_21 (dq_lk dlaw_v109 (r := 2) (x := 21) rfl) (dq_lk dlaw_v109 (r := 3) (x := 4) rfl)
theorem dlaw_1748 : decode code 1748 = .ok (.iconst 2, 1) := dk_5 (dq_lk dlaw_v109 (r := 4) (x := 5) rfl)
theorem dlaw_1749 : decode code 1749 = .ok (.iadd, 1) := dk_96 (dq_lk dlaw_v109 (r := 5) (x := 96) rfl)
theorem dlaw_1750 : decode code 1750 = .ok (.iaload, 1) := dk_46 (dq_lk dlaw_v109 (r := 6) (x := 46) rfl)
theorem dlaw_1751 : decode code 1751 = .ok (.aload_n 0, 1) := dk_42 (dq_lk dlaw_v109 (r := 7) (x := 42) rfl)
theorem dlaw_1752 : decode code 1752 = .ok (.iload 4, 2) := dk_21 (dq_lk dlaw_v109 (r := 8) (x := 21) rfl) (dq_lk dlaw_v109 (r := 9) (x := 4) rfl)
theorem dlaw_1754 : decode code 1754 = .ok (.iconst 3, 1) := dk_6 (dq_lk dlaw_v109 (r := 10) (x := 6) rfl)
theorem dlaw_1755 : decode code 1755 = .ok (.iadd, 1) := dk_96 (dq_lk dlaw_v109 (r := 11) (x := 96) rfl)
theorem dlaw_1756 : decode code 1756 = .ok (.iaload, 1) := dk_46 (dq_lk dlaw_v109 (r := 12) (x := 46) rfl)
theorem dlaw_1757 : decode code 1757 = .ok (.aload_n 3, 1) := dk_45 (dq_lk dlaw_v109 (r := 13) (x := 45) rfl)
theorem dlaw_1758 : decode code 1758 = .ok (.invokestatic 234, 3) := dk_184 (dq_lk dlaw_v109 (r := 14) (x := 184) rfl) (dq_lk dlaw_v109 (r := 15) (x := 0) rfl) (dq_lk dlaw_v110 (r := 0) (x := 234) rfl)
theorem dlaw_1761 : decode code 1761 = .ok (.istore 5, 2) := dk_54 (dq_lk dlaw_v110 (r := 1) (x := 54) rfl) (dq_lk dlaw_v110 (r := 2) (x := 5) rfl)
theorem dlaw_1763 : decode code 1763 = .ok (.aload_n 2, 1) := dk_44 (dq_lk dlaw_v110 (r := 3) (x := 44) rfl)
theorem dlaw_1764 : decode code 1764 = .ok (.aload_n 0, 1) := dk_42 (dq_lk dlaw_v110 (r := 4) (x := 42) rfl)
theorem dlaw_1765 : decode code 1765 = .ok (.iload 4, 2) := dk_21 (dq_lk dlaw_v110 (r := 5) (x := 21) rfl) (dq_lk dlaw_v110 (r := 6) (x := 4) rfl)
theorem dlaw_1767 : decode code 1767 = .ok (.iconst 1, 1) := dk_4 (dq_lk dlaw_v110 (r := 7) (x := 4) rfl)
theorem dlaw_1768 : decode code 1768 = .ok (.iadd, 1) := dk_96 (dq_lk dlaw_v110 (r := 8) (x := 96) rfl)
theorem dlaw_1769 : decode code 1769 = .ok (.iaload, 1) := dk_46 (dq_lk dlaw_v110 (r := 9) (x := 46) rfl)
theorem dlaw_1770 : decode code 1770 = .ok (.aload_n 0, 1) := dk_42 (dq_lk dlaw_v110 (r := 10) (x := 42) rfl)
theorem dlaw_1771 : decode code 1771 = .ok (.iload 4, 2) := dk_21 (dq_lk dlaw_v110 (r := 11) (x := 21) rfl) (dq_lk dlaw_v110 (r := 12) (x := 4) rfl)
theorem dlaw_1773 : decode code 1773 = .ok (.iconst 2, 1) := dk_5 (dq_lk dlaw_v110 (r := 13) (x := 5) rfl)
theorem dlaw_1774 : decode code 1774 = .ok (.iadd, 1) := dk_96 (dq_lk dlaw_v110 (r := 14) (x := 96) rfl)
theorem dlaw_1775 : decode code 1775 = .ok (.iaload, 1) := dk_46 (dq_lk dlaw_v110 (r := 15) (x := 46) rfl)
theorem dlaw_1776 : decode code 1776 = .ok (.aload_n 0, 1) := dk_42 (dq_lk dlaw_v111 (r := 0) (x := 42) rfl)
theorem dlaw_1777 : decode code 1777 = .ok (.iload 4, 2) := dk_21 (dq_lk dlaw_v111 (r := 1) (x := 21) rfl) (dq_lk dlaw_v111 (r := 2) (x := 4) rfl)
theorem dlaw_1779 : decode code 1779 = .ok (.iconst 3, 1) := dk_6 (dq_lk dlaw_v111 (r := 3) (x := 6) rfl)
theorem dlaw_1780 : decode code 1780 = .ok (.iadd, 1) := dk_96 (dq_lk dlaw_v111 (r := 4) (x := 96) rfl)
theorem dlaw_1781 : decode code 1781 = .ok (.iaload, 1) := dk_46 (dq_lk dlaw_v111 (r := 5) (x := 46) rfl)
theorem dlaw_1782 : decode code 1782 = .ok (.invokevirtual 236, 3) := dk_182 (dq_lk dlaw_v111 (r := 6) (x := 182) rfl) (dq_lk dlaw_v111 (r := 7) (x := 0) rfl) (dq_lk dlaw_v111 (r := 8) (x := 236) rfl)
theorem dlaw_1785 : decode code 1785 = .ok (.istore 6, 2) := dk_54 (dq_lk dlaw_v111 (r := 9) (x := 54) rfl) (dq_lk dlaw_v111 (r := 10) (x := 6) rfl)
theorem dlaw_1787 : decode code 1787 = .ok (.aload_n 2, 1) := dk_44 (dq_lk dlaw_v111 (r := 11) (x := 44) rfl)
theorem dlaw_1788 : decode code 1788 = .ok (.invokevirtual 237, 3) := dk_182 (dq_lk dlaw_v111 (r := 12) (x := 182) rfl) (dq_lk dlaw_v111 (r := 13) (x := 0) rfl) (dq_lk dlaw_v111 (r := 14) (x := 237) rfl)
theorem dlaw_1791 : decode code 1791 = .ok (.iload 5, 2) := dk_21 (dq_lk dlaw_v111 (r := 15) (x := 21) rfl) (dq_lk dlaw_v112 (r := 0) (x := 5) rfl)
theorem dlaw_1793 : decode code 1793 = .ok (.if_icmp .eq 5, 3) := dk_159 (dq_lk dlaw_v112 (r := 1) (x := 159) rfl) (dq_lk dlaw_v112 (r := 2) (x := 0) rfl) (dq_lk dlaw_v112 (r := 3) (x := 5) rfl) (by decide +kernel)
theorem dlaw_1798 : decode code 1798 = .ok (.iload 5, 2) := dk_21 (dq_lk dlaw_v112 (r := 6) (x := 21) rfl) (dq_lk dlaw_v112 (r := 7) (x := 5) rfl)
theorem dlaw_1800 : decode code 1800 = .ok (.ifCond .ne 23, 3) := dk_154 (dq_lk dlaw_v112 (r := 8) (x := 154) rfl) (dq_lk dlaw_v112 (r := 9) (x := 0) rfl) (dq_lk dlaw_v112 (r := 10) (x := 23) rfl) (by decide +kernel)
theorem dlaw_1803 : decode code 1803 = .ok (.aload_n 3, 1) := dk_45 (dq_lk dlaw_v112 (r := 11) (x := 45) rfl)
theorem dlaw_1804 : decode code 1804 = .ok (.getfield 13, 3) := dk_180 (dq_lk dlaw_v112 (r := 12) (x := 180) rfl) (dq_lk dlaw_v112 (r := 13) (x := 0) rfl) (dq_lk dlaw_v112 (r := 14) (x := 13) rfl)
theorem dlaw_1807 : decode code 1807 = .ok (.iload 6, 2) := dk_21 (dq_lk dlaw_v112 (r := 15) (x := 21) rfl) (dq_lk dlaw_v113 (r := 0) (x := 6) rfl)
theorem dlaw_1809 : decode code 1809 = .ok (.ifCond .eq 7, 3) := dk_153 (dq_lk dlaw_v113 (r := 1) (x := 153) rfl) (dq_lk dlaw_v113 (r := 2) (x := 0) rfl) (dq_lk dlaw_v113 (r := 3) (x := 7) rfl) (by decide +kernel)
theorem dlaw_1812 : decode code 1812 = .ok (.lconst 1, 1) := dk_10 (dq_lk dlaw_v113 (r := 4) (x := 10) rfl)
theorem dlaw_1813 : decode code 1813 = .ok (.goto 4, 3) := dk_167 (dq_lk dlaw_v113 (r := 5) (x := 167) rfl) (dq_lk dlaw_v113 (r := 6) (x := 0) rfl) (dq_lk dlaw_v113 (r := 7) (x := 4) rfl) (by decide +kernel)
theorem dlaw_1816 : decode code 1816 = .ok (.lconst 0, 1) := dk_9 (dq_lk dlaw_v113 (r := 8) (x := 9) rfl)
theorem dlaw_1817 : decode code 1817 = .ok (.lcmp, 1) := dk_148 (dq_lk dlaw_v113 (r := 9) (x := 148) rfl)
theorem dlaw_1818 : decode code 1818 = .ok (.ifCond .eq 5, 3) := dk_153 (dq_lk dlaw_v113 (r := 10) (x := 153) rfl) (dq_lk dlaw_v113 (r := 11) (x := 0) rfl) (dq_lk dlaw_v113 (r := 12) (x := 5) rfl) (by decide +kernel)
theorem dlaw_1823 : decode code 1823 = .ok (.goto 70, 3) := dk_167 (dq_lk dlaw_v113 (r := 15) (x := 167) rfl) (dq_lk dlaw_v114 (r := 0) (x := 0) rfl) (dq_lk dlaw_v114 (r := 1) (x := 70) rfl) (by decide +kernel)
theorem dlaw_1826 : decode code 1826 = .ok (.aload_n 1, 1) := dk_43 (dq_lk dlaw_v114 (r := 2) (x := 43) rfl)
theorem dlaw_1827 : decode code 1827 = .ok (.invokevirtual 241, 3) := dk_182 (dq_lk dlaw_v114 (r := 3) (x := 182) rfl) (dq_lk dlaw_v114 (r := 4) (x := 0) rfl) (dq_lk dlaw_v114 (r := 5) (x := 241) rfl)
theorem dlaw_1830 : decode code 1830 = .ok (.pop, 1) := dk_87 (dq_lk dlaw_v114 (r := 6) (x := 87) rfl)
theorem dlaw_1831 : decode code 1831 = .ok (.aload_n 2, 1) := dk_44 (dq_lk dlaw_v114 (r := 7) (x := 44) rfl)
theorem dlaw_1832 : decode code 1832 = .ok (.invokevirtual 244, 3) := dk_182 (dq_lk dlaw_v114 (r := 8) (x := 182) rfl) (dq_lk dlaw_v114 (r := 9) (x := 0) rfl) (dq_lk dlaw_v114 (r := 10) (x := 244) rfl)
theorem dlaw_1835 : decode code 1835 = .ok (.pop, 1) := dk_87 (dq_lk dlaw_v114 (r := 11) (x := 87) rfl)
theorem dlaw_1836 : decode code 1836 = .ok (.goto 57, 3) := dk_167 (dq_lk dlaw_v114 (r := 12) (x := 167) rfl) (dq_lk dlaw_v114 (r := 13) (x := 0) rfl) (dq_lk dlaw_v114 (r := 14) (x := 57) rfl) (by decide +kernel)
theorem dlaw_1839 : decode code 1839 = .ok (.aload_n 1, 1) := dk_43 (dq_lk dlaw_v114 (r := 15) (x := 43) rfl)
theorem dlaw_1840 : decode code 1840 = .ok (.aload_n 0, 1) := dk_42 (dq_lk dlaw_v115 (r := 0) (x := 42) rfl)
theorem dlaw_1841 : decode code 1841 = .ok (.iload 4, 2) := dk_21 (dq_lk dlaw_v115 (r := 1) (x := 21) rfl) (dq_lk dlaw_v115 (r := 2) (x := 4) rfl)
theorem dlaw_1843 : decode code 1843 = .ok (.iconst 1, 1) := dk_4 (dq_lk dlaw_v115 (r := 3) (x := 4) rfl)
theorem dlaw_1844 : decode code 1844 = .ok (.iadd, 1) := dk_96 (dq_lk dlaw_v115 (r := 4) (x := 96) rfl)
theorem dlaw_1845 : decode code 1845 = .ok (.iaload, 1) := dk_46 (dq_lk dlaw_v115 (r := 5) (x := 46) rfl)
theorem dlaw_1846 : decode code 1846 = .ok (.aload_n 3, 1) := dk_45 (dq_lk dlaw_v115 (r := 6) (x := 45) rfl)
theorem dlaw_1847 : decode code 1847 = .ok (.invokestatic 245, 3) := dk_184 (dq_lk dlaw_v115 (r := 7) (x := 184) rfl) (dq_lk dlaw_v115 (r := 8) (x := 0) rfl) (dq_lk dlaw_v115 (r := 9) (x := 245) rfl)
theorem dlaw_1850 : decode code 1850 = .ok (.istore 5, 2) := dk_54 (dq_lk dlaw_v115 (r := 10) (x := 54) rfl) (dq_lk dlaw_v115 (r := 11) (x := 5) rfl)
theorem dlaw_1852 : decode code 1852 = .ok (.aload_n 2, 1) := dk_44 (dq_lk dlaw_v115 (r := 12) (x := 44) rfl)
theorem dlaw_1853 : decode code 1853 = .ok (.aload_n 0, 1) := dk_42 (dq_lk dlaw_v115 (r := 13) (x := 42) rfl)
theorem dlaw_1854 : decode code 1854 = .ok (.iload 4, 2) := dk_21 (dq_lk dlaw_v115 (r := 14) (x := 21) rfl) (dq_lk dlaw_v115 (r := 15) (x := 4) rfl)
theorem dlaw_1856 : decode code 1856 = .ok (.iconst 1, 1) := dk_4 (dq_lk dlaw_v116 (r := 0) (x := 4) rfl)
theorem dlaw_1857 : decode code 1857 = .ok (.iadd, 1) := dk_96 (dq_lk dlaw_v116 (r := 1) (x := 96) rfl)
theorem dlaw_1858 : decode code 1858 = .ok (.iaload, 1) := dk_46 (dq_lk dlaw_v116 (r := 2) (x := 46) rfl)
theorem dlaw_1859 : decode code 1859 = .ok (.invokevirtual 247, 3) := dk_182 (dq_lk dlaw_v116 (r := 3) (x := 182) rfl) (dq_lk dlaw_v116 (r := 4) (x := 0) rfl) (dq_lk dlaw_v116 (r := 5) (x := 247) rfl)
theorem dlaw_1862 : decode code 1862 = .ok (.istore 6, 2) := dk_54 (dq_lk dlaw_v116 (r := 6) (x := 54) rfl) (dq_lk dlaw_v116 (r := 7) (x := 6) rfl)
theorem dlaw_1864 : decode code 1864 = .ok (.goto 29, 3) := dk_167 (dq_lk dlaw_v116 (r := 8) (x := 167) rfl) (dq_lk dlaw_v116 (r := 9) (x := 0) rfl) (dq_lk dlaw_v116 (r := 10) (x := 29) rfl) (by decide +kernel)
theorem dlaw_1867 : decode code 1867 = .ok (.aload_n 1, 1) := dk_43 (dq_lk dlaw_v116 (r := 11) (x := 43) rfl)
theorem dlaw_1868 : decode code 1868 = .ok (.invokevirtual 248, 3) := dk_182 (dq_lk dlaw_v116 (r := 12) (x := 182) rfl) (dq_lk dlaw_v116 (r := 13) (x := 0) rfl) (dq_lk dlaw_v116 (r := 14) (x := 248) rfl)
theorem dlaw_1871 : decode code 1871 = .ok (.pop, 1) := dk_87 (dq_lk dlaw_v116 (r := 15) (x := 87) rfl)
theorem dlaw_1872 : decode code 1872 = .ok (.aload_n 2, 1) := dk_44 (dq_lk dlaw_v117 (r := 0) (x := 44) rfl)
theorem dlaw_1873 : decode code 1873 = .ok (.invokevirtual 252, 3) := dk_182 (dq_lk dlaw_v117 (r := 1) (x := 182) rfl) (dq_lk dlaw_v117 (r := 2) (x := 0) rfl) (dq_lk dlaw_v117 (r := 3) (x := 252) rfl)
theorem dlaw_1876 : decode code 1876 = .ok (.pop, 1) := dk_87 (dq_lk dlaw_v117 (r := 4) (x := 87) rfl)
theorem dlaw_1877 : decode code 1877 = .ok (.goto 16, 3) := dk_167 (dq_lk dlaw_v117 (r := 5) (x := 167) rfl) (dq_lk dlaw_v117 (r := 6) (x := 0) rfl) (dq_lk dlaw_v117 (r := 7) (x := 16) rfl) (by decide +kernel)
theorem dlaw_1880 : decode code 1880 = .ok (.aload_n 1, 1) := dk_43 (dq_lk dlaw_v117 (r := 8) (x := 43) rfl)
theorem dlaw_1881 : decode code 1881 = .ok (.invokevirtual 253, 3) := dk_182 (dq_lk dlaw_v117 (r := 9) (x := 182) rfl) (dq_lk dlaw_v117 (r := 10) (x := 0) rfl) (dq_lk dlaw_v117 (r := 11) (x := 253) rfl)
theorem dlaw_1884 : decode code 1884 = .ok (.pop2, 1) := dk_88 (dq_lk dlaw_v117 (r := 12) (x := 88) rfl)
theorem dlaw_1885 : decode code 1885 = .ok (.aload_n 2, 1) := dk_44 (dq_lk dlaw_v117 (r := 13) (x := 44) rfl)
theorem dlaw_1886 : decode code 1886 = .ok (.invokevirtual 257, 3) := dk_182 (dq_lk dlaw_v117 (r := 14) (x := 182) rfl) (dq_lk dlaw_v117 (r := 15) (x := 1) rfl) (dq_lk dlaw_v118 (r := 0) (x := 1) rfl)
theorem dlaw_1889 : decode code 1889 = .ok (.pop2, 1) := dk_88 (dq_lk dlaw_v118 (r := 1) (x := 88) rfl)
theorem dlaw_1890 : decode code 1890 = .ok (.goto 3, 3) := dk_167 (dq_lk dlaw_v118 (r := 2) (x := 167) rfl) (dq_lk dlaw_v118 (r := 3) (x := 0) rfl) (dq_lk dlaw_v118 (r := 4) (x := 3) rfl) (by decide +kernel)
theorem dlaw_1893 : decode code 1893 = .ok (.iinc 4 7, 3) := dk_132 (dq_lk dlaw_v118 (r := 5) (x := 132) rfl) (dq_lk dlaw_v118 (r := 6) (x := 4) rfl) (dq_lk dlaw_v118 (r := 7) (x := 7) rfl) (by decide +kernel)
theorem dlaw_1896 : decode code 1896 = .ok (.goto (-1869), 3) := dk_167 (dq_lk dlaw_v118 (r := 8) (x := 167) rfl) (dq_lk dlaw_v118 (r := 9) (x := 248) rfl) (dq_lk dlaw_v118 (r := 10) (x := 179) rfl) (by decide +kernel)
theorem dlaw_1899 : decode code 1899 = .ok (.iconst 1, 1) := dk_4 (dq_lk dlaw_v118 (r := 11) (x := 4) rfl)
theorem dlaw_1900 : decode code 1900 = .ok (.ireturn, 1) := dk_172 (dq_lk dlaw_v118 (r := 12) (x := 172) rfl)
end
-- 60 zrows
section
/-! EXACT NUMBERS: rows over iZ z and lZ z, the int and the long of an Int. (Own work.) -/
theorem iZ_mul (a b : Int) : iZ a * iZ b = iZ (a * b) := (Int32.ofInt_mul a b).symm
theorem iZ_neg (a : Int) : -iZ a = iZ (-a) := Int32.neg_ofInt
theorem iZ_self (x : Int32) : iZ x.toInt = x := Int32.ofInt_toInt x
theorem iZ_rng (x : Int32) : -2147483648 ≤ x.toInt ∧ x.toInt ≤ 2147483647 := by
  have h1 := Int32.le_toInt x
  have h2 := Int32.toInt_lt x
  omega
theorem i2lZ {a : Int} (h : -2147483648 ≤ a ∧ a ≤ 2147483647) : (iZ a).toInt64 = lZ a := by
  apply Int64.toInt_inj.mp
  rw [Int32.toInt_toInt64, iZ_toInt h.1 (by omega), lZ_toInt (by omega) (by omega)]
theorem l2iZ (a : Int) : (lZ a).toInt32 = iZ a := Int64.toInt32_ofInt
theorem iZ_ne0 {b : Int} (h1 : 1 ≤ b) (h2 : b ≤ 2147483647) : ¬ iZ b = 0 := by
  intro h
  have h3 := congrArg Int32.toInt h
  rw [iZ_toInt (by omega) (by omega)] at h3
  have h4 : (0 : Int32).toInt = 0 := rfl
  omega
theorem iZ_div {a b : Int} (h1 : 0 ≤ a) (h2 : a ≤ 2147483647) (h3 : 1 ≤ b) (h4 : b ≤ 2147483647) : iZ a / iZ b = iZ (a / b) := by
  apply Int32.toInt_inj.mp
  have hm : iZ a ≠ Int32.minValue := by
    intro h
    have h5 := congrArg Int32.toInt h
    rw [iZ_toInt (by omega) (by omega)] at h5
    have h6 : Int32.minValue.toInt = -2147483648 := rfl
    omega
  have hq : 0 ≤ a / b ∧ a / b ≤ a := ⟨Int.ediv_nonneg h1 (by omega), Int.ediv_le_self b h1⟩
  rw [Int32.toInt_div_of_ne_left _ _ hm, iZ_toInt (by omega) (by omega), iZ_toInt (by omega) (by omega), iZ_toInt (by omega) (by omega), Int.tdiv_eq_ediv_of_nonneg h1]
theorem iZ_inj {a b : Int} (ha : -2147483648 ≤ a ∧ a ≤ 2147483647) (hb : -2147483648 ≤ b ∧ b ≤ 2147483647) : iZ a = iZ b ↔ a = b := by
  constructor
  · intro h
    have h3 := congrArg Int32.toInt h
    rwa [iZ_toInt ha.1 (by omega), iZ_toInt hb.1 (by omega)] at h3
  · exact fun h => by rw [h]
theorem lZ_le {a b : Int} (ha : -9223372036854775808 ≤ a ∧ a ≤ 9223372036854775807) (hb : -9223372036854775808 ≤ b ∧ b ≤ 9223372036854775807) : lZ a ≤ lZ b ↔ a ≤ b := by
  rw [Int64.le_iff_toInt_le, lZ_toInt ha.1 (by omega), lZ_toInt hb.1 (by omega)]
theorem lZ_inj {a b : Int} (ha : -9223372036854775808 ≤ a ∧ a ≤ 9223372036854775807) (hb : -9223372036854775808 ≤ b ∧ b ≤ 9223372036854775807) : lZ a = lZ b ↔ a = b := by
  constructor
  · intro h
    have h3 := congrArg Int64.toInt h
    rwa [lZ_toInt ha.1 (by omega), lZ_toInt hb.1 (by omega)] at h3
  · exact fun h => by rw [h]
theorem zi {a b : Int} (h : a = b) : some (Value.int (iZ a)) = some (Value.int (iZ b)) := by rw [h]
theorem zl {a b : Int} (h : a = b) : some (Value.long (lZ a)) = some (Value.long (lZ b)) := by rw [h]
/-- a boolean on the stack -/
def b2i (b : Bool) : Int32 := cond b 1 0
theorem b2i_B (b : Bool) : mB (b2i b) := by cases b <;> simp [b2i, mB]
theorem b2i_n (b : Bool) : narrow .boolean (.int (b2i b)) = .int (b2i b) := mB_n (b2i_B b)
theorem b2i_iZ (b : Bool) : b2i b = iZ (cond b 1 0) := by cases b <;> rfl
theorem zb {a b : Bool} (h : a = b) : some (Value.int (b2i a)) = some (Value.int (b2i b)) := by rw [h]
theorem f_within_Z {x a b : Int} (hx : -9223372036854775808 ≤ x ∧ x ≤ 9223372036854775807) (ha : -9223372036854775808 ≤ a ∧ a ≤ 9223372036854775807) (hb : -9223372036854775808 ≤ b ∧ b ≤ 9223372036854775807) : f_isWithin (lZ x) (lZ a) (lZ b) = b2i (decide (a ≤ x ∧ x ≤ b)) := by
  unfold f_isWithin
  have e : (lZ a ≤ lZ x ∧ lZ x ≤ lZ b) ↔ (a ≤ x ∧ x ≤ b) := by rw [lZ_le ha hx, lZ_le hx hb]
  by_cases h : a ≤ x ∧ x ≤ b
  · rw [if_pos (e.mpr h), decide_eq_true h]; rfl
  · rw [if_neg (fun q => h (e.mp q)), decide_eq_false h]; rfl
theorem vp_in_Z {a : Int} {N : Nat} (h1 : 0 ≤ a) (h2 : a < N) (hN : N < 2 ^ 31) : vp_in (iZ a) N := vp_in_iff.mpr (by rw [iZ_toInt (by omega) (by omega)]; omega)
theorem vp_in_Zi {a : Int} {N : Nat} (ha : -2147483648 ≤ a ∧ a ≤ 2147483647) : vp_in (iZ a) N ↔ 0 ≤ a ∧ a < N := by
  rw [vp_in_iff, iZ_toInt ha.1 (by omega)]
theorem iZ_clamp {a : Int} {j : Nat} (h : a = (j : Int)) (hj : j < 2 ^ 31) : (iZ a).toNatClampNeg = j := by
  rw [h, ← iZ_nI, nI_clamp hj]
theorem iZ_0 : iZ 0 = 0 := by decide +kernel
theorem z0_eq {a : Int} (ha : -2147483648 ≤ a ∧ a ≤ 2147483647) : iZ a = 0 ↔ a = 0 := by
  have h := iZ_inj ha (b := 0) (by omega)
  rwa [iZ_0] at h
theorem z0_lt {a : Int} (ha : -2147483648 ≤ a ∧ a ≤ 2147483647) : iZ a < 0 ↔ a < 0 := by
  have h := iZ_lt ha.1 (by omega) (b := 0) (by omega) (by omega)
  rwa [iZ_0] at h
theorem z0_ge {a : Int} (ha : -2147483648 ≤ a ∧ a ≤ 2147483647) : 0 ≤ iZ a ↔ 0 ≤ a := by
  have h := iZ_le (a := 0) (by omega) (by omega) ha.1 (by omega)
  rwa [iZ_0] at h
theorem z0_gt {a : Int} (ha : -2147483648 ≤ a ∧ a ≤ 2147483647) : 0 < iZ a ↔ 0 < a := by
  have h := iZ_lt (a := 0) (by omega) (by omega) ha.1 (by omega)
  rwa [iZ_0] at h
theorem z0_le {a : Int} (ha : -2147483648 ≤ a ∧ a ≤ 2147483647) : iZ a ≤ 0 ↔ a ≤ 0 := by
  have h := iZ_le ha.1 (by omega) (b := 0) (by omega) (by omega)
  rwa [iZ_0] at h
section ZR
variable {X : mC} {own : String} {cc : ByteArray} {nL : Nat} {R : Room} {hh : List (Nat × Nat × Nat × Nat)} {tys : List (ClassId × FieldType)} {pc : Nat} {lv : List (Nat × Option Value)} {st : List Value} {ws : va_W} {k n : Nat}

theorem r_iaddZ {a b : Int} (hX : mOK X own cc nL R hh tys) (hd : decode cc pc = .ok (.iadd, 1)) (kk : mV X (pc + 1) lv (.int (iZ (a + b)) :: st) ws k n) : mV X pc lv (.int (iZ b) :: .int (iZ a) :: st) ws k n := by
  rw [← iZ_add] at kk
  exact r_iadd hX hd kk

theorem r_laddZ {a b : Int} (hX : mOK X own cc nL R hh tys) (hd : decode cc pc = .ok (.ladd, 1)) (kk : mV X (pc + 1) lv (.long (lZ (a + b)) :: st) ws k n) : mV X pc lv (.long (lZ b) :: .long (lZ a) :: st) ws k n := by
  rw [← lZ_add] at kk
  exact r_ladd hX hd kk

theorem r_isubZ {a b : Int} (hX : mOK X own cc nL R hh tys) (hd : decode cc pc = .ok (.isub, 1)) (kk : mV X (pc + 1) lv (.int (iZ (a - b)) :: st) ws k n) : mV X pc lv (.int (iZ b) :: .int (iZ a) :: st) ws k n := by
  rw [← iZ_sub] at kk
  exact r_isub hX hd kk

theorem r_lsubZ {a b : Int} (hX : mOK X own cc nL R hh tys) (hd : decode cc pc = .ok (.lsub, 1)) (kk : mV X (pc + 1) lv (.long (lZ (a - b)) :: st) ws k n) : mV X pc lv (.long (lZ b) :: .long (lZ a) :: st) ws k n := by
  rw [← lZ_sub] at kk
  exact r_lsub hX hd kk

theorem r_imulZ {a b : Int} (hX : mOK X own cc nL R hh tys) (hd : decode cc pc = .ok (.imul, 1)) (kk : mV X (pc + 1) lv (.int (iZ (a * b)) :: st) ws k n) : mV X pc lv (.int (iZ b) :: .int (iZ a) :: st) ws k n := by
  rw [← iZ_mul] at kk
  exact r_imul hX hd kk

theorem r_lmulZ {a b : Int} (hX : mOK X own cc nL R hh tys) (hd : decode cc pc = .ok (.lmul, 1)) (kk : mV X (pc + 1) lv (.long (lZ (a * b)) :: st) ws k n) : mV X pc lv (.long (lZ b) :: .long (lZ a) :: st) ws k n := by
  rw [← lZ_mul] at kk
  exact r_lmul hX hd kk

theorem r_inegZ {a : Int} (hX : mOK X own cc nL R hh tys) (hd : decode cc pc = .ok (.ineg, 1)) (kk : mV X (pc + 1) lv (.int (iZ (-a)) :: st) ws k n) : mV X pc lv (.int (iZ a) :: st) ws k n := by
  rw [← iZ_neg] at kk
  exact r_ineg hX hd kk

theorem r_lnegZ {a : Int} (hX : mOK X own cc nL R hh tys) (hd : decode cc pc = .ok (.lneg, 1)) (kk : mV X (pc + 1) lv (.long (lZ (-a)) :: st) ws k n) : mV X pc lv (.long (lZ a) :: st) ws k n := by
  rw [← lZ_neg] at kk
  exact r_lneg hX hd kk

theorem r_i2lZ {a : Int} (hX : mOK X own cc nL R hh tys) (hd : decode cc pc = .ok (.i2l, 1)) (h : -2147483648 ≤ a ∧ a ≤ 2147483647) (kk : mV X (pc + 1) lv (.long (lZ a) :: st) ws k n) : mV X pc lv (.int (iZ a) :: st) ws k n := by
  rw [← i2lZ h] at kk
  exact r_i2l hX hd kk

theorem r_l2iZ {a : Int} (hX : mOK X own cc nL R hh tys) (hd : decode cc pc = .ok (.l2i, 1)) (kk : mV X (pc + 1) lv (.int (iZ a) :: st) ws k n) : mV X pc lv (.long (lZ a) :: st) ws k n := by
  rw [← l2iZ a] at kk
  exact r_l2i hX hd kk

theorem r_idivZ {a b : Int} (hX : mOK X own cc nL R hh tys) (hd : decode cc pc = .ok (.idiv, 1)) (ha : 0 ≤ a ∧ a ≤ 2147483647) (hb : 1 ≤ b ∧ b ≤ 2147483647) (kk : mV X (pc + 1) lv (.int (iZ (a / b)) :: st) ws k n) : mV X pc lv (.int (iZ b) :: .int (iZ a) :: st) ws k n := by
  rw [← iZ_div ha.1 ha.2 hb.1 hb.2] at kk
  exact r_idiv hX hd (iZ_ne0 hb.1 hb.2) kk

theorem r_iremZ {a b : Int} (hX : mOK X own cc nL R hh tys) (hd : decode cc pc = .ok (.irem, 1)) (ha : 0 ≤ a ∧ a ≤ 2147483647) (hb : 1 ≤ b ∧ b ≤ 2147483647) (kk : mV X (pc + 1) lv (.int (iZ (a % b)) :: st) ws k n) : mV X pc lv (.int (iZ b) :: .int (iZ a) :: st) ws k n := by
  rw [Int.emod_def, Int.mul_comm, ← iZ_sub, ← iZ_mul, ← iZ_div ha.1 ha.2 hb.1 hb.2] at kk
  exact r_irem hX hd (iZ_ne0 hb.1 hb.2) kk

theorem r_iconstZ {z : Int} (hX : mOK X own cc nL R hh tys) (hd : decode cc pc = .ok (.iconst z, 1)) (kk : mV X (pc + 1) lv (.int (iZ z) :: st) ws k n) : mV X pc lv st ws k n := r_iconst hX hd rfl kk
theorem r_bipushZ {z : Int} (hX : mOK X own cc nL R hh tys) (hd : decode cc pc = .ok (.bipush z, 2)) (hz : (Int8.ofInt z).toInt32 = iZ z) (kk : mV X (pc + 2) lv (.int (iZ z) :: st) ws k n) : mV X pc lv st ws k n := r_bipush hX hd hz kk
theorem r_sipushZ {z : Int} (hX : mOK X own cc nL R hh tys) (hd : decode cc pc = .ok (.sipush z, 3)) (hz : (Int16.ofInt z).toInt32 = iZ z) (kk : mV X (pc + 3) lv (.int (iZ z) :: st) ws k n) : mV X pc lv st ws k n := r_sipush hX hd hz kk
theorem r_lconstZ {z : Fin 2} {v : Int} (hX : mOK X own cc nL R hh tys) (hd : decode cc pc = .ok (.lconst z, 1)) (hv : Int64.ofNat (z : Nat) = lZ v) (kk : mV X (pc + 1) lv (.long (lZ v) :: st) ws k n) : mV X pc lv st ws k n := r_lconst hX hd hv kk
theorem r_ldcZ {v : Int32} {z : Int} {idx : Nat} (hX : mOK X own cc nL R hh tys) (hc : Cond.constant own idx v ∈ mW) (hv : v = iZ z) (hd : decode cc pc = .ok (.ldc idx, 2)) (kk : mV X (pc + 2) lv (.int (iZ z) :: st) ws k n) : mV X pc lv st ws k n := r_ldc hX hc hd (by rw [hv]; exact kk)
theorem r_ldc2Z {v : Int64} {z : Int} {idx : Nat} (hX : mOK X own cc nL R hh tys) (hc : Cond.constantLong own idx v ∈ mW) (hv : v = lZ z) (hd : decode cc pc = .ok (.ldc2_w idx, 3)) (kk : mV X (pc + 3) lv (.long (lZ z) :: st) ws k n) : mV X pc lv st ws k n := r_ldc2 hX hc hd (by rw [hv]; exact kk)

theorem r_if_eqZ {a : Int} {off : Int} {tgt : Nat} (hX : mOK X own cc nL R hh tys) (hd : decode cc pc = .ok (.ifCond .eq off, 3)) (ht : (pc : Int) + off = (tgt : Int)) (ha : -2147483648 ≤ a ∧ a ≤ 2147483647) (kt : a = 0 → mV X tgt lv st ws k n) (kf : ¬ (a = 0) → mV X (pc + 3) lv st ws k n) : mV X pc lv (.int (iZ a) :: st) ws k n :=
  r_if_eq hX hd ht (fun q => kt ((z0_eq ha).mp q)) (fun q => kf (fun z => q ((z0_eq ha).mpr z)))

theorem r_icmp_eqZ {a b : Int} {off : Int} {tgt : Nat} (hX : mOK X own cc nL R hh tys) (hd : decode cc pc = .ok (.if_icmp .eq off, 3)) (ht : (pc : Int) + off = (tgt : Int)) (ha : -2147483648 ≤ a ∧ a ≤ 2147483647) (hb : -2147483648 ≤ b ∧ b ≤ 2147483647) (kt : a = b → mV X tgt lv st ws k n) (kf : ¬ (a = b) → mV X (pc + 3) lv st ws k n) : mV X pc lv (.int (iZ b) :: .int (iZ a) :: st) ws k n :=
  r_icmp_eq hX hd ht (fun q => kt ((iZ_inj ha hb).mp q)) (fun q => kf (fun z => q ((iZ_inj ha hb).mpr z)))

theorem r_lif_eqZ {a b : Int} {off : Int} {tgt : Nat} (hX : mOK X own cc nL R hh tys) (hd : decode cc pc = .ok (.lcmp, 1)) (hd2 : decode cc (pc + 1) = .ok (.ifCond .eq off, 3)) (ht : ((pc + 1 : Nat) : Int) + off = (tgt : Int)) (ha : -9223372036854775808 ≤ a ∧ a ≤ 9223372036854775807) (hb : -9223372036854775808 ≤ b ∧ b ≤ 9223372036854775807) (kt : a = b → mV X tgt lv st ws k n) (kf : ¬ (a = b) → mV X (pc + 4) lv st ws k n) : mV X pc lv (.long (lZ b) :: .long (lZ a) :: st) ws k n := by
  refine r_lcmp hX hd ?_
  exact r_if_eq hX hd2 ht (fun q => kt (((lg_cmp_eq _ _).trans (lZ_inj ha hb)).mp q)) (fun q => kf (fun z => q (((lg_cmp_eq _ _).trans (lZ_inj ha hb)).mpr z)))

theorem r_if_neZ {a : Int} {off : Int} {tgt : Nat} (hX : mOK X own cc nL R hh tys) (hd : decode cc pc = .ok (.ifCond .ne off, 3)) (ht : (pc : Int) + off = (tgt : Int)) (ha : -2147483648 ≤ a ∧ a ≤ 2147483647) (kt : ¬ a = 0 → mV X tgt lv st ws k n) (kf : ¬ (¬ a = 0) → mV X (pc + 3) lv st ws k n) : mV X pc lv (.int (iZ a) :: st) ws k n :=
  r_if_ne hX hd ht (fun q => kt ((not_congr (z0_eq ha)).mp q)) (fun q => kf (fun z => q ((not_congr (z0_eq ha)).mpr z)))

theorem r_icmp_neZ {a b : Int} {off : Int} {tgt : Nat} (hX : mOK X own cc nL R hh tys) (hd : decode cc pc = .ok (.if_icmp .ne off, 3)) (ht : (pc : Int) + off = (tgt : Int)) (ha : -2147483648 ≤ a ∧ a ≤ 2147483647) (hb : -2147483648 ≤ b ∧ b ≤ 2147483647) (kt : ¬ a = b → mV X tgt lv st ws k n) (kf : ¬ (¬ a = b) → mV X (pc + 3) lv st ws k n) : mV X pc lv (.int (iZ b) :: .int (iZ a) :: st) ws k n :=
  r_icmp_ne hX hd ht (fun q => kt ((not_congr (iZ_inj ha hb)).mp q)) (fun q => kf (fun z => q ((not_congr (iZ_inj ha hb)).mpr z)))

theorem r_lif_neZ {a b : Int} {off : Int} {tgt : Nat} (hX : mOK X own cc nL R hh tys) (hd : decode cc pc = .ok (.lcmp, 1)) (hd2 : decode cc (pc + 1) = .ok (.ifCond .ne off, 3)) (ht : ((pc + 1 : Nat) : Int) + off = (tgt : Int)) (ha : -9223372036854775808 ≤ a ∧ a ≤ 9223372036854775807) (hb : -9223372036854775808 ≤ b ∧ b ≤ 9223372036854775807) (kt : ¬ a = b → mV X tgt lv st ws k n) (kf : ¬ (¬ a = b) → mV X (pc + 4) lv st ws k n) : mV X pc lv (.long (lZ b) :: .long (lZ a) :: st) ws k n := by
  refine r_lcmp hX hd ?_
  exact r_if_ne hX hd2 ht (fun q => kt ((not_congr ((lg_cmp_eq _ _).trans (lZ_inj ha hb))).mp q)) (fun q => kf (fun z => q ((not_congr ((lg_cmp_eq _ _).trans (lZ_inj ha hb))).mpr z)))

theorem r_if_ltZ {a : Int} {off : Int} {tgt : Nat} (hX : mOK X own cc nL R hh tys) (hd : decode cc pc = .ok (.ifCond .lt off, 3)) (ht : (pc : Int) + off = (tgt : Int)) (ha : -2147483648 ≤ a ∧ a ≤ 2147483647) (kt : a < 0 → mV X tgt lv st ws k n) (kf : ¬ (a < 0) → mV X (pc + 3) lv st ws k n) : mV X pc lv (.int (iZ a) :: st) ws k n :=
  r_if_lt hX hd ht (fun q => kt ((z0_lt ha).mp q)) (fun q => kf (fun z => q ((z0_lt ha).mpr z)))

theorem r_icmp_ltZ {a b : Int} {off : Int} {tgt : Nat} (hX : mOK X own cc nL R hh tys) (hd : decode cc pc = .ok (.if_icmp .lt off, 3)) (ht : (pc : Int) + off = (tgt : Int)) (ha : -2147483648 ≤ a ∧ a ≤ 2147483647) (hb : -2147483648 ≤ b ∧ b ≤ 2147483647) (kt : a < b → mV X tgt lv st ws k n) (kf : ¬ (a < b) → mV X (pc + 3) lv st ws k n) : mV X pc lv (.int (iZ b) :: .int (iZ a) :: st) ws k n :=
  r_icmp_lt hX hd ht (fun q => kt ((iZ_lt ha.1 (by omega) hb.1 (by omega)).mp q)) (fun q => kf (fun z => q ((iZ_lt ha.1 (by omega) hb.1 (by omega)).mpr z)))

theorem r_if_geZ {a : Int} {off : Int} {tgt : Nat} (hX : mOK X own cc nL R hh tys) (hd : decode cc pc = .ok (.ifCond .ge off, 3)) (ht : (pc : Int) + off = (tgt : Int)) (ha : -2147483648 ≤ a ∧ a ≤ 2147483647) (kt : 0 ≤ a → mV X tgt lv st ws k n) (kf : ¬ (0 ≤ a) → mV X (pc + 3) lv st ws k n) : mV X pc lv (.int (iZ a) :: st) ws k n :=
  r_if_ge hX hd ht (fun q => kt ((z0_ge ha).mp q)) (fun q => kf (fun z => q ((z0_ge ha).mpr z)))

theorem r_icmp_geZ {a b : Int} {off : Int} {tgt : Nat} (hX : mOK X own cc nL R hh tys) (hd : decode cc pc = .ok (.if_icmp .ge off, 3)) (ht : (pc : Int) + off = (tgt : Int)) (ha : -2147483648 ≤ a ∧ a ≤ 2147483647) (hb : -2147483648 ≤ b ∧ b ≤ 2147483647) (kt : b ≤ a → mV X tgt lv st ws k n) (kf : ¬ (b ≤ a) → mV X (pc + 3) lv st ws k n) : mV X pc lv (.int (iZ b) :: .int (iZ a) :: st) ws k n :=
  r_icmp_ge hX hd ht (fun q => kt ((iZ_le hb.1 (by omega) ha.1 (by omega)).mp q)) (fun q => kf (fun z => q ((iZ_le hb.1 (by omega) ha.1 (by omega)).mpr z)))

theorem r_lif_geZ {a b : Int} {off : Int} {tgt : Nat} (hX : mOK X own cc nL R hh tys) (hd : decode cc pc = .ok (.lcmp, 1)) (hd2 : decode cc (pc + 1) = .ok (.ifCond .ge off, 3)) (ht : ((pc + 1 : Nat) : Int) + off = (tgt : Int)) (ha : -9223372036854775808 ≤ a ∧ a ≤ 9223372036854775807) (hb : -9223372036854775808 ≤ b ∧ b ≤ 9223372036854775807) (kt : b ≤ a → mV X tgt lv st ws k n) (kf : ¬ (b ≤ a) → mV X (pc + 4) lv st ws k n) : mV X pc lv (.long (lZ b) :: .long (lZ a) :: st) ws k n := by
  refine r_lcmp hX hd ?_
  exact r_if_ge hX hd2 ht (fun q => kt (((lg_cmp_ge _ _).trans (lZ_le hb ha)).mp q)) (fun q => kf (fun z => q (((lg_cmp_ge _ _).trans (lZ_le hb ha)).mpr z)))

theorem r_if_gtZ {a : Int} {off : Int} {tgt : Nat} (hX : mOK X own cc nL R hh tys) (hd : decode cc pc = .ok (.ifCond .gt off, 3)) (ht : (pc : Int) + off = (tgt : Int)) (ha : -2147483648 ≤ a ∧ a ≤ 2147483647) (kt : 0 < a → mV X tgt lv st ws k n) (kf : ¬ (0 < a) → mV X (pc + 3) lv st ws k n) : mV X pc lv (.int (iZ a) :: st) ws k n :=
  r_if_gt hX hd ht (fun q => kt ((z0_gt ha).mp q)) (fun q => kf (fun z => q ((z0_gt ha).mpr z)))

theorem r_icmp_gtZ {a b : Int} {off : Int} {tgt : Nat} (hX : mOK X own cc nL R hh tys) (hd : decode cc pc = .ok (.if_icmp .gt off, 3)) (ht : (pc : Int) + off = (tgt : Int)) (ha : -2147483648 ≤ a ∧ a ≤ 2147483647) (hb : -2147483648 ≤ b ∧ b ≤ 2147483647) (kt : b < a → mV X tgt lv st ws k n) (kf : ¬ (b < a) → mV X (pc + 3) lv st ws k n) : mV X pc lv (.int (iZ b) :: .int (iZ a) :: st) ws k n :=
  r_icmp_gt hX hd ht (fun q => kt ((iZ_lt hb.1 (by omega) ha.1 (by omega)).mp q)) (fun q => kf (fun z => q ((iZ_lt hb.1 (by omega) ha.1 (by omega)).mpr z)))

theorem r_if_leZ {a : Int} {off : Int} {tgt : Nat} (hX : mOK X own cc nL R hh tys) (hd : decode cc pc = .ok (.ifCond .le off, 3)) (ht : (pc : Int) + off = (tgt : Int)) (ha : -2147483648 ≤ a ∧ a ≤ 2147483647) (kt : a ≤ 0 → mV X tgt lv st ws k n) (kf : ¬ (a ≤ 0) → mV X (pc + 3) lv st ws k n) : mV X pc lv (.int (iZ a) :: st) ws k n :=
  r_if_le hX hd ht (fun q => kt ((z0_le ha).mp q)) (fun q => kf (fun z => q ((z0_le ha).mpr z)))

theorem r_lif_leZ {a b : Int} {off : Int} {tgt : Nat} (hX : mOK X own cc nL R hh tys) (hd : decode cc pc = .ok (.lcmp, 1)) (hd2 : decode cc (pc + 1) = .ok (.ifCond .le off, 3)) (ht : ((pc + 1 : Nat) : Int) + off = (tgt : Int)) (ha : -9223372036854775808 ≤ a ∧ a ≤ 9223372036854775807) (hb : -9223372036854775808 ≤ b ∧ b ≤ 9223372036854775807) (kt : a ≤ b → mV X tgt lv st ws k n) (kf : ¬ (a ≤ b) → mV X (pc + 4) lv st ws k n) : mV X pc lv (.long (lZ b) :: .long (lZ a) :: st) ws k n := by
  refine r_lcmp hX hd ?_
  exact r_if_le hX hd2 ht (fun q => kt (((lg_cmp_le _ _).trans (lZ_le ha hb)).mp q)) (fun q => kf (fun z => q (((lg_cmp_le _ _).trans (lZ_le ha hb)).mpr z)))

theorem b2i_0 (b : Bool) : b2i b = 0 ↔ b = false := by cases b <;> simp [b2i]
theorem r_if_eqB {b : Bool} {off : Int} {tgt : Nat} (hX : mOK X own cc nL R hh tys) (hd : decode cc pc = .ok (.ifCond .eq off, 3)) (ht : (pc : Int) + off = (tgt : Int)) (kt : b = false → mV X tgt lv st ws k n) (kf : b = true → mV X (pc + 3) lv st ws k n) : mV X pc lv (.int (b2i b) :: st) ws k n :=
  r_if_eq hX hd ht (fun q => kt ((b2i_0 b).mp q)) (fun q => kf (by cases b; exact absurd rfl q; rfl))
theorem r_if_neB {b : Bool} {off : Int} {tgt : Nat} (hX : mOK X own cc nL R hh tys) (hd : decode cc pc = .ok (.ifCond .ne off, 3)) (ht : (pc : Int) + off = (tgt : Int)) (kt : b = true → mV X tgt lv st ws k n) (kf : b = false → mV X (pc + 3) lv st ws k n) : mV X pc lv (.int (b2i b) :: st) ws k n :=
  r_if_ne hX hd ht (fun q => kt (by cases b; exact absurd rfl q; rfl)) (fun q => kf ((b2i_0 b).mp (Classical.not_not.mp q)))
theorem r_ialdZ {a : Nat} {n0 : Nat} {cA : ClassId} {f : Nat → Int32} {i : Int} (hX : mOK X own cc nL R hh tys) (q0 t0 : Nat) (he : ws[q0]? = some (a, .inl (cA, n0, .inl f))) (ht : tys[t0]? = some (cA, .int)) (j : Nat) (hj : i = (j : Int)) (hn : j < n0) (hN : n0 < 2 ^ 31) (hd : decode cc pc = .ok (.iaload, 1)) (kk : mV X (pc + 1) lv (.int (f j) :: st) ws k n) : mV X pc lv (.int (iZ i) :: .ref a :: st) ws k n :=
  r_iald hX q0 t0 he ht (vp_in_Z (by omega) (by omega) hN) hd (by rw [iZ_clamp hj (by omega)]; exact kk)
theorem r_laldZ {a : Nat} {n0 : Nat} {cA : ClassId} {f : Nat → Int64} {i : Int} (hX : mOK X own cc nL R hh tys) (q0 t0 : Nat) (he : ws[q0]? = some (a, .inl (cA, n0, .inr (.inl f)))) (ht : tys[t0]? = some (cA, .long)) (j : Nat) (hj : i = (j : Int)) (hn : j < n0) (hN : n0 < 2 ^ 31) (hd : decode cc pc = .ok (.laload, 1)) (kk : mV X (pc + 1) lv (.long (f j) :: st) ws k n) : mV X pc lv (.int (iZ i) :: .ref a :: st) ws k n :=
  r_lald hX q0 t0 he ht (vp_in_Z (by omega) (by omega) hN) hd (by rw [iZ_clamp hj (by omega)]; exact kk)
theorem r_iastZ {a : Nat} {n0 : Nat} {cA : ClassId} {f : Nat → Int32} {i : Int} {x : Int32} (hX : mOK X own cc nL R hh tys) (q0 t0 : Nat) (he : ws[q0]? = some (a, .inl (cA, n0, .inl f))) (ht : tys[t0]? = some (cA, .int)) (j : Nat) (hj : i = (j : Int)) (hn : j < n0) (hN : n0 < 2 ^ 31) (hd : decode cc pc = .ok (.iastore, 1)) (kk : mV X (pc + 1) lv st (ws.set q0 (a, .inl (cA, n0, .inl (upd f j x)))) k n) : mV X pc lv (.int x :: .int (iZ i) :: .ref a :: st) ws k n :=
  r_iast hX q0 t0 he ht (vp_in_Z (by omega) (by omega) hN) hd (by rw [iZ_clamp hj (by omega)]; exact kk)
theorem r_lastZ {a : Nat} {n0 : Nat} {cA : ClassId} {f : Nat → Int64} {i : Int} {x : Int64} (hX : mOK X own cc nL R hh tys) (q0 t0 : Nat) (he : ws[q0]? = some (a, .inl (cA, n0, .inr (.inl f)))) (ht : tys[t0]? = some (cA, .long)) (j : Nat) (hj : i = (j : Int)) (hn : j < n0) (hN : n0 < 2 ^ 31) (hd : decode cc pc = .ok (.lastore, 1)) (kk : mV X (pc + 1) lv st (ws.set q0 (a, .inl (cA, n0, .inr (.inl (vp_updL f j x))))) k n) : mV X pc lv (.long x :: .int (iZ i) :: .ref a :: st) ws k n :=
  r_last hX q0 t0 he ht (vp_in_Z (by omega) (by omega) hN) hd (by rw [iZ_clamp hj (by omega)]; exact kk)
end ZR

section ZRL
variable {X : mC} {pc : Nat} {lv : List (Nat × Option Value)} {st : List Value} {ws : va_W} {k n : Nat}
theorem r_lc2 {i0 i1 : Nat} {v0 v1 : Value} (h0 : lget lv i0 = some v0) (h1 : lget lv i1 = some v1) (kk : mV X pc [(i0, some v0), (i1, some v1)] st ws k n) : mV X pc lv st ws k n :=
  r_lv (mlok_to (lv' := [(i0, some v0), (i1, some v1)]) (by exact ⟨h0, h1, trivial⟩)) kk
theorem r_lc3 {i0 i1 i2 : Nat} {v0 v1 v2 : Value} (h0 : lget lv i0 = some v0) (h1 : lget lv i1 = some v1) (h2 : lget lv i2 = some v2) (kk : mV X pc [(i0, some v0), (i1, some v1), (i2, some v2)] st ws k n) : mV X pc lv st ws k n :=
  r_lv (mlok_to (lv' := [(i0, some v0), (i1, some v1), (i2, some v2)]) (by exact ⟨h0, h1, h2, trivial⟩)) kk
theorem r_lc4 {i0 i1 i2 i3 : Nat} {v0 v1 v2 v3 : Value} (h0 : lget lv i0 = some v0) (h1 : lget lv i1 = some v1) (h2 : lget lv i2 = some v2) (h3 : lget lv i3 = some v3) (kk : mV X pc [(i0, some v0), (i1, some v1), (i2, some v2), (i3, some v3)] st ws k n) : mV X pc lv st ws k n :=
  r_lv (mlok_to (lv' := [(i0, some v0), (i1, some v1), (i2, some v2), (i3, some v3)]) (by exact ⟨h0, h1, h2, h3, trivial⟩)) kk
theorem r_lc5 {i0 i1 i2 i3 i4 : Nat} {v0 v1 v2 v3 v4 : Value} (h0 : lget lv i0 = some v0) (h1 : lget lv i1 = some v1) (h2 : lget lv i2 = some v2) (h3 : lget lv i3 = some v3) (h4 : lget lv i4 = some v4) (kk : mV X pc [(i0, some v0), (i1, some v1), (i2, some v2), (i3, some v3), (i4, some v4)] st ws k n) : mV X pc lv st ws k n :=
  r_lv (mlok_to (lv' := [(i0, some v0), (i1, some v1), (i2, some v2), (i3, some v3), (i4, some v4)]) (by exact ⟨h0, h1, h2, h3, h4, trivial⟩)) kk
theorem r_lc6 {i0 i1 i2 i3 i4 i5 : Nat} {v0 v1 v2 v3 v4 v5 : Value} (h0 : lget lv i0 = some v0) (h1 : lget lv i1 = some v1) (h2 : lget lv i2 = some v2) (h3 : lget lv i3 = some v3) (h4 : lget lv i4 = some v4) (h5 : lget lv i5 = some v5) (kk : mV X pc [(i0, some v0), (i1, some v1), (i2, some v2), (i3, some v3), (i4, some v4), (i5, some v5)] st ws k n) : mV X pc lv st ws k n :=
  r_lv (mlok_to (lv' := [(i0, some v0), (i1, some v1), (i2, some v2), (i3, some v3), (i4, some v4), (i5, some v5)]) (by exact ⟨h0, h1, h2, h3, h4, h5, trivial⟩)) kk
end ZRL
end
-- 61 zstate
section
/-! THE DESK'S STATE AS NUMBERS: what the class's cells and the reference's cells both mean. (Own work.) -/
/-- offsets; numbers of the moments; local times (second, nano, own offset): the DATEDs 0 to 3, the CLOCKs 4 to 6; knocks; refusals -/
abbrev mS : Type := (Nat → Int) × (Nat → Int) × (Nat → Int × Int × Int) × Int32 × Int32
def sof (S : mS) (j : Nat) : Int := S.1 j
def snu (S : mS) (j : Nat) : Int := S.2.1 j
def sse (S : mS) (d : Nat) : Int := (S.2.2.1 d).1
def sna (S : mS) (d : Nat) : Int := (S.2.2.1 d).2.1
def sow (S : mS) (d : Nat) : Int := (S.2.2.1 d).2.2
def zup {α : Type} (f : Nat → α) (i : Nat) (x : α) : Nat → α := fun j => if j = i then x else f j
theorem zup_eq {α : Type} {f : Nat → α} {i : Nat} {x : α} : zup f i x i = x := if_pos rfl
theorem zup_ne {α : Type} {f : Nat → α} {i j : Nat} {x : α} (h : ¬ j = i) : zup f i x j = f j := if_neg h
def sOf (S : mS) (j : Nat) (z : Int) : mS := (zup S.1 j z, S.2)
def sNu (S : mS) (j : Nat) (z : Int) : mS := (S.1, zup S.2.1 j z, S.2.2)
def sLo (S : mS) (d : Nat) (x : Int × Int × Int) : mS := (S.1, S.2.1, zup S.2.2.1 d x, S.2.2.2)
def sKn (S : mS) : mS := (S.1, S.2.1, S.2.2.1, S.2.2.2.1 + 1, S.2.2.2.2)
def sRf (S : mS) : mS := (S.1, S.2.1, S.2.2.1, S.2.2.2.1, S.2.2.2.2 + 1)
abbrev rOf (z : Int) : Prop := -64800 ≤ z ∧ z ≤ 64800
abbrev rNu (z : Int) : Prop := -1800000000000000000 ≤ z ∧ z ≤ 1800000000999999999
abbrev rNa (z : Int) : Prop := 0 ≤ z ∧ z ≤ 999999999
abbrev rSe (z : Int) : Prop := -1893456000 ≤ z ∧ z ≤ 1924991999
abbrev rSd (z : Int) : Prop := 0 ≤ z ∧ z ≤ 86399
/-- what always holds of a desk -/
def sWF (S : mS) : Prop := (∀ j, j < 4 → rOf (sof S j)) ∧ (∀ j, j < 4 → rNu (snu S j)) ∧ (∀ d, d < 7 → rNa (sna S d) ∧ rOf (sow S d)) ∧ (∀ d, d < 4 → rSe (sse S d)) ∧ (∀ d, 4 ≤ d → d < 7 → rSd (sse S d))
theorem sWF.se {S : mS} (h : sWF S) {d : Nat} (hd : d < 7) : rSe (sse S d) := by
  rcases Nat.lt_or_ge d 4 with q | q
  · exact h.2.2.2.1 d q
  · have := h.2.2.2.2 d q hd
    omega
theorem sWF.of {S : mS} (h : sWF S) {j : Nat} {z : Int} (hz : rOf z) : sWF (sOf S j z) := by
  refine ⟨fun i hi => ?_, h.2⟩
  by_cases e : i = j
  · subst e; show rOf (zup S.1 i z i); rw [zup_eq]; exact hz
  · show rOf (zup S.1 j z i); rw [zup_ne e]; exact h.1 i hi
theorem sWF.nu {S : mS} (h : sWF S) {j : Nat} {z : Int} (hz : rNu z) : sWF (sNu S j z) := by
  refine ⟨h.1, fun i hi => ?_, h.2.2⟩
  by_cases e : i = j
  · subst e; show rNu (zup S.2.1 i z i); rw [zup_eq]; exact hz
  · show rNu (zup S.2.1 j z i); rw [zup_ne e]; exact h.2.1 i hi
theorem sWF.lo {S : mS} (h : sWF S) {d : Nat} {x : Int × Int × Int} (h1 : d < 4 → rSe x.1) (h2 : 4 ≤ d → rSd x.1) (h3 : rNa x.2.1) (h4 : rOf x.2.2) : sWF (sLo S d x) := by
  refine ⟨h.1, h.2.1, fun i hi => ?_, fun i hi => ?_, fun i h5 hi => ?_⟩
  · by_cases e : i = d
    · subst e; show rNa (zup S.2.2.1 i x i).2.1 ∧ rOf (zup S.2.2.1 i x i).2.2; rw [zup_eq]; exact ⟨h3, h4⟩
    · show rNa (zup S.2.2.1 d x i).2.1 ∧ rOf (zup S.2.2.1 d x i).2.2; rw [zup_ne e]; exact h.2.2.1 i hi
  · by_cases e : i = d
    · subst e; show rSe (zup S.2.2.1 i x i).1; rw [zup_eq]; exact h1 hi
    · show rSe (zup S.2.2.1 d x i).1; rw [zup_ne e]; exact h.2.2.2.1 i hi
  · by_cases e : i = d
    · subst e; show rSd (zup S.2.2.1 i x i).1; rw [zup_eq]; exact h2 h5
    · show rSd (zup S.2.2.1 d x i).1; rw [zup_ne e]; exact h.2.2.2.2 i h5 hi
theorem sWF.rf {S : mS} (h : sWF S) : sWF (sRf S) := h
theorem sWF.kn {S : mS} (h : sWF S) : sWF (sKn S) := h
/-- the two local times on which the class tries -/
abbrev mT2 : Type := (Int64 × Int32 × Int32) × (Int64 × Int32 × Int32)
/-- the class's cells -/
def mKof (S : mS) (T : mT2) : mK := (fun j => iZ (sof S j), fun j => lZ (snu S j), fun d => if d = 7 then T.1 else if d = 8 then T.2 else (lZ (sse S d), iZ (sna S d), iZ (sow S d)), S.2.2.2.1, S.2.2.2.2)
/-- the reference's cells -/
def mJof (S : mS) (th : Int32) : mJ := ((th, S.2.2.2.1, S.2.2.2.2), fun j => iZ (sof S j), fun j => lZ (snu S j), fun d => iZ (sse S d / 86400), fun d => iZ (sse S d % 86400), fun d => iZ (sna S d), fun d => iZ (sow S d))
theorem mKof_d {S : mS} {T : mT2} {d : Nat} (hd : d < 7) : (mKof S T).2.2.1 d = (lZ (sse S d), iZ (sna S d), iZ (sow S d)) := by
  show (if d = 7 then T.1 else if d = 8 then T.2 else (lZ (sse S d), iZ (sna S d), iZ (sow S d))) = _
  rw [if_neg (by omega), if_neg (by omega)]
theorem zWd_loc {ad : Nat → Nat} {cs : ClassId × ClassId × ClassId} {S : mS} {T : mT2} {rest : va_W} {d : Nat} (hd : d < 7) : (mWd ad cs (mKof S T) rest)[d + 5]? = some (ad (d + 5), .inr (2, [.long (lZ (sse S d)), .int (iZ (sna S d)), .int (iZ (sow S d))])) := by
  rw [mWd_loc (by omega), mKof_d hd]
theorem zWd_set {ad : Nat → Nat} {cs : ClassId × ClassId × ClassId} {S : mS} {T : mT2} {rest : va_W} {d : Nat} {a b c : Int} (hd : d < 7) : (mWd ad cs (mKof S T) rest).set (d + 5) (ad (d + 5), .inr (2, [.long (lZ a), .int (iZ b), .int (iZ c)])) = mWd ad cs (mKof (sLo S d (a, b, c)) T) rest := by
  rw [mWd_set (by omega)]
  have e : mKL (mKof S T) d (lZ a, iZ b, iZ c) = mKof (sLo S d (a, b, c)) T := by
    have e2 : (fun j => if j = d then (lZ a, iZ b, iZ c) else (mKof S T).2.2.1 j) = (mKof (sLo S d (a, b, c)) T).2.2.1 := by
      funext j
      by_cases h : j = d
      · subst h
        show (if j = j then (lZ a, iZ b, iZ c) else (mKof S T).2.2.1 j) = (if j = 7 then T.1 else if j = 8 then T.2 else (lZ (zup S.2.2.1 j (a, b, c) j).1, iZ (zup S.2.2.1 j (a, b, c) j).2.1, iZ (zup S.2.2.1 j (a, b, c) j).2.2))
        rw [if_pos rfl, if_neg (by omega), if_neg (by omega), zup_eq]
      · show (if j = d then (lZ a, iZ b, iZ c) else (mKof S T).2.2.1 j) = (if j = 7 then T.1 else if j = 8 then T.2 else (lZ (zup S.2.2.1 d (a, b, c) j).1, iZ (zup S.2.2.1 d (a, b, c) j).2.1, iZ (zup S.2.2.1 d (a, b, c) j).2.2))
        rw [if_neg h, zup_ne h]
        rfl
    show ((mKof S T).1, (mKof S T).2.1, (fun j => if j = d then (lZ a, iZ b, iZ c) else (mKof S T).2.2.1 j), (mKof S T).2.2.2) = _
    rw [e2]
    rfl
  rw [e]
def va_E_ (x : Int × Int × Int) : va_E := .inr (2, [.long (lZ x.1), .int (iZ x.2.1), .int (iZ x.2.2)])
/-- a told local time, read -/
theorem zWd_new {ad : Nat → Nat} {cs : ClassId × ClassId × ClassId} {S : mS} {T : mT2} {rest : va_W} {d : Nat} {a b c : Int} (hd : d < 7) : (mWd ad cs (mKof (sLo S d (a, b, c)) T) rest)[d + 5]? = some (ad (d + 5), .inr (2, [.long (lZ a), .int (iZ b), .int (iZ c)])) := by
  rw [zWd_loc hd]
  show some (ad (d + 5), va_E_ (zup S.2.2.1 d (a, b, c) d)) = _
  rw [zup_eq]
  rfl
theorem zup_upd {f : Nat → Int} {j : Nat} {z : Int} : upd (fun i => iZ (f i)) j (iZ z) = fun i => iZ (zup f j z i) := by
  funext i
  show (if i = j then iZ z else iZ (f i)) = iZ (if i = j then z else f i)
  split <;> rfl
theorem zup_updL {f : Nat → Int} {j : Nat} {z : Int} : vp_updL (fun i => lZ (f i)) j (lZ z) = fun i => lZ (zup f j z i) := by
  funext i
  show (if i = j then lZ z else lZ (f i)) = lZ (if i = j then z else f i)
  split <;> rfl
theorem zK_num {S : mS} {T : mT2} {j : Nat} {z : Int} : ((mKof S T).1, vp_updL (mKof S T).2.1 j (lZ z), (mKof S T).2.2) = mKof (sNu S j z) T := by
  show ((mKof S T).1, vp_updL (fun i => lZ (snu S i)) j (lZ z), (mKof S T).2.2) = _
  rw [zup_updL]
  rfl
theorem zK_off {S : mS} {T : mT2} {j : Nat} {z : Int} : (upd (mKof S T).1 j (iZ z), (mKof S T).2) = mKof (sOf S j z) T := by
  show (upd (fun i => iZ (sof S i)) j (iZ z), (mKof S T).2) = _
  rw [zup_upd]
  rfl
theorem zWd_num {ad : Nat → Nat} {cs : ClassId × ClassId × ClassId} {S : mS} {T : mT2} {rest : va_W} {j : Nat} {z : Int} : (mWd ad cs (mKof S T) rest).set 2 (ad 2, .inl (cs.2.1, 4, .inr (.inl (vp_updL (mKof S T).2.1 j (lZ z))))) = mWd ad cs (mKof (sNu S j z) T) rest := by
  rw [← zK_num]
  rfl
theorem zWd_off {ad : Nat → Nat} {cs : ClassId × ClassId × ClassId} {S : mS} {T : mT2} {rest : va_W} {j : Nat} {z : Int} : (mWd ad cs (mKof S T) rest).set 1 (ad 1, .inl (cs.1, 4, .inl (upd (mKof S T).1 j (iZ z)))) = mWd ad cs (mKof (sOf S j z) T) rest := by
  rw [← zK_off]
  rfl
theorem zrg {S : mS} (h : sWF S) {d : Nat} (hd : d < 7) : (-100000000000 ≤ sse S d ∧ sse S d ≤ 100000000000) ∧ (0 ≤ sna S d ∧ sna S d ≤ 999999999) ∧ (-64800 ≤ sow S d ∧ sow S d ≤ 64800) := by
  have h1 := h.se hd
  have h2 := h.2.2.1 d hd
  exact ⟨by omega, h2.1, h2.2⟩
/-- the three ways in which a call changes a desk -/
def oNum (S : mS) (j : Nat) (z : Int) : Int × mS := if -1800000000000000000 ≤ z ∧ z ≤ 1800000000999999999 then (z % 1000000000, sNu S j z) else (-9, sRf S)
def oLoc (S : mS) (d : Nat) (z n o : Int) : Int × mS := if -1893456000 ≤ z ∧ z ≤ 1924991999 then (z / 86400, sLo S d (z, n, o)) else (-9, sRf S)
def oClk (S : mS) (c : Nat) (z n o : Int) : Int × mS := (z % 86400 - o, sLo S (c + 4) (z % 86400, n, o))
theorem oNum_y {S : mS} {j : Nat} {z : Int} (h : -1800000000000000000 ≤ z ∧ z ≤ 1800000000999999999) : oNum S j z = (z % 1000000000, sNu S j z) := if_pos h
theorem oNum_n {S : mS} {j : Nat} {z : Int} (h : ¬ (-1800000000000000000 ≤ z ∧ z ≤ 1800000000999999999)) : oNum S j z = (-9, sRf S) := if_neg h
theorem oLoc_y {S : mS} {d : Nat} {z n o : Int} (h : -1893456000 ≤ z ∧ z ≤ 1924991999) : oLoc S d z n o = (z / 86400, sLo S d (z, n, o)) := if_pos h
theorem oLoc_n {S : mS} {d : Nat} {z n o : Int} (h : ¬ (-1893456000 ≤ z ∧ z ≤ 1924991999)) : oLoc S d z n o = (-9, sRf S) := if_neg h
theorem sWF.oNum {S : mS} (h : sWF S) {j : Nat} {z : Int} : sWF (oNum S j z).2 := by
  by_cases q : -1800000000000000000 ≤ z ∧ z ≤ 1800000000999999999
  · rw [oNum_y q]; exact h.nu q
  · rw [oNum_n q]; exact h.rf
theorem sWF.oLoc {S : mS} (h : sWF S) {d : Nat} {z n o : Int} (hd : d < 4) (hn : rNa n) (ho : rOf o) : sWF (oLoc S d z n o).2 := by
  by_cases q : -1893456000 ≤ z ∧ z ≤ 1924991999
  · rw [oLoc_y q]; exact h.lo (fun _ => q) (fun q2 => absurd hd (by omega)) hn ho
  · rw [oLoc_n q]; exact h.rf
theorem sWF.oClk {S : mS} (h : sWF S) {c : Nat} {z n o : Int} (hn : rNa n) (ho : rOf o) : sWF (oClk S c z n o).2 :=
  h.lo (fun q => absurd q (by omega)) (fun _ => by show 0 ≤ z % 86400 ∧ z % 86400 ≤ 86399; omega) hn ho
end
-- 62 zmath
section
/-! MATH, exact. (Own work.) -/
section ZR2
variable {X : mC} {own : String} {cc : ByteArray} {nL : Nat} {R : Room} {hh : List (Nat × Nat × Nat × Nat)} {tys : List (ClassId × FieldType)} {pc : Nat} {lv : List (Nat × Option Value)} {st : List Value} {ws : va_W} {k n : Nat}
theorem r_iincZ {i : Nat} {z x y : Int} (hX : mOK X own cc nL R hh tys) (hd : decode cc pc = .ok (.iinc i z, 3)) (hg : lget lv i = some (.int (iZ x))) (hn : i < nL) (hp : lgp lv i = true) (hy : x + z = y) (kk : mV X (pc + 3) ((i, some (.int (iZ y))) :: lv) st ws k n) : mV X pc lv st ws k n := r_iinc hX hd hg hn hp (by rw [← hy, ← iZ_add] at kk; exact kk)
theorem r_tableInZ {a z : Int} {dflt lo hi off : Int} {offs : Array Int} {len tgt : Nat} (hX : mOK X own cc nL R hh tys) (hd : decode cc pc = .ok (.tableswitch dflt lo hi offs, len)) (ha : a = z) (hz : -2147483648 ≤ z ∧ z ≤ 2147483647) (h1 : ¬ z < lo) (h2 : ¬ hi < z) (ho : offs[(z - lo).toNat]? = some off) (ht : (pc : Int) + off = (tgt : Int)) (kk : mV X tgt lv st ws k n) : mV X pc lv (.int (iZ a) :: st) ws k n := by
  subst ha
  have e := iZ_toInt hz.1 (show a < 2147483648 by omega)
  exact r_tableIn hX hd (by rw [e]; exact h1) (by rw [e]; exact h2) (by rw [e]; exact ho) ht kk
theorem r_tableOutZ {a : Int} {dflt lo hi : Int} {offs : Array Int} {len tgt : Nat} (hX : mOK X own cc nL R hh tys) (hd : decode cc pc = .ok (.tableswitch dflt lo hi offs, len)) (hz : -2147483648 ≤ a ∧ a ≤ 2147483647) (h : a < lo ∨ hi < a) (ht : (pc : Int) + dflt = (tgt : Int)) (kk : mV X tgt lv st ws k n) : mV X pc lv (.int (iZ a) :: st) ws k n := by
  have e := iZ_toInt hz.1 (show a < 2147483648 by omega)
  exact r_tableOut hX hd (by rw [e]; exact h) ht kk
end ZR2
theorem lx_msb (z : Int64) : z.toInt < 0 ↔ z.toBitVec.msb = true := by
  rw [BitVec.msb_eq_toInt]
  simp
theorem lx_sign {x y : Int64} (hy : 0 ≤ y.toInt) : (x ^^^ y).toInt < 0 ↔ x.toInt < 0 := by
  have hm : y.toBitVec.msb = false := by
    cases h : y.toBitVec.msb
    · rfl
    · exact absurd ((lx_msb y).mpr h) (by omega)
  rw [lx_msb, lx_msb, Int64.toBitVec_xor, BitVec.msb_xor, hm]
  simp
theorem ix_msb (z : Int32) : z.toInt < 0 ↔ z.toBitVec.msb = true := by
  rw [BitVec.msb_eq_toInt]
  simp
theorem ix_sign {x y : Int32} (hy : 0 ≤ y.toInt) : (x ^^^ y).toInt < 0 ↔ x.toInt < 0 := by
  have hm : y.toBitVec.msb = false := by
    cases h : y.toBitVec.msb
    · rfl
    · exact absurd ((ix_msb y).mpr h) (by omega)
  rw [ix_msb, ix_msb, Int32.toBitVec_xor, BitVec.msb_xor, hm]
  simp
/-- the divisors that are met -/
def zD (b : Int) : Prop := b = 86400 ∨ b = 1000000000 ∨ b = 1000000 ∨ b = 12 ∨ b = 7
theorem zD_b {b : Int} (h : zD b) : 1 ≤ b ∧ b ≤ 1000000000 := by unfold zD at h; omega
theorem tdiv_neg {a b : Int} (h : a < 0) : Int.tdiv a b = -((-a) / b) := by
  have e : a = -(-a) := by omega
  rw [e, Int.neg_tdiv, Int.tdiv_eq_ediv_of_nonneg (by omega)]
  simp
theorem zneg {a b : Int} (hb : 1 ≤ b) : ∃ q r : Int, (-a) / b = q ∧ q * b = -a - r ∧ 0 ≤ r ∧ r < b ∧ a / b = (if r = 0 then -q else -q - 1) ∧ a % b = (if r = 0 then 0 else b - r) := by
  have hbp : 0 < b := by omega
  have e := Int.emod_def (-a) b
  have r0 := Int.emod_nonneg (-a) (show b ≠ 0 by omega)
  have r1 := Int.emod_lt_of_pos (-a) hbp
  refine ⟨(-a) / b, (-a) % b, rfl, by rw [Int.mul_comm]; omega, r0, r1, ?_⟩
  by_cases h : (-a) % b = 0
  · have u := (Int.ediv_emod_unique (a := a) (b := b) (r := 0) (q := -((-a) / b)) hbp).mpr ⟨by rw [Int.mul_neg]; omega, by omega, hbp⟩
    rw [if_pos h, if_pos h]
    exact u
  · have u := (Int.ediv_emod_unique (a := a) (b := b) (r := b - (-a) % b) (q := -((-a) / b) - 1) hbp).mpr ⟨by rw [Int.mul_sub, Int.mul_neg, Int.mul_one]; omega, by omega, by omega⟩
    rw [if_neg h, if_neg h]
    exact u
theorem lZ_tdiv {a b : Int} (ha : -9223372036854775807 ≤ a ∧ a ≤ 9223372036854775807) (hb : 1 ≤ b ∧ b ≤ 9223372036854775807) : lZ a / lZ b = lZ (Int.tdiv a b) := by
  rcases Int.lt_or_le a 0 with h | h
  · apply Int64.toInt_inj.mp
    have hm : lZ a ≠ Int64.minValue := by
      intro h
      have h5 := congrArg Int64.toInt h
      rw [lZ_toInt (by omega) (by omega)] at h5
      have h6 : Int64.minValue.toInt = -9223372036854775808 := rfl
      omega
    have hq : 0 ≤ (-a) / b ∧ (-a) / b ≤ -a := ⟨Int.ediv_nonneg (by omega) (by omega), Int.ediv_le_self b (by omega)⟩
    rw [Int64.toInt_div_of_ne_left _ _ hm, lZ_toInt (by omega) (by omega), lZ_toInt (by omega) (by omega), tdiv_neg h, lZ_toInt (by omega) (by omega)]
  · rw [lZ_div h (by omega) hb.1 (by omega), Int.tdiv_eq_ediv_of_nonneg h]
theorem iZ_tdiv {a b : Int} (ha : -2147483647 ≤ a ∧ a ≤ 2147483647) (hb : 1 ≤ b ∧ b ≤ 2147483647) : iZ a / iZ b = iZ (Int.tdiv a b) := by
  rcases Int.lt_or_le a 0 with h | h
  · apply Int32.toInt_inj.mp
    have hm : iZ a ≠ Int32.minValue := by
      intro h
      have h5 := congrArg Int32.toInt h
      rw [iZ_toInt (by omega) (by omega)] at h5
      have h6 : Int32.minValue.toInt = -2147483648 := rfl
      omega
    have hq : 0 ≤ (-a) / b ∧ (-a) / b ≤ -a := ⟨Int.ediv_nonneg (by omega) (by omega), Int.ediv_le_self b (by omega)⟩
    rw [Int32.toInt_div_of_ne_left _ _ hm, iZ_toInt (by omega) (by omega), iZ_toInt (by omega) (by omega), tdiv_neg h, iZ_toInt (by omega) (by omega)]
  · rw [iZ_div h (by omega) hb.1 (by omega), Int.tdiv_eq_ediv_of_nonneg h]
theorem z_J9_floorDiv (tys : List (ClassId × FieldType)) (ws : va_W) (a b : Int) (ha : -9223372036854775807 ≤ a ∧ a ≤ 9223372036854775807) (hb : zD b) : mCt tys yJ9_floorDiv_f86c9 cJ9_floorDiv_f86c9 6 (some .long) ⟨0, 0, 0, 0⟩ [.long (lZ a), .long (lZ b)] ws (fun v ws' => v = some (.long (lZ (a / b))) ∧ ws' = ws) mNo := by
  refine mCt.of (by decide +kernel) (Nat.le_of_ble_eq_true rfl) (fun X hX hE => ?_)
  replace hX : mOK X RJ9 cJ9_floorDiv_f86c9 6 ⟨0, 0, 0, 0⟩ [] tys := hX
  have hb2 := zD_b hb
  have hpos : 0 ≤ (lZ b).toInt := by rw [lZ_toInt (by omega) (by omega)]; omega
  have hs : (lZ a ^^^ lZ b).toInt < 0 ↔ a < 0 := by rw [lx_sign hpos, lZ_toInt (by omega) (by omega)]
  refine r_lload_n hX dJ9_floorDiv_f86c9_0 rfl rfl (r_lload_n hX dJ9_floorDiv_f86c9_1 rfl rfl (r_ldiv hX dJ9_floorDiv_f86c9_2 (lZ_ne0 hb2.1 (by first | with_reducible assumption | decide | omega)) ?_))
  rw [lZ_tdiv ha ⟨hb2.1, by omega⟩]
  refine r_lstore hX dJ9_floorDiv_f86c9_3 (by decide) rfl (r_lload_n hX dJ9_floorDiv_f86c9_5 rfl rfl (r_lload_n hX dJ9_floorDiv_f86c9_6 rfl rfl (r_lxor hX dJ9_floorDiv_f86c9_7 (r_lconst (v := 0) hX dJ9_floorDiv_f86c9_8 (by decide) (r_lcmp hX dJ9_floorDiv_f86c9_9 (r_if_ge (tgt := 27) hX dJ9_floorDiv_f86c9_10 (by decide) (fun c => ?_) (fun c => ?_)))))))
  · have h0 : 0 ≤ a := by
      have := Int64.le_iff_toInt_le.mp ((lg_cmp_ge _ _).mp c)
      have h1 : (0 : Int64).toInt = 0 := rfl
      rcases Int.lt_or_le a 0 with q | q
      · have := hs.mpr q; omega
      · exact q
    refine r_lload hX dJ9_floorDiv_f86c9_27 rfl ?_
    exact r_lret hX hE dJ9_floorDiv_f86c9_29 (Nat.le_of_ble_eq_true rfl) (Nat.le_of_ble_eq_true rfl) ⟨zl (Int.tdiv_eq_ediv_of_nonneg h0), rfl⟩
  · have h0 : a < 0 := by
      refine hs.mp ?_
      have h1 : (0 : Int64).toInt = 0 := rfl
      rcases Int.lt_or_le (lZ a ^^^ lZ b).toInt 0 with q | q
      · exact q
      · exact absurd ((lg_cmp_ge _ _).mpr (Int64.le_iff_toInt_le.mpr (by rw [h1]; exact q))) c
    have ht := tdiv_neg (b := b) h0
    obtain ⟨q, r, e, m, r0, r1, ed, em⟩ := zneg (a := a) hb2.1
    have hm : -9223372036854775808 ≤ Int.tdiv a b * b ∧ Int.tdiv a b * b ≤ 9223372036854775807 := by
      rw [ht, e, Int.neg_mul, m]
      omega
    refine r_lload hX dJ9_floorDiv_f86c9_13 rfl (r_lload_n hX dJ9_floorDiv_f86c9_15 rfl rfl (r_lmulZ hX dJ9_floorDiv_f86c9_16 (r_lload_n hX dJ9_floorDiv_f86c9_17 rfl rfl (r_lif_eqZ (tgt := 27) hX dJ9_floorDiv_f86c9_18 dJ9_floorDiv_f86c9_19 (by decide) hm (by first | with_reducible assumption | decide | omega) (fun c2 => ?_) (fun c2 => ?_)))))
    · refine r_lload hX dJ9_floorDiv_f86c9_27 rfl (r_lret hX hE dJ9_floorDiv_f86c9_29 (Nat.le_of_ble_eq_true rfl) (Nat.le_of_ble_eq_true rfl) ⟨zl ?_, rfl⟩)
      rw [ht, e, Int.neg_mul, m] at c2
      rw [ht, e, ed, if_pos (by omega)]
    · refine r_lload hX dJ9_floorDiv_f86c9_22 rfl (r_lconstZ (v := 1) hX dJ9_floorDiv_f86c9_24 rfl (r_lsubZ hX dJ9_floorDiv_f86c9_25 (r_lret hX hE dJ9_floorDiv_f86c9_26 (Nat.le_of_ble_eq_true rfl) (Nat.le_of_ble_eq_true rfl) ⟨zl ?_, rfl⟩)))
      rw [ht, e, Int.neg_mul, m] at c2
      rw [ht, e, ed, if_neg (by omega)]
theorem z_J9_floorMod (tys : List (ClassId × FieldType)) (ws : va_W) (a b : Int) (ha : -9223372036854775807 ≤ a ∧ a ≤ 9223372036854775807) (hb : zD b) : mCt tys yJ9_floorMod_f86c9 cJ9_floorMod_f86c9 6 (some .long) ⟨0, 0, 0, 0⟩ [.long (lZ a), .long (lZ b)] ws (fun v ws' => v = some (.long (lZ (a % b))) ∧ ws' = ws) mNo := by
  refine mCt.of (by decide +kernel) (Nat.le_of_ble_eq_true rfl) (fun X hX hE => ?_)
  replace hX : mOK X RJ9 cJ9_floorMod_f86c9 6 ⟨0, 0, 0, 0⟩ [] tys := hX
  have hb2 := zD_b hb
  have hpos : 0 ≤ (lZ b).toInt := by rw [lZ_toInt (by omega) (by omega)]; omega
  have hs : (lZ a ^^^ lZ b).toInt < 0 ↔ a < 0 := by rw [lx_sign hpos, lZ_toInt (by omega) (by omega)]
  refine r_lload_n hX dJ9_floorMod_f86c9_0 rfl rfl (r_lload_n hX dJ9_floorMod_f86c9_1 rfl rfl (r_lrem hX dJ9_floorMod_f86c9_2 (lZ_ne0 hb2.1 (by first | with_reducible assumption | decide | omega)) ?_))
  rw [lZ_tdiv ha ⟨hb2.1, by omega⟩, lZ_mul, lZ_sub]
  refine r_lstore hX dJ9_floorMod_f86c9_3 (by decide) rfl (r_lload_n hX dJ9_floorMod_f86c9_5 rfl rfl (r_lload_n hX dJ9_floorMod_f86c9_6 rfl rfl (r_lxor hX dJ9_floorMod_f86c9_7 (r_lconst (v := 0) hX dJ9_floorMod_f86c9_8 (by decide) (r_lcmp hX dJ9_floorMod_f86c9_9 (r_if_ge (tgt := 25) hX dJ9_floorMod_f86c9_10 (by decide) (fun c => ?_) (fun c => ?_)))))))
  · have h0 : 0 ≤ a := by
      have := Int64.le_iff_toInt_le.mp ((lg_cmp_ge _ _).mp c)
      have h1 : (0 : Int64).toInt = 0 := rfl
      rcases Int.lt_or_le a 0 with q | q
      · have := hs.mpr q; omega
      · exact q
    refine r_lload hX dJ9_floorMod_f86c9_25 rfl (r_lret hX hE dJ9_floorMod_f86c9_27 (Nat.le_of_ble_eq_true rfl) (Nat.le_of_ble_eq_true rfl) ⟨zl ?_, rfl⟩)
    rw [Int.tdiv_eq_ediv_of_nonneg h0, Int.emod_def, Int.mul_comm b]
  · have h0 : a < 0 := by
      refine hs.mp ?_
      have h1 : (0 : Int64).toInt = 0 := rfl
      rcases Int.lt_or_le (lZ a ^^^ lZ b).toInt 0 with q | q
      · exact q
      · exact absurd ((lg_cmp_ge _ _).mpr (Int64.le_iff_toInt_le.mpr (by rw [h1]; exact q))) c
    have ht := tdiv_neg (b := b) h0
    obtain ⟨q, r, e, m, r0, r1, ed, em⟩ := zneg (a := a) hb2.1
    have hm : -1000000000 ≤ a - Int.tdiv a b * b ∧ a - Int.tdiv a b * b ≤ 0 := by
      rw [ht, e, Int.neg_mul, m]
      omega
    refine r_lload hX dJ9_floorMod_f86c9_13 rfl (r_lconstZ (v := 0) hX dJ9_floorMod_f86c9_15 rfl (r_lif_eqZ (tgt := 25) hX dJ9_floorMod_f86c9_16 dJ9_floorMod_f86c9_17 (by decide) (by first | with_reducible assumption | decide | omega) (by first | with_reducible assumption | decide | omega) (fun c2 => ?_) (fun c2 => ?_)))
    · refine r_lload hX dJ9_floorMod_f86c9_25 rfl (r_lret hX hE dJ9_floorMod_f86c9_27 (Nat.le_of_ble_eq_true rfl) (Nat.le_of_ble_eq_true rfl) ⟨zl ?_, rfl⟩)
      rw [ht, e, Int.neg_mul, m] at c2
      rw [ht, e, Int.neg_mul, m, em, if_pos (by omega)]
      omega
    · refine r_lload hX dJ9_floorMod_f86c9_20 rfl (r_lload_n hX dJ9_floorMod_f86c9_22 rfl rfl (r_laddZ hX dJ9_floorMod_f86c9_23 (r_lret hX hE dJ9_floorMod_f86c9_24 (Nat.le_of_ble_eq_true rfl) (Nat.le_of_ble_eq_true rfl) ⟨zl ?_, rfl⟩)))
      rw [ht, e, Int.neg_mul, m] at c2
      rw [ht, e, Int.neg_mul, m, em, if_neg (by omega)]
      omega
theorem z_J9_floorModI (tys : List (ClassId × FieldType)) (ws : va_W) (a b : Int) (ha : -2147483647 ≤ a ∧ a ≤ 2147483647) (hb : b = 7) : mCt tys yJ9_floorMod_7cf53 cJ9_floorMod_7cf53 3 (some .int) ⟨0, 0, 0, 0⟩ [.int (iZ a), .int (iZ b)] ws (fun v ws' => v = some (.int (iZ (a % b))) ∧ ws' = ws) mNo := by
  refine mCt.of (by decide +kernel) (Nat.le_of_ble_eq_true rfl) (fun X hX hE => ?_)
  replace hX : mOK X RJ9 cJ9_floorMod_7cf53 3 ⟨0, 0, 0, 0⟩ [] tys := hX
  have hpos : 0 ≤ (iZ b).toInt := by rw [iZ_toInt (by omega) (by omega)]; omega
  have hs : (iZ a ^^^ iZ b).toInt < 0 ↔ a < 0 := by rw [ix_sign hpos, iZ_toInt (by omega) (by omega)]
  have h1 : (0 : Int32).toInt = 0 := rfl
  refine r_iload_n hX dJ9_floorMod_7cf53_0 rfl rfl (r_iload_n hX dJ9_floorMod_7cf53_1 rfl rfl (r_irem hX dJ9_floorMod_7cf53_2 (iZ_ne0 (by first | with_reducible assumption | decide | omega) (by first | with_reducible assumption | decide | omega)) ?_))
  rw [iZ_tdiv ha ⟨by omega, by omega⟩, iZ_mul, iZ_sub]
  refine r_istore_n hX dJ9_floorMod_7cf53_3 rfl (by decide) rfl (r_iload_n hX dJ9_floorMod_7cf53_4 rfl rfl (r_iload_n hX dJ9_floorMod_7cf53_5 rfl rfl (r_ixor hX dJ9_floorMod_7cf53_6 (r_if_ge (tgt := 18) hX dJ9_floorMod_7cf53_7 (by decide) (fun c => ?_) (fun c => ?_)))))
  · have h0 : 0 ≤ a := by
      have := Int32.le_iff_toInt_le.mp c
      rcases Int.lt_or_le a 0 with q | q
      · have := hs.mpr q; omega
      · exact q
    refine r_iload_n hX dJ9_floorMod_7cf53_18 rfl rfl (r_iret hX hE dJ9_floorMod_7cf53_19 (Nat.le_of_ble_eq_true rfl) (Nat.le_of_ble_eq_true rfl) ⟨zi ?_, rfl⟩)
    rw [Int.tdiv_eq_ediv_of_nonneg h0]
    subst hb; omega
  · have h0 : a < 0 := by
      refine hs.mp ?_
      rcases Int.lt_or_le (iZ a ^^^ iZ b).toInt 0 with q | q
      · exact q
      · exact absurd (Int32.le_iff_toInt_le.mpr (by rw [h1]; exact q)) c
    have ht := tdiv_neg (b := b) h0
    have hm : -7 ≤ a - Int.tdiv a b * b ∧ a - Int.tdiv a b * b ≤ 0 := by
      rw [ht]; subst hb; omega
    refine r_iload_n hX dJ9_floorMod_7cf53_10 rfl rfl (r_if_eqZ (tgt := 18) hX dJ9_floorMod_7cf53_11 (by decide) (by first | with_reducible assumption | decide | omega) (fun c2 => ?_) (fun c2 => ?_))
    · refine r_iload_n hX dJ9_floorMod_7cf53_18 rfl rfl (r_iret hX hE dJ9_floorMod_7cf53_19 (Nat.le_of_ble_eq_true rfl) (Nat.le_of_ble_eq_true rfl) ⟨zi ?_, rfl⟩)
      rw [ht] at c2 ⊢
      subst hb; omega
    · refine r_iload_n hX dJ9_floorMod_7cf53_14 rfl rfl (r_iload_n hX dJ9_floorMod_7cf53_15 rfl rfl (r_iaddZ hX dJ9_floorMod_7cf53_16 (r_iret hX hE dJ9_floorMod_7cf53_17 (Nat.le_of_ble_eq_true rfl) (Nat.le_of_ble_eq_true rfl) ⟨zi ?_, rfl⟩)))
      rw [ht] at c2 ⊢
      subst hb; omega
end
-- 63 zleaf
section
/-! LEAVES, exact. (Own work.) -/
theorem mCt.mono {tys : List (ClassId × FieldType)} {y : MethodName} {cc : ByteArray} {nL : Nat} {ret : Option FieldType} {rm : Room} {as : List Value} {ws : va_W} {Φ Φ' : Option Value → va_W → Prop} {Ψ Ψ' : String → va_W → Prop} (h : mCt tys y cc nL ret rm as ws Φ Ψ) (hΦ : ∀ v w, Φ v w → Φ' v w) (hΨ : ∀ E w, Ψ E w → Ψ' E w) : mCt tys y cc nL ret rm as ws Φ' Ψ' := by
  intro l D A hl p e ha hc hk s m args below hf happ hP hK
  obtain ⟨n, o, h1, h2, h3, h4⟩ := h l D A hl p e ha hc hk s m args below hf happ hP hK
  refine ⟨n, o, h1, h2, h3, ?_⟩
  rcases h4 with ⟨⟨v, ws', e1, p1, r1⟩, h5⟩ | ⟨q, e1, E, ce, L, ⟨ws', p1, r1⟩, h5⟩
  · exact Or.inl ⟨⟨v, ws', e1, hΦ _ _ p1, r1⟩, h5⟩
  · exact Or.inr ⟨q, e1, E, ce, L, ⟨ws', hΨ _ _ p1, r1⟩, h5⟩
theorem mCt.to {tys : List (ClassId × FieldType)} {y : MethodName} {cc : ByteArray} {nL : Nat} {ret : Option FieldType} {rm : Room} {as : List Value} {ws : va_W} {Φ Φ' : Option Value → va_W → Prop} (h : mCt tys y cc nL ret rm as ws Φ mNo) (hΦ : ∀ v w, Φ v w → Φ' v w) : mCt tys y cc nL ret rm as ws Φ' mNo := h.mono hΦ (fun _ _ z => z)
abbrev rL (z : Int) : Prop := -9223372036854775808 ≤ z ∧ z ≤ 9223372036854775807
abbrev rJ (z : Int) : Prop := -2147483648 ≤ z ∧ z ≤ 2147483647
theorem z_X2_isWithin (tys : List (ClassId × FieldType)) (ws : va_W) (x a b : Int) (hx : rL x) (ha : rL a) (hb : rL b) : mCt tys yX2_isWithin cX2_isWithin 6 (some .boolean) ⟨0, 0, 0, 0⟩ [.long (lZ x), .long (lZ a), .long (lZ b)] ws (fun v ws' => v = some (.int (b2i (decide (a ≤ x ∧ x ≤ b)))) ∧ ws' = ws) mNo := by
  rw [← f_within_Z hx ha hb]
  exact c_X2_isWithin _ _ _ _ _
theorem z_X4_isIn (tys : List (ClassId × FieldType)) (ws : va_W) (x a b : Int) (hx : rL x) (ha : rL a) (hb : rL b) : mCt tys yX4_isIn cX4_isIn 6 (some .boolean) ⟨0, 0, 0, 0⟩ [.long (lZ x), .long (lZ a), .long (lZ b)] ws (fun v ws' => v = some (.int (b2i (decide (a ≤ x ∧ x ≤ b)))) ∧ ws' = ws) mNo := by
  rw [← f_within_Z hx ha hb]
  exact c_X4_isIn _ _ _ _ _
theorem iZ_in {a : Int} {N : Nat} (ha : rJ a) (hN : N < 2 ^ 31) : (0 ≤ a ∧ a < N) ↔ ∃ j, j < N ∧ iZ a = nI j := by
  constructor
  · intro h
    exact ⟨a.toNat, by omega, by rw [iZ_nI]; congr 1; omega⟩
  · rintro ⟨j, hj, e⟩
    rw [iZ_nI, iZ_inj ha (by omega)] at e
    omega
theorem z_X2_requireOne (tys : List (ClassId × FieldType)) (ws : va_W) (a : Int) (N : Nat) (ha : rJ a) (hN : N < 2 ^ 31) : mCt tys yX2_requireOne cX2_requireOne 2 none ⟨6, 1, 6, 82⟩ [.int (iZ a), .int (iZ N)] ws (fun v ws' => (0 ≤ a ∧ a < N) ∧ v = none ∧ ws' = ws) (fun E ws' => E = xI ∧ ws' = ws ∧ ¬ (0 ≤ a ∧ a < N)) := by
  rw [← iZ_nI N]
  refine (c_X2_requireOne tys ws (iZ a) N hN).mono (fun v w h => ?_) (fun E w h => ?_)
  · obtain ⟨j, h1, h2, h3, h4⟩ := h
    exact ⟨(iZ_in ha hN).mpr ⟨j, h1, h2⟩, h3, h4⟩
  · exact ⟨h.1, h.2.1, fun q => h.2.2 ((vp_in_Zi ha).mpr q)⟩
theorem z_X2_requireOne_ok (tys : List (ClassId × FieldType)) (ws : va_W) (a : Int) (N : Nat) (hN : N < 2 ^ 31) (h : 0 ≤ a ∧ a < N) : mCt tys yX2_requireOne cX2_requireOne 2 none ⟨0, 0, 0, 0⟩ [.int (iZ a), .int (iZ N)] ws (fun v ws' => v = none ∧ ws' = ws) mNo := by
  have e : iZ a = nI a.toNat := by rw [iZ_nI]; congr 1; omega
  rw [← iZ_nI N, e]
  exact c_X2_requireOne_ok tys ws N hN a.toNat (by omega)
theorem iZ_wit {a l m : Int} (ha : rJ a) (hl : rJ l) (hm : rJ m) : (iZ l ≤ iZ a ∧ iZ a ≤ iZ m) ↔ (l ≤ a ∧ a ≤ m) := by
  rw [iZ_le hl.1 (by omega) ha.1 (by omega), iZ_le ha.1 (by omega) hm.1 (by omega)]
theorem z_X2_requireWithin (tys : List (ClassId × FieldType)) (ws : va_W) (a l m : Int) (ha : rJ a) (hl : rJ l) (hm : rJ m) : mCt tys yX2_requireWithin cX2_requireWithin 3 none ⟨6, 1, 6, 82⟩ [.int (iZ a), .int (iZ l), .int (iZ m)] ws (fun v ws' => (l ≤ a ∧ a ≤ m) ∧ v = none ∧ ws' = ws) (fun E ws' => E = xA ∧ ws' = ws ∧ ¬ (l ≤ a ∧ a ≤ m)) := by
  refine (c_X2_requireWithin tys ws (iZ a) (iZ l) (iZ m)).mono (fun v w h => ?_) (fun E w h => ?_)
  · exact ⟨(iZ_wit ha hl hm).mp h.1, h.2⟩
  · exact ⟨h.1, h.2.1, fun q => h.2.2 ((iZ_wit ha hl hm).mpr q)⟩
theorem z_X2_at (ad : Nat → Nat) (cs : ClassId × ClassId × ClassId) (ws : va_W) (q0 a n0 b0 : Nat) (he : ws[q0]? = some (a, .inl (cs.2.2, n0, .inr (.inr (.inr (.inr (fun j => some (ad (j + b0 + 5))))))))) (hN : n0 < 2 ^ 31) (i : Int) (hi : rJ i) : mCt (mTy cs) yX2_at cX2_at 2 (some (.object "Momentdesk$Local")) ⟨6, 1, 6, 82⟩ [.ref a, .int (iZ i)] ws (fun v ws' => (0 ≤ i ∧ i < n0) ∧ v = some (.ref (ad (i.toNat + b0 + 5))) ∧ ws' = ws) (fun E ws' => E = xI ∧ ws' = ws ∧ ¬ (0 ≤ i ∧ i < n0)) := by
  refine (c_X2_at ad cs ws q0 a n0 b0 he hN (iZ i)).mono (fun v w h => ?_) (fun E w h => ?_)
  · obtain ⟨j, h1, h2, h3, h4⟩ := h
    have h5 := (iZ_in hi hN).mpr ⟨j, h1, h2⟩
    rw [iZ_nI, iZ_inj hi (by omega)] at h2
    exact ⟨h5, by rw [h3, show i.toNat = j by omega], h4⟩
  · exact ⟨h.1, h.2.1, fun q => h.2.2 ((vp_in_Zi hi).mpr q)⟩
theorem z_X2_at_ok (ad : Nat → Nat) (cs : ClassId × ClassId × ClassId) (ws : va_W) (q0 a n0 b0 : Nat) (he : ws[q0]? = some (a, .inl (cs.2.2, n0, .inr (.inr (.inr (.inr (fun j => some (ad (j + b0 + 5))))))))) (hN : n0 < 2 ^ 31) (i : Int) (j : Nat) (hj : i = (j : Int)) (hjN : j < n0) : mCt (mTy cs) yX2_at cX2_at 2 (some (.object "Momentdesk$Local")) ⟨0, 0, 0, 0⟩ [.ref a, .int (iZ i)] ws (fun v ws' => v = some (.ref (ad (j + b0 + 5))) ∧ ws' = ws) mNo := by
  rw [hj, ← iZ_nI]
  exact c_X2_at_ok ad cs ws q0 a n0 b0 he hN j hjN
/-! the calendar -/
def YR (d : Int) : Nat := if d < FO (1910 + ((d + 21915) / 366).toNat + 1) then 1910 + ((d + 21915) / 366).toNat else 1910 + ((d + 21915) / 366).toNat + 1
theorem YR_spec {d : Int} (h1 : -21915 ≤ d) (h2 : d ≤ 22279) : 1910 ≤ YR d ∧ YR d ≤ 2030 ∧ FO (YR d) ≤ d ∧ d < FO (YR d + 1) := by
  unfold YR
  by_cases h : d < FO (1910 + ((d + 21915) / 366).toNat + 1)
  · rw [if_pos h]
    unfold FO at h ⊢
    omega
  · rw [if_neg h]
    unfold FO at h ⊢
    omega
theorem FO_u {d : Int} {y z : Nat} (hy : y < 2099) (hz : z < 2099) (h1 : FO y ≤ d) (h2 : d < FO (y + 1)) (h3 : FO z ≤ d) (h4 : d < FO (z + 1)) : y = z := by
  rcases Nat.lt_or_ge y z with q | q
  · have := FO_m (y := y + 1) (z := z) (by omega) (by omega)
    omega
  · rcases Nat.lt_or_ge z y with q2 | q2
    · have := FO_m (y := z + 1) (z := y) (by omega) (by omega)
      omega
    · omega
def MOy (y : Nat) (r : Int) : Nat := if r < DB y 2 then 1 else if r < DB y 3 then 2 else if r < DB y 4 then 3 else if r < DB y 5 then 4 else if r < DB y 6 then 5 else if r < DB y 7 then 6 else if r < DB y 8 then 7 else if r < DB y 9 then 8 else if r < DB y 10 then 9 else if r < DB y 11 then 10 else if r < DB y 12 then 11 else 12
def MO (d : Int) : Nat := MOy (YR d) (d - FO (YR d))
def DOM (d : Int) : Int := d - FO (YR d) - DB (YR d) (MO d) + 1
end
