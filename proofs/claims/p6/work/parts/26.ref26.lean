/-! The reference, its contracts (rows by a program of this repository). -/
theorem dX4_dateOf_0 : decode cX4_dateOf 0 = .ok (.aload_n 0, 1) := by decide +kernel
theorem dX4_dateOf_1 : decode cX4_dateOf 1 = .ok (.iload_n 1, 1) := by decide +kernel
theorem dX4_dateOf_2 : decode cX4_dateOf 2 = .ok (.invokestatic 61, 3) := by decide +kernel
theorem dX4_dateOf_5 : decode cX4_dateOf 5 = .ok (.ifCond .ne 17, 3) := by decide +kernel
theorem dX4_dateOf_8 : decode cX4_dateOf 8 = .ok (.iload_n 2, 1) := by decide +kernel
theorem dX4_dateOf_9 : decode cX4_dateOf 9 = .ok (.invokestatic 61, 3) := by decide +kernel
theorem dX4_dateOf_12 : decode cX4_dateOf 12 = .ok (.ifCond .ne 10, 3) := by decide +kernel
theorem dX4_dateOf_15 : decode cX4_dateOf 15 = .ok (.iload_n 3, 1) := by decide +kernel
theorem dX4_dateOf_16 : decode cX4_dateOf 16 = .ok (.invokestatic 61, 3) := by decide +kernel
theorem dX4_dateOf_19 : decode cX4_dateOf 19 = .ok (.ifCond .eq 7, 3) := by decide +kernel
theorem dX4_dateOf_22 : decode cX4_dateOf 22 = .ok (.iconst 1, 1) := by decide +kernel
theorem dX4_dateOf_23 : decode cX4_dateOf 23 = .ok (.goto 4, 3) := by decide +kernel
theorem dX4_dateOf_26 : decode cX4_dateOf 26 = .ok (.iconst 0, 1) := by decide +kernel
theorem dX4_dateOf_27 : decode cX4_dateOf 27 = .ok (.iconst 0, 1) := by decide +kernel
theorem dX4_dateOf_28 : decode cX4_dateOf 28 = .ok (.invokevirtual 68, 3) := by decide +kernel
theorem dX4_dateOf_31 : decode cX4_dateOf 31 = .ok (.ifCond .eq 5, 3) := by decide +kernel
theorem dX4_dateOf_34 : decode cX4_dateOf 34 = .ok (.iconst 0, 1) := by decide +kernel
theorem dX4_dateOf_35 : decode cX4_dateOf 35 = .ok (.ireturn, 1) := by decide +kernel
theorem dX4_dateOf_36 : decode cX4_dateOf 36 = .ok (.aload_n 0, 1) := by decide +kernel
theorem dX4_dateOf_37 : decode cX4_dateOf 37 = .ok (.iload_n 1, 1) := by decide +kernel
theorem dX4_dateOf_38 : decode cX4_dateOf 38 = .ok (.lconst 0, 1) := by decide +kernel
theorem dX4_dateOf_39 : decode cX4_dateOf 39 = .ok (.aload_n 0, 1) := by decide +kernel
theorem dX4_dateOf_40 : decode cX4_dateOf 40 = .ok (.getfield 13, 3) := by decide +kernel
theorem dX4_dateOf_43 : decode cX4_dateOf 43 = .ok (.iload_n 2, 1) := by decide +kernel
theorem dX4_dateOf_44 : decode cX4_dateOf 44 = .ok (.laload, 1) := by decide +kernel
theorem dX4_dateOf_45 : decode cX4_dateOf 45 = .ok (.ldc2_w 96, 3) := by decide +kernel
theorem dX4_dateOf_48 : decode cX4_dateOf 48 = .ok (.invokestatic 92, 3) := by decide +kernel
theorem dX4_dateOf_51 : decode cX4_dateOf 51 = .ok (.aload_n 0, 1) := by decide +kernel
theorem dX4_dateOf_52 : decode cX4_dateOf 52 = .ok (.getfield 7, 3) := by decide +kernel
theorem dX4_dateOf_55 : decode cX4_dateOf 55 = .ok (.iload_n 3, 1) := by decide +kernel
theorem dX4_dateOf_56 : decode cX4_dateOf 56 = .ok (.iaload, 1) := by decide +kernel
theorem dX4_dateOf_57 : decode cX4_dateOf 57 = .ok (.i2l, 1) := by decide +kernel
theorem dX4_dateOf_58 : decode cX4_dateOf 58 = .ok (.ladd, 1) := by decide +kernel
theorem dX4_dateOf_59 : decode cX4_dateOf 59 = .ok (.aload_n 0, 1) := by decide +kernel
theorem dX4_dateOf_60 : decode cX4_dateOf 60 = .ok (.getfield 13, 3) := by decide +kernel
theorem dX4_dateOf_63 : decode cX4_dateOf 63 = .ok (.iload_n 2, 1) := by decide +kernel
theorem dX4_dateOf_64 : decode cX4_dateOf 64 = .ok (.laload, 1) := by decide +kernel
theorem dX4_dateOf_65 : decode cX4_dateOf 65 = .ok (.ldc2_w 96, 3) := by decide +kernel
theorem dX4_dateOf_68 : decode cX4_dateOf 68 = .ok (.invokestatic 102, 3) := by decide +kernel
theorem dX4_dateOf_71 : decode cX4_dateOf 71 = .ok (.aload_n 0, 1) := by decide +kernel
theorem dX4_dateOf_72 : decode cX4_dateOf 72 = .ok (.getfield 7, 3) := by decide +kernel
theorem dX4_dateOf_75 : decode cX4_dateOf 75 = .ok (.iload_n 3, 1) := by decide +kernel
theorem dX4_dateOf_76 : decode cX4_dateOf 76 = .ok (.iaload, 1) := by decide +kernel
theorem dX4_dateOf_77 : decode cX4_dateOf 77 = .ok (.invokevirtual 167, 3) := by decide +kernel
theorem dX4_dateOf_80 : decode cX4_dateOf 80 = .ok (.ireturn, 1) := by decide +kernel
set_option maxHeartbeats 4000000 in
set_option maxRecDepth 20000 in
theorem c_X4_dateOf (ad ae : Nat → Nat) (cs : ClassId × ClassId × ClassId) (K : mK) (J : mJ) (rest : va_W) (hJ : mWF J) (p0 : Int32) (p1 : Int32) (p2 : Int32) : mCt (mTy cs) yX4_dateOf cX4_dateOf 4 (some .int) ⟨5, 0, 0, 120⟩ [.ref (ae 0), .int p0, .int p1, .int p2] (mRw ad ae cs K J rest) (mZi ad ae cs K J rest) mNo := by
  refine mCt.of (by decide +kernel) (Nat.le_of_ble_eq_true rfl) (fun X hX hE => ?_)
  have hX : mOK X RX4 cX4_dateOf 4 ⟨5, 0, 0, 120⟩ [] (mTy cs) := hX
  refine r_aload_n hX dX4_dateOf_0 rfl rfl ?_
  refine r_iload_n hX dX4_dateOf_1 rfl rfl ?_
  refine r_callS hX (c_X4_isNone _ _ _) ks_X4_61 rfl rfl (Nat.le_of_ble_eq_true rfl) ⟨(Nat.le_of_ble_eq_true rfl), (Nat.le_of_ble_eq_true rfl)⟩ ⟨(Nat.le_of_ble_eq_true rfl), (Nat.le_of_ble_eq_true rfl)⟩ dX4_dateOf_2 (fun _ _ z => False.elim z) (fun v9 ws9 h1 => ?_)
  obtain ⟨r3, nr3, rfl, hw9⟩ := h1
  subst ws9
  dsimp only [mPush]
  refine r_if_ne (tgt := 22) hX dX4_dateOf_5 (by decide) (fun c4 => ?_) (fun c4 => ?_)
  · refine r_iconst (v := 1) hX dX4_dateOf_22 (by decide) ?_
    refine r_goto (tgt := 27) hX dX4_dateOf_23 (by decide) ?_
    refine r_iconst (v := 0) hX dX4_dateOf_27 (by decide) ?_
    refine r_callV hX (c_X4_isStopped _ _ _ _ _ _ _ _) kv_X4_68 14 rfl rfl rfl rfl (Nat.le_of_ble_eq_true rfl) ⟨(Nat.le_of_ble_eq_true rfl), (Nat.le_of_ble_eq_true rfl)⟩ ⟨(Nat.le_of_ble_eq_true rfl), (Nat.le_of_ble_eq_true rfl)⟩ dX4_dateOf_28 (fun _ _ z => False.elim z) (fun v9 ws9 h5 => ?_)
    obtain ⟨r7, J8, nr7, etJ8, erJ8, eJ8, rfl, hw9⟩ := h5
    subst ws9
    dsimp only [mPush]
    refine r_if_eq (tgt := 36) hX dX4_dateOf_31 (by decide) (fun c9 => ?_) (fun c9 => ?_)
    · have hs10 := mnone0 nr7 (by first | exact c9 | exact Classical.not_not.mp c9)
      exact absurd hs10.1 (by decide)
    · refine r_iconst (v := 0) hX dX4_dateOf_34 (by decide) ?_
      exact r_iret hX hE dX4_dateOf_35 (Nat.le_of_ble_eq_true rfl) (Nat.le_of_ble_eq_true rfl) ⟨_, J8, (mWF2 eJ8 hJ), ((congrArg Prod.fst eJ8).trans rfl), rfl, rfl⟩
  · obtain ⟨i11, hhi11, rfl⟩ := mnone0 nr3 (by first | exact c4 | exact Classical.not_not.mp c4)
    refine r_iload_n hX dX4_dateOf_8 rfl rfl ?_
    refine r_callS hX (c_X4_isNone _ _ _) ks_X4_61 rfl rfl (Nat.le_of_ble_eq_true rfl) ⟨(Nat.le_of_ble_eq_true rfl), (Nat.le_of_ble_eq_true rfl)⟩ ⟨(Nat.le_of_ble_eq_true rfl), (Nat.le_of_ble_eq_true rfl)⟩ dX4_dateOf_9 (fun _ _ z => False.elim z) (fun v9 ws9 h12 => ?_)
    obtain ⟨r14, nr14, rfl, hw9⟩ := h12
    subst ws9
    dsimp only [mPush]
    refine r_if_ne (tgt := 22) hX dX4_dateOf_12 (by decide) (fun c15 => ?_) (fun c15 => ?_)
    · refine r_iconst (v := 1) hX dX4_dateOf_22 (by decide) ?_
      refine r_goto (tgt := 27) hX dX4_dateOf_23 (by decide) ?_
      refine r_iconst (v := 0) hX dX4_dateOf_27 (by decide) ?_
      refine r_callV hX (c_X4_isStopped _ _ _ _ _ _ _ _) kv_X4_68 14 rfl rfl rfl rfl (Nat.le_of_ble_eq_true rfl) ⟨(Nat.le_of_ble_eq_true rfl), (Nat.le_of_ble_eq_true rfl)⟩ ⟨(Nat.le_of_ble_eq_true rfl), (Nat.le_of_ble_eq_true rfl)⟩ dX4_dateOf_28 (fun _ _ z => False.elim z) (fun v9 ws9 h16 => ?_)
      obtain ⟨r18, J19, nr18, etJ19, erJ19, eJ19, rfl, hw9⟩ := h16
      subst ws9
      dsimp only [mPush]
      refine r_if_eq (tgt := 36) hX dX4_dateOf_31 (by decide) (fun c20 => ?_) (fun c20 => ?_)
      · have hs21 := mnone0 nr18 (by first | exact c20 | exact Classical.not_not.mp c20)
        exact absurd hs21.1 (by decide)
      · refine r_iconst (v := 0) hX dX4_dateOf_34 (by decide) ?_
        exact r_iret hX hE dX4_dateOf_35 (Nat.le_of_ble_eq_true rfl) (Nat.le_of_ble_eq_true rfl) ⟨_, J19, (mWF2 eJ19 hJ), ((congrArg Prod.fst eJ19).trans rfl), rfl, rfl⟩
    · obtain ⟨i22, hhi22, rfl⟩ := mnone0 nr14 (by first | exact c15 | exact Classical.not_not.mp c15)
      refine r_iload_n hX dX4_dateOf_15 rfl rfl ?_
      refine r_callS hX (c_X4_isNone _ _ _) ks_X4_61 rfl rfl (Nat.le_of_ble_eq_true rfl) ⟨(Nat.le_of_ble_eq_true rfl), (Nat.le_of_ble_eq_true rfl)⟩ ⟨(Nat.le_of_ble_eq_true rfl), (Nat.le_of_ble_eq_true rfl)⟩ dX4_dateOf_16 (fun _ _ z => False.elim z) (fun v9 ws9 h23 => ?_)
      obtain ⟨r25, nr25, rfl, hw9⟩ := h23
      subst ws9
      dsimp only [mPush]
      refine r_if_eq (tgt := 26) hX dX4_dateOf_19 (by decide) (fun c26 => ?_) (fun c26 => ?_)
      · obtain ⟨i27, hhi27, rfl⟩ := mnone0 nr25 (by first | exact c26 | exact Classical.not_not.mp c26)
        refine r_iconst (v := 0) hX dX4_dateOf_26 (by decide) ?_
        refine r_iconst (v := 0) hX dX4_dateOf_27 (by decide) ?_
        refine r_callV hX (c_X4_isStopped _ _ _ _ _ _ _ _) kv_X4_68 14 rfl rfl rfl rfl (Nat.le_of_ble_eq_true rfl) ⟨(Nat.le_of_ble_eq_true rfl), (Nat.le_of_ble_eq_true rfl)⟩ ⟨(Nat.le_of_ble_eq_true rfl), (Nat.le_of_ble_eq_true rfl)⟩ dX4_dateOf_28 (fun _ _ z => False.elim z) (fun v9 ws9 h28 => ?_)
        obtain ⟨r30, J31, nr30, etJ31, erJ31, eJ31, rfl, hw9⟩ := h28
        subst ws9
        dsimp only [mPush]
        refine r_if_eq (tgt := 36) hX dX4_dateOf_31 (by decide) (fun c32 => ?_) (fun c32 => ?_)
        · have hs33 := mnone0 nr30 (by first | exact c32 | exact Classical.not_not.mp c32)
          refine r_aload_n hX dX4_dateOf_36 rfl rfl ?_
          refine r_iload_n hX dX4_dateOf_37 rfl rfl ?_
          refine r_lconst (v := 0) hX dX4_dateOf_38 (by decide) ?_
          refine r_aload_n hX dX4_dateOf_39 rfl rfl ?_
          refine r_get hX kf_X4_13 14 rfl rfl dX4_dateOf_40 ?_
          refine r_iload_n hX dX4_dateOf_43 rfl rfl ?_
          refine r_lald hX 16 1 rfl rfl (vp_in_nI hhi22 (by decide)) dX4_dateOf_44 ?_
          refine r_ldc2 hX kc_X4_96 dX4_dateOf_45 ?_
          refine r_callS hX (c_X4_whole _ _ _ _ (by decide)) ks_X4_92 rfl rfl (Nat.le_of_ble_eq_true rfl) ⟨(Nat.le_of_ble_eq_true rfl), (Nat.le_of_ble_eq_true rfl)⟩ ⟨(Nat.le_of_ble_eq_true rfl), (Nat.le_of_ble_eq_true rfl)⟩ dX4_dateOf_48 (fun _ _ z => False.elim z) (fun v9 ws9 h34 => ?_)
          obtain ⟨r36, rfl, hw9⟩ := h34
          subst ws9
          dsimp only [mPush]
          refine r_aload_n hX dX4_dateOf_51 rfl rfl ?_
          refine r_get hX kf_X4_7 14 rfl rfl dX4_dateOf_52 ?_
          refine r_iload_n hX dX4_dateOf_55 rfl rfl ?_
          refine r_iald hX 15 0 rfl rfl (vp_in_nI hhi27 (by decide)) dX4_dateOf_56 ?_
          refine r_i2l hX dX4_dateOf_57 ?_
          refine r_ladd hX dX4_dateOf_58 ?_
          refine r_aload_n hX dX4_dateOf_59 rfl rfl ?_
          refine r_get hX kf_X4_13 14 rfl rfl dX4_dateOf_60 ?_
          refine r_iload_n hX dX4_dateOf_63 rfl rfl ?_
          refine r_lald hX 16 1 rfl rfl (vp_in_nI hhi22 (by decide)) dX4_dateOf_64 ?_
          refine r_ldc2 hX kc_X4_96 dX4_dateOf_65 ?_
          refine r_callS hX (c_X4_rest _ _ _ _ (by decide)) ks_X4_102 rfl rfl (Nat.le_of_ble_eq_true rfl) ⟨(Nat.le_of_ble_eq_true rfl), (Nat.le_of_ble_eq_true rfl)⟩ ⟨(Nat.le_of_ble_eq_true rfl), (Nat.le_of_ble_eq_true rfl)⟩ dX4_dateOf_68 (fun _ _ z => False.elim z) (fun v9 ws9 h37 => ?_)
          obtain ⟨r39, rfl, hw9⟩ := h37
          subst ws9
          dsimp only [mPush]
          refine r_aload_n hX dX4_dateOf_71 rfl rfl ?_
          refine r_get hX kf_X4_7 14 rfl rfl dX4_dateOf_72 ?_
          refine r_iload_n hX dX4_dateOf_75 rfl rfl ?_
          refine r_iald hX 15 0 rfl rfl (vp_in_nI hhi27 (by decide)) dX4_dateOf_76 ?_
          refine r_callV hX (c_X4_put_ _ _ _ _ J31 _ (mWF2 eJ31 hJ) i11 hhi11 _ _ _ _) kv_X4_167 14 rfl rfl rfl rfl (Nat.le_of_ble_eq_true rfl) ⟨(Nat.le_of_ble_eq_true rfl), (Nat.le_of_ble_eq_true rfl)⟩ ⟨(Nat.le_of_ble_eq_true rfl), (Nat.le_of_ble_eq_true rfl)⟩ dX4_dateOf_77 (fun _ _ z => False.elim z) (fun v9 ws9 h40 => ?_)
          obtain ⟨r42, J43, hJ43, oJ43, rfl, hw9⟩ := h40
          subst ws9
          dsimp only [mPush]
          exact r_iret hX hE dX4_dateOf_80 (Nat.le_of_ble_eq_true rfl) (Nat.le_of_ble_eq_true rfl) ⟨_, J43, hJ43, (oJ43.trans ((congrArg Prod.fst eJ31).trans rfl)), rfl, rfl⟩
        · refine r_iconst (v := 0) hX dX4_dateOf_34 (by decide) ?_
          exact r_iret hX hE dX4_dateOf_35 (Nat.le_of_ble_eq_true rfl) (Nat.le_of_ble_eq_true rfl) ⟨_, J31, (mWF2 eJ31 hJ), ((congrArg Prod.fst eJ31).trans rfl), rfl, rfl⟩
      · refine r_iconst (v := 1) hX dX4_dateOf_22 (by decide) ?_
        refine r_goto (tgt := 27) hX dX4_dateOf_23 (by decide) ?_
        refine r_iconst (v := 0) hX dX4_dateOf_27 (by decide) ?_
        refine r_callV hX (c_X4_isStopped _ _ _ _ _ _ _ _) kv_X4_68 14 rfl rfl rfl rfl (Nat.le_of_ble_eq_true rfl) ⟨(Nat.le_of_ble_eq_true rfl), (Nat.le_of_ble_eq_true rfl)⟩ ⟨(Nat.le_of_ble_eq_true rfl), (Nat.le_of_ble_eq_true rfl)⟩ dX4_dateOf_28 (fun _ _ z => False.elim z) (fun v9 ws9 h44 => ?_)
        obtain ⟨r46, J47, nr46, etJ47, erJ47, eJ47, rfl, hw9⟩ := h44
        subst ws9
        dsimp only [mPush]
        refine r_if_eq (tgt := 36) hX dX4_dateOf_31 (by decide) (fun c48 => ?_) (fun c48 => ?_)
        · have hs49 := mnone0 nr46 (by first | exact c48 | exact Classical.not_not.mp c48)
          exact absurd hs49.1 (by decide)
        · refine r_iconst (v := 0) hX dX4_dateOf_34 (by decide) ?_
          exact r_iret hX hE dX4_dateOf_35 (Nat.le_of_ble_eq_true rfl) (Nat.le_of_ble_eq_true rfl) ⟨_, J47, (mWF2 eJ47 hJ), ((congrArg Prod.fst eJ47).trans rfl), rfl, rfl⟩
theorem dX4_moveDate_0 : decode cX4_moveDate 0 = .ok (.aload_n 0, 1) := by decide +kernel
theorem dX4_moveDate_1 : decode cX4_moveDate 1 = .ok (.iload_n 1, 1) := by decide +kernel
theorem dX4_moveDate_2 : decode cX4_moveDate 2 = .ok (.invokestatic 61, 3) := by decide +kernel
theorem dX4_moveDate_5 : decode cX4_moveDate 5 = .ok (.iload_n 2, 1) := by decide +kernel
theorem dX4_moveDate_6 : decode cX4_moveDate 6 = .ok (.i2l, 1) := by decide +kernel
theorem dX4_moveDate_7 : decode cX4_moveDate 7 = .ok (.lconst 0, 1) := by decide +kernel
theorem dX4_moveDate_8 : decode cX4_moveDate 8 = .ok (.ldc2_w 183, 3) := by decide +kernel
theorem dX4_moveDate_11 : decode cX4_moveDate 11 = .ok (.invokestatic 38, 3) := by decide +kernel
theorem dX4_moveDate_14 : decode cX4_moveDate 14 = .ok (.ifCond .ne 7, 3) := by decide +kernel
theorem dX4_moveDate_17 : decode cX4_moveDate 17 = .ok (.iconst 1, 1) := by decide +kernel
theorem dX4_moveDate_18 : decode cX4_moveDate 18 = .ok (.goto 4, 3) := by decide +kernel
theorem dX4_moveDate_21 : decode cX4_moveDate 21 = .ok (.iconst 0, 1) := by decide +kernel
theorem dX4_moveDate_22 : decode cX4_moveDate 22 = .ok (.invokevirtual 68, 3) := by decide +kernel
theorem dX4_moveDate_25 : decode cX4_moveDate 25 = .ok (.ifCond .eq 5, 3) := by decide +kernel
theorem dX4_moveDate_28 : decode cX4_moveDate 28 = .ok (.iconst 0, 1) := by decide +kernel
theorem dX4_moveDate_29 : decode cX4_moveDate 29 = .ok (.ireturn, 1) := by decide +kernel
theorem dX4_moveDate_30 : decode cX4_moveDate 30 = .ok (.iload 4, 2) := by decide +kernel
theorem dX4_moveDate_32 : decode cX4_moveDate 32 = .ok (.ifCond .eq 9, 3) := by decide +kernel
theorem dX4_moveDate_35 : decode cX4_moveDate 35 = .ok (.iload_n 3, 1) := by decide +kernel
theorem dX4_moveDate_36 : decode cX4_moveDate 36 = .ok (.i2l, 1) := by decide +kernel
theorem dX4_moveDate_37 : decode cX4_moveDate 37 = .ok (.lneg, 1) := by decide +kernel
theorem dX4_moveDate_38 : decode cX4_moveDate 38 = .ok (.goto 5, 3) := by decide +kernel
theorem dX4_moveDate_41 : decode cX4_moveDate 41 = .ok (.iload_n 3, 1) := by decide +kernel
theorem dX4_moveDate_42 : decode cX4_moveDate 42 = .ok (.i2l, 1) := by decide +kernel
theorem dX4_moveDate_43 : decode cX4_moveDate 43 = .ok (.lstore 5, 2) := by decide +kernel
theorem dX4_moveDate_45 : decode cX4_moveDate 45 = .ok (.iload_n 2, 1) := by decide +kernel
theorem dX4_moveDate_46 : decode cX4_moveDate 46 = .ok (.iconst 2, 1) := by decide +kernel
theorem dX4_moveDate_47 : decode cX4_moveDate 47 = .ok (.if_icmp .ge 24, 3) := by decide +kernel
theorem dX4_moveDate_50 : decode cX4_moveDate 50 = .ok (.aload_n 0, 1) := by decide +kernel
theorem dX4_moveDate_51 : decode cX4_moveDate 51 = .ok (.iload_n 1, 1) := by decide +kernel
theorem dX4_moveDate_52 : decode cX4_moveDate 52 = .ok (.iload_n 2, 1) := by decide +kernel
theorem dX4_moveDate_53 : decode cX4_moveDate 53 = .ok (.ifCond .ne 12, 3) := by decide +kernel
theorem dX4_moveDate_56 : decode cX4_moveDate 56 = .ok (.ldc2_w 151, 3) := by decide +kernel
theorem dX4_moveDate_59 : decode cX4_moveDate 59 = .ok (.lload 5, 2) := by decide +kernel
theorem dX4_moveDate_61 : decode cX4_moveDate 61 = .ok (.lmul, 1) := by decide +kernel
theorem dX4_moveDate_62 : decode cX4_moveDate 62 = .ok (.goto 5, 3) := by decide +kernel
theorem dX4_moveDate_65 : decode cX4_moveDate 65 = .ok (.lload 5, 2) := by decide +kernel
theorem dX4_moveDate_67 : decode cX4_moveDate 67 = .ok (.invokevirtual 185, 3) := by decide +kernel
theorem dX4_moveDate_70 : decode cX4_moveDate 70 = .ok (.ireturn, 1) := by decide +kernel
theorem dX4_moveDate_71 : decode cX4_moveDate 71 = .ok (.iload_n 2, 1) := by decide +kernel
theorem dX4_moveDate_72 : decode cX4_moveDate 72 = .ok (.iconst 4, 1) := by decide +kernel
theorem dX4_moveDate_73 : decode cX4_moveDate 73 = .ok (.if_icmp .ge 51, 3) := by decide +kernel
theorem dX4_moveDate_76 : decode cX4_moveDate 76 = .ok (.aload_n 0, 1) := by decide +kernel
theorem dX4_moveDate_77 : decode cX4_moveDate 77 = .ok (.iload_n 1, 1) := by decide +kernel
theorem dX4_moveDate_78 : decode cX4_moveDate 78 = .ok (.aload_n 0, 1) := by decide +kernel
theorem dX4_moveDate_79 : decode cX4_moveDate 79 = .ok (.getfield 17, 3) := by decide +kernel
theorem dX4_moveDate_82 : decode cX4_moveDate 82 = .ok (.iload_n 1, 1) := by decide +kernel
theorem dX4_moveDate_83 : decode cX4_moveDate 83 = .ok (.iaload, 1) := by decide +kernel
theorem dX4_moveDate_84 : decode cX4_moveDate 84 = .ok (.i2l, 1) := by decide +kernel
theorem dX4_moveDate_85 : decode cX4_moveDate 85 = .ok (.lload 5, 2) := by decide +kernel
theorem dX4_moveDate_87 : decode cX4_moveDate 87 = .ok (.iload_n 2, 1) := by decide +kernel
theorem dX4_moveDate_88 : decode cX4_moveDate 88 = .ok (.iconst 2, 1) := by decide +kernel
theorem dX4_moveDate_89 : decode cX4_moveDate 89 = .ok (.if_icmp .ne 8, 3) := by decide +kernel
theorem dX4_moveDate_92 : decode cX4_moveDate 92 = .ok (.bipush 7, 2) := by decide +kernel
theorem dX4_moveDate_94 : decode cX4_moveDate 94 = .ok (.goto 4, 3) := by decide +kernel
theorem dX4_moveDate_97 : decode cX4_moveDate 97 = .ok (.iconst 1, 1) := by decide +kernel
theorem dX4_moveDate_98 : decode cX4_moveDate 98 = .ok (.i2l, 1) := by decide +kernel
theorem dX4_moveDate_99 : decode cX4_moveDate 99 = .ok (.lmul, 1) := by decide +kernel
theorem dX4_moveDate_100 : decode cX4_moveDate 100 = .ok (.ladd, 1) := by decide +kernel
theorem dX4_moveDate_101 : decode cX4_moveDate 101 = .ok (.aload_n 0, 1) := by decide +kernel
theorem dX4_moveDate_102 : decode cX4_moveDate 102 = .ok (.getfield 20, 3) := by decide +kernel
theorem dX4_moveDate_105 : decode cX4_moveDate 105 = .ok (.iload_n 1, 1) := by decide +kernel
theorem dX4_moveDate_106 : decode cX4_moveDate 106 = .ok (.iaload, 1) := by decide +kernel
theorem dX4_moveDate_107 : decode cX4_moveDate 107 = .ok (.i2l, 1) := by decide +kernel
theorem dX4_moveDate_108 : decode cX4_moveDate 108 = .ok (.aload_n 0, 1) := by decide +kernel
theorem dX4_moveDate_109 : decode cX4_moveDate 109 = .ok (.getfield 23, 3) := by decide +kernel
theorem dX4_moveDate_112 : decode cX4_moveDate 112 = .ok (.iload_n 1, 1) := by decide +kernel
theorem dX4_moveDate_113 : decode cX4_moveDate 113 = .ok (.iaload, 1) := by decide +kernel
theorem dX4_moveDate_114 : decode cX4_moveDate 114 = .ok (.aload_n 0, 1) := by decide +kernel
theorem dX4_moveDate_115 : decode cX4_moveDate 115 = .ok (.getfield 26, 3) := by decide +kernel
theorem dX4_moveDate_118 : decode cX4_moveDate 118 = .ok (.iload_n 1, 1) := by decide +kernel
theorem dX4_moveDate_119 : decode cX4_moveDate 119 = .ok (.iaload, 1) := by decide +kernel
theorem dX4_moveDate_120 : decode cX4_moveDate 120 = .ok (.invokevirtual 167, 3) := by decide +kernel
theorem dX4_moveDate_123 : decode cX4_moveDate 123 = .ok (.ireturn, 1) := by decide +kernel
theorem dX4_moveDate_124 : decode cX4_moveDate 124 = .ok (.aload_n 0, 1) := by decide +kernel
theorem dX4_moveDate_125 : decode cX4_moveDate 125 = .ok (.getfield 23, 3) := by decide +kernel
theorem dX4_moveDate_128 : decode cX4_moveDate 128 = .ok (.iload_n 1, 1) := by decide +kernel
theorem dX4_moveDate_129 : decode cX4_moveDate 129 = .ok (.iaload, 1) := by decide +kernel
theorem dX4_moveDate_130 : decode cX4_moveDate 130 = .ok (.i2l, 1) := by decide +kernel
theorem dX4_moveDate_131 : decode cX4_moveDate 131 = .ok (.iload_n 2, 1) := by decide +kernel
theorem dX4_moveDate_132 : decode cX4_moveDate 132 = .ok (.bipush 7, 2) := by decide +kernel
theorem dX4_moveDate_134 : decode cX4_moveDate 134 = .ok (.if_icmp .ne 8, 3) := by decide +kernel
theorem dX4_moveDate_137 : decode cX4_moveDate 137 = .ok (.lload 5, 2) := by decide +kernel
theorem dX4_moveDate_139 : decode cX4_moveDate 139 = .ok (.goto 4, 3) := by decide +kernel
theorem dX4_moveDate_142 : decode cX4_moveDate 142 = .ok (.lconst 0, 1) := by decide +kernel
theorem dX4_moveDate_143 : decode cX4_moveDate 143 = .ok (.ladd, 1) := by decide +kernel
theorem dX4_moveDate_144 : decode cX4_moveDate 144 = .ok (.lstore 7, 2) := by decide +kernel
theorem dX4_moveDate_146 : decode cX4_moveDate 146 = .ok (.aload_n 0, 1) := by decide +kernel
theorem dX4_moveDate_147 : decode cX4_moveDate 147 = .ok (.iload_n 1, 1) := by decide +kernel
theorem dX4_moveDate_148 : decode cX4_moveDate 148 = .ok (.aload_n 0, 1) := by decide +kernel
theorem dX4_moveDate_149 : decode cX4_moveDate 149 = .ok (.getfield 17, 3) := by decide +kernel
theorem dX4_moveDate_152 : decode cX4_moveDate 152 = .ok (.iload_n 1, 1) := by decide +kernel
theorem dX4_moveDate_153 : decode cX4_moveDate 153 = .ok (.iaload, 1) := by decide +kernel
theorem dX4_moveDate_154 : decode cX4_moveDate 154 = .ok (.i2l, 1) := by decide +kernel
theorem dX4_moveDate_155 : decode cX4_moveDate 155 = .ok (.aload_n 0, 1) := by decide +kernel
theorem dX4_moveDate_156 : decode cX4_moveDate 156 = .ok (.getfield 20, 3) := by decide +kernel
theorem dX4_moveDate_159 : decode cX4_moveDate 159 = .ok (.iload_n 1, 1) := by decide +kernel
theorem dX4_moveDate_160 : decode cX4_moveDate 160 = .ok (.iaload, 1) := by decide +kernel
theorem dX4_moveDate_161 : decode cX4_moveDate 161 = .ok (.i2l, 1) := by decide +kernel
theorem dX4_moveDate_162 : decode cX4_moveDate 162 = .ok (.lload 5, 2) := by decide +kernel
theorem dX4_moveDate_164 : decode cX4_moveDate 164 = .ok (.iload_n 2, 1) := by decide +kernel
theorem dX4_moveDate_165 : decode cX4_moveDate 165 = .ok (.invokestatic 188, 3) := by decide +kernel
theorem dX4_moveDate_168 : decode cX4_moveDate 168 = .ok (.i2l, 1) := by decide +kernel
theorem dX4_moveDate_169 : decode cX4_moveDate 169 = .ok (.lmul, 1) := by decide +kernel
theorem dX4_moveDate_170 : decode cX4_moveDate 170 = .ok (.ladd, 1) := by decide +kernel
theorem dX4_moveDate_171 : decode cX4_moveDate 171 = .ok (.lload 7, 2) := by decide +kernel
theorem dX4_moveDate_173 : decode cX4_moveDate 173 = .ok (.ldc2_w 96, 3) := by decide +kernel
theorem dX4_moveDate_176 : decode cX4_moveDate 176 = .ok (.invokestatic 92, 3) := by decide +kernel
theorem dX4_moveDate_179 : decode cX4_moveDate 179 = .ok (.ladd, 1) := by decide +kernel
theorem dX4_moveDate_180 : decode cX4_moveDate 180 = .ok (.lload 7, 2) := by decide +kernel
theorem dX4_moveDate_182 : decode cX4_moveDate 182 = .ok (.ldc2_w 96, 3) := by decide +kernel
theorem dX4_moveDate_185 : decode cX4_moveDate 185 = .ok (.invokestatic 102, 3) := by decide +kernel
theorem dX4_moveDate_188 : decode cX4_moveDate 188 = .ok (.aload_n 0, 1) := by decide +kernel
theorem dX4_moveDate_189 : decode cX4_moveDate 189 = .ok (.getfield 26, 3) := by decide +kernel
theorem dX4_moveDate_192 : decode cX4_moveDate 192 = .ok (.iload_n 1, 1) := by decide +kernel
theorem dX4_moveDate_193 : decode cX4_moveDate 193 = .ok (.iaload, 1) := by decide +kernel
theorem dX4_moveDate_194 : decode cX4_moveDate 194 = .ok (.invokevirtual 167, 3) := by decide +kernel
theorem dX4_moveDate_197 : decode cX4_moveDate 197 = .ok (.ireturn, 1) := by decide +kernel
set_option maxHeartbeats 4000000 in
set_option maxRecDepth 20000 in
theorem c_X4_moveDate (ad ae : Nat → Nat) (cs : ClassId × ClassId × ClassId) (K : mK) (J : mJ) (rest : va_W) (hJ : mWF J) (p0 : Int32) (p1 : Int32) (p2 : Int32) (p3 : Int32) : mCt (mTy cs) yX4_moveDate cX4_moveDate 9 (some .int) ⟨6, 1, 4, 147⟩ [.ref (ae 0), .int p0, .int p1, .int p2, .int p3] (mRw ad ae cs K J rest) (mZi ad ae cs K J rest) mNo := by
  refine mCt.of (by decide +kernel) (Nat.le_of_ble_eq_true rfl) (fun X hX hE => ?_)
  have hX : mOK X RX4 cX4_moveDate 9 ⟨6, 1, 4, 147⟩ [] (mTy cs) := hX
  refine r_aload_n hX dX4_moveDate_0 rfl rfl ?_
  refine r_iload_n hX dX4_moveDate_1 rfl rfl ?_
  refine r_callS hX (c_X4_isNone _ _ _) ks_X4_61 rfl rfl (Nat.le_of_ble_eq_true rfl) ⟨(Nat.le_of_ble_eq_true rfl), (Nat.le_of_ble_eq_true rfl)⟩ ⟨(Nat.le_of_ble_eq_true rfl), (Nat.le_of_ble_eq_true rfl)⟩ dX4_moveDate_2 (fun _ _ z => False.elim z) (fun v9 ws9 h1 => ?_)
  obtain ⟨r3, nr3, rfl, hw9⟩ := h1
  subst ws9
  dsimp only [mPush]
  refine r_iload_n hX dX4_moveDate_5 rfl rfl ?_
  refine r_i2l hX dX4_moveDate_6 ?_
  refine r_lconst (v := 0) hX dX4_moveDate_7 (by decide) ?_
  refine r_ldc2 hX kc_X4_183 dX4_moveDate_8 ?_
  refine r_callS hX (c_X4_isIn _ _ _ _ _) ks_X4_38 rfl rfl (Nat.le_of_ble_eq_true rfl) ⟨(Nat.le_of_ble_eq_true rfl), (Nat.le_of_ble_eq_true rfl)⟩ ⟨(Nat.le_of_ble_eq_true rfl), (Nat.le_of_ble_eq_true rfl)⟩ dX4_moveDate_11 (fun _ _ z => False.elim z) (fun v9 ws9 h4 => ?_)
  obtain ⟨rfl, hw9⟩ := h4
  subst ws9
  dsimp only [mPush]
  refine r_if_ne (tgt := 21) hX dX4_moveDate_14 (by decide) (fun c6 => ?_) (fun c6 => ?_)
  · obtain ⟨i7, li7, hhi7, rfl⟩ := fwin 0 7 (by decide) (by decide) (by decide) (by decide) c6
    refine r_iconst (v := 0) hX dX4_moveDate_21 (by decide) ?_
    refine r_callV hX (c_X4_isStopped _ _ _ _ _ _ _ _) kv_X4_68 14 rfl rfl rfl rfl (Nat.le_of_ble_eq_true rfl) ⟨(Nat.le_of_ble_eq_true rfl), (Nat.le_of_ble_eq_true rfl)⟩ ⟨(Nat.le_of_ble_eq_true rfl), (Nat.le_of_ble_eq_true rfl)⟩ dX4_moveDate_22 (fun _ _ z => False.elim z) (fun v9 ws9 h8 => ?_)
    obtain ⟨r10, J11, nr10, etJ11, erJ11, eJ11, rfl, hw9⟩ := h8
    subst ws9
    dsimp only [mPush]
    refine r_if_eq (tgt := 30) hX dX4_moveDate_25 (by decide) (fun c12 => ?_) (fun c12 => ?_)
    · have hs13 := mnone0 nr10 (by first | exact c12 | exact Classical.not_not.mp c12)
      obtain ⟨i14, hhi14, rfl⟩ := mnone0 nr3 hs13.1
      refine r_iload hX dX4_moveDate_30 rfl ?_
      refine r_if_eq (tgt := 41) hX dX4_moveDate_32 (by decide) (fun c15 => ?_) (fun c15 => ?_)
      · refine r_iload_n hX dX4_moveDate_41 rfl rfl ?_
        refine r_i2l hX dX4_moveDate_42 ?_
        refine r_lstore hX dX4_moveDate_43 (by decide) rfl ?_
        refine r_iload_n hX dX4_moveDate_45 rfl rfl ?_
        refine r_iconst (v := 2) hX dX4_moveDate_46 (by decide) ?_
        refine r_icmp_ge (tgt := 71) hX dX4_moveDate_47 (by decide) (fun c16 => ?_) (fun c16 => ?_)
        · refine r_iload_n hX dX4_moveDate_71 rfl rfl ?_
          refine r_iconst (v := 4) hX dX4_moveDate_72 (by decide) ?_
          refine r_icmp_ge (tgt := 124) hX dX4_moveDate_73 (by decide) (fun c17 => ?_) (fun c17 => ?_)
          · refine r_aload_n hX dX4_moveDate_124 rfl rfl ?_
            refine r_get hX kf_X4_23 14 rfl rfl dX4_moveDate_125 ?_
            refine r_iload_n hX dX4_moveDate_128 rfl rfl ?_
            refine r_iald hX 19 0 rfl rfl (vp_in_nI (Nat.lt_of_lt_of_le hhi14 (by decide)) (by decide)) dX4_moveDate_129 ?_
            refine r_i2l hX dX4_moveDate_130 ?_
            refine r_iload_n hX dX4_moveDate_131 rfl rfl ?_
            refine r_bipush (v := 7) hX dX4_moveDate_132 (by decide) ?_
            refine r_icmp_ne (tgt := 142) hX dX4_moveDate_134 (by decide) (fun c18 => ?_) (fun c18 => ?_)
            · refine r_lconst (v := 0) hX dX4_moveDate_142 (by decide) ?_
              refine r_ladd hX dX4_moveDate_143 ?_
              refine r_lstore hX dX4_moveDate_144 (by decide) rfl ?_
              refine r_aload_n hX dX4_moveDate_146 rfl rfl ?_
              refine r_iload_n hX dX4_moveDate_147 rfl rfl ?_
              refine r_aload_n hX dX4_moveDate_148 rfl rfl ?_
              refine r_get hX kf_X4_17 14 rfl rfl dX4_moveDate_149 ?_
              refine r_iload_n hX dX4_moveDate_152 rfl rfl ?_
              refine r_iald hX 17 0 rfl rfl (vp_in_nI (Nat.lt_of_lt_of_le hhi14 (by decide)) (by decide)) dX4_moveDate_153 ?_
              refine r_i2l hX dX4_moveDate_154 ?_
              refine r_aload_n hX dX4_moveDate_155 rfl rfl ?_
              refine r_get hX kf_X4_20 14 rfl rfl dX4_moveDate_156 ?_
              refine r_iload_n hX dX4_moveDate_159 rfl rfl ?_
              refine r_iald hX 18 0 rfl rfl (vp_in_nI (Nat.lt_of_lt_of_le hhi14 (by decide)) (by decide)) dX4_moveDate_160 ?_
              refine r_i2l hX dX4_moveDate_161 ?_
              refine r_lload hX dX4_moveDate_162 rfl ?_
              refine r_iload_n hX dX4_moveDate_164 rfl rfl ?_
              refine r_callS hX (c_X4_secondsOf _ _ _) ks_X4_188 rfl rfl (Nat.le_of_ble_eq_true rfl) ⟨(Nat.le_of_ble_eq_true rfl), (Nat.le_of_ble_eq_true rfl)⟩ ⟨(Nat.le_of_ble_eq_true rfl), (Nat.le_of_ble_eq_true rfl)⟩ dX4_moveDate_165 (fun _ _ z => False.elim z) (fun v9 ws9 h19 => ?_)
              obtain ⟨r21, rfl, hw9⟩ := h19
              subst ws9
              dsimp only [mPush]
              refine r_i2l hX dX4_moveDate_168 ?_
              refine r_lmul hX dX4_moveDate_169 ?_
              refine r_ladd hX dX4_moveDate_170 ?_
              refine r_lload hX dX4_moveDate_171 rfl ?_
              refine r_ldc2 hX kc_X4_96 dX4_moveDate_173 ?_
              refine r_callS hX (c_X4_whole _ _ _ _ (by decide)) ks_X4_92 rfl rfl (Nat.le_of_ble_eq_true rfl) ⟨(Nat.le_of_ble_eq_true rfl), (Nat.le_of_ble_eq_true rfl)⟩ ⟨(Nat.le_of_ble_eq_true rfl), (Nat.le_of_ble_eq_true rfl)⟩ dX4_moveDate_176 (fun _ _ z => False.elim z) (fun v9 ws9 h22 => ?_)
              obtain ⟨r24, rfl, hw9⟩ := h22
              subst ws9
              dsimp only [mPush]
              refine r_ladd hX dX4_moveDate_179 ?_
              refine r_lload hX dX4_moveDate_180 rfl ?_
              refine r_ldc2 hX kc_X4_96 dX4_moveDate_182 ?_
              refine r_callS hX (c_X4_rest _ _ _ _ (by decide)) ks_X4_102 rfl rfl (Nat.le_of_ble_eq_true rfl) ⟨(Nat.le_of_ble_eq_true rfl), (Nat.le_of_ble_eq_true rfl)⟩ ⟨(Nat.le_of_ble_eq_true rfl), (Nat.le_of_ble_eq_true rfl)⟩ dX4_moveDate_185 (fun _ _ z => False.elim z) (fun v9 ws9 h25 => ?_)
              obtain ⟨r27, rfl, hw9⟩ := h25
              subst ws9
              dsimp only [mPush]
              refine r_aload_n hX dX4_moveDate_188 rfl rfl ?_
              refine r_get hX kf_X4_26 14 rfl rfl dX4_moveDate_189 ?_
              refine r_iload_n hX dX4_moveDate_192 rfl rfl ?_
              refine r_iald hX 20 0 rfl rfl (vp_in_nI (Nat.lt_of_lt_of_le hhi14 (by decide)) (by decide)) dX4_moveDate_193 ?_
              refine r_callV hX (c_X4_put_ _ _ _ _ J11 _ (mWF2 eJ11 hJ) i14 hhi14 _ _ _ _) kv_X4_167 14 rfl rfl rfl rfl (Nat.le_of_ble_eq_true rfl) ⟨(Nat.le_of_ble_eq_true rfl), (Nat.le_of_ble_eq_true rfl)⟩ ⟨(Nat.le_of_ble_eq_true rfl), (Nat.le_of_ble_eq_true rfl)⟩ dX4_moveDate_194 (fun _ _ z => False.elim z) (fun v9 ws9 h28 => ?_)
              obtain ⟨r30, J31, hJ31, oJ31, rfl, hw9⟩ := h28
              subst ws9
              dsimp only [mPush]
              exact r_iret hX hE dX4_moveDate_197 (Nat.le_of_ble_eq_true rfl) (Nat.le_of_ble_eq_true rfl) ⟨_, J31, hJ31, (oJ31.trans ((congrArg Prod.fst eJ11).trans rfl)), rfl, rfl⟩
            · refine r_lload hX dX4_moveDate_137 rfl ?_
              refine r_goto (tgt := 143) hX dX4_moveDate_139 (by decide) ?_
              refine r_ladd hX dX4_moveDate_143 ?_
              refine r_lstore hX dX4_moveDate_144 (by decide) rfl ?_
              refine r_aload_n hX dX4_moveDate_146 rfl rfl ?_
              refine r_iload_n hX dX4_moveDate_147 rfl rfl ?_
              refine r_aload_n hX dX4_moveDate_148 rfl rfl ?_
              refine r_get hX kf_X4_17 14 rfl rfl dX4_moveDate_149 ?_
              refine r_iload_n hX dX4_moveDate_152 rfl rfl ?_
              refine r_iald hX 17 0 rfl rfl (vp_in_nI (Nat.lt_of_lt_of_le hhi14 (by decide)) (by decide)) dX4_moveDate_153 ?_
              refine r_i2l hX dX4_moveDate_154 ?_
              refine r_aload_n hX dX4_moveDate_155 rfl rfl ?_
              refine r_get hX kf_X4_20 14 rfl rfl dX4_moveDate_156 ?_
              refine r_iload_n hX dX4_moveDate_159 rfl rfl ?_
              refine r_iald hX 18 0 rfl rfl (vp_in_nI (Nat.lt_of_lt_of_le hhi14 (by decide)) (by decide)) dX4_moveDate_160 ?_
              refine r_i2l hX dX4_moveDate_161 ?_
              refine r_lload hX dX4_moveDate_162 rfl ?_
              refine r_iload_n hX dX4_moveDate_164 rfl rfl ?_
              refine r_callS hX (c_X4_secondsOf _ _ _) ks_X4_188 rfl rfl (Nat.le_of_ble_eq_true rfl) ⟨(Nat.le_of_ble_eq_true rfl), (Nat.le_of_ble_eq_true rfl)⟩ ⟨(Nat.le_of_ble_eq_true rfl), (Nat.le_of_ble_eq_true rfl)⟩ dX4_moveDate_165 (fun _ _ z => False.elim z) (fun v9 ws9 h32 => ?_)
              obtain ⟨r34, rfl, hw9⟩ := h32
              subst ws9
              dsimp only [mPush]
              refine r_i2l hX dX4_moveDate_168 ?_
              refine r_lmul hX dX4_moveDate_169 ?_
              refine r_ladd hX dX4_moveDate_170 ?_
              refine r_lload hX dX4_moveDate_171 rfl ?_
              refine r_ldc2 hX kc_X4_96 dX4_moveDate_173 ?_
              refine r_callS hX (c_X4_whole _ _ _ _ (by decide)) ks_X4_92 rfl rfl (Nat.le_of_ble_eq_true rfl) ⟨(Nat.le_of_ble_eq_true rfl), (Nat.le_of_ble_eq_true rfl)⟩ ⟨(Nat.le_of_ble_eq_true rfl), (Nat.le_of_ble_eq_true rfl)⟩ dX4_moveDate_176 (fun _ _ z => False.elim z) (fun v9 ws9 h35 => ?_)
              obtain ⟨r37, rfl, hw9⟩ := h35
              subst ws9
              dsimp only [mPush]
              refine r_ladd hX dX4_moveDate_179 ?_
              refine r_lload hX dX4_moveDate_180 rfl ?_
              refine r_ldc2 hX kc_X4_96 dX4_moveDate_182 ?_
              refine r_callS hX (c_X4_rest _ _ _ _ (by decide)) ks_X4_102 rfl rfl (Nat.le_of_ble_eq_true rfl) ⟨(Nat.le_of_ble_eq_true rfl), (Nat.le_of_ble_eq_true rfl)⟩ ⟨(Nat.le_of_ble_eq_true rfl), (Nat.le_of_ble_eq_true rfl)⟩ dX4_moveDate_185 (fun _ _ z => False.elim z) (fun v9 ws9 h38 => ?_)
              obtain ⟨r40, rfl, hw9⟩ := h38
              subst ws9
              dsimp only [mPush]
              refine r_aload_n hX dX4_moveDate_188 rfl rfl ?_
              refine r_get hX kf_X4_26 14 rfl rfl dX4_moveDate_189 ?_
              refine r_iload_n hX dX4_moveDate_192 rfl rfl ?_
              refine r_iald hX 20 0 rfl rfl (vp_in_nI (Nat.lt_of_lt_of_le hhi14 (by decide)) (by decide)) dX4_moveDate_193 ?_
              refine r_callV hX (c_X4_put_ _ _ _ _ J11 _ (mWF2 eJ11 hJ) i14 hhi14 _ _ _ _) kv_X4_167 14 rfl rfl rfl rfl (Nat.le_of_ble_eq_true rfl) ⟨(Nat.le_of_ble_eq_true rfl), (Nat.le_of_ble_eq_true rfl)⟩ ⟨(Nat.le_of_ble_eq_true rfl), (Nat.le_of_ble_eq_true rfl)⟩ dX4_moveDate_194 (fun _ _ z => False.elim z) (fun v9 ws9 h41 => ?_)
              obtain ⟨r43, J44, hJ44, oJ44, rfl, hw9⟩ := h41
              subst ws9
              dsimp only [mPush]
              exact r_iret hX hE dX4_moveDate_197 (Nat.le_of_ble_eq_true rfl) (Nat.le_of_ble_eq_true rfl) ⟨_, J44, hJ44, (oJ44.trans ((congrArg Prod.fst eJ11).trans rfl)), rfl, rfl⟩
          · have hb45 : i7 < 4 := mlt2 (by first | rfl | decide) (by decide) (by omega) c17
            refine r_aload_n hX dX4_moveDate_76 rfl rfl ?_
            refine r_iload_n hX dX4_moveDate_77 rfl rfl ?_
            refine r_aload_n hX dX4_moveDate_78 rfl rfl ?_
            refine r_get hX kf_X4_17 14 rfl rfl dX4_moveDate_79 ?_
            refine r_iload_n hX dX4_moveDate_82 rfl rfl ?_
            refine r_iald hX 17 0 rfl rfl (vp_in_nI (Nat.lt_of_lt_of_le hhi14 (by decide)) (by decide)) dX4_moveDate_83 ?_
            refine r_i2l hX dX4_moveDate_84 ?_
            refine r_lload hX dX4_moveDate_85 rfl ?_
            refine r_iload_n hX dX4_moveDate_87 rfl rfl ?_
            refine r_iconst (v := 2) hX dX4_moveDate_88 (by decide) ?_
            refine r_icmp_ne (tgt := 97) hX dX4_moveDate_89 (by decide) (fun c46 => ?_) (fun c46 => ?_)
            · refine r_iconst (v := 1) hX dX4_moveDate_97 (by decide) ?_
              refine r_i2l hX dX4_moveDate_98 ?_
              refine r_lmul hX dX4_moveDate_99 ?_
              refine r_ladd hX dX4_moveDate_100 ?_
              refine r_aload_n hX dX4_moveDate_101 rfl rfl ?_
              refine r_get hX kf_X4_20 14 rfl rfl dX4_moveDate_102 ?_
              refine r_iload_n hX dX4_moveDate_105 rfl rfl ?_
              refine r_iald hX 18 0 rfl rfl (vp_in_nI (Nat.lt_of_lt_of_le hhi14 (by decide)) (by decide)) dX4_moveDate_106 ?_
              refine r_i2l hX dX4_moveDate_107 ?_
              refine r_aload_n hX dX4_moveDate_108 rfl rfl ?_
              refine r_get hX kf_X4_23 14 rfl rfl dX4_moveDate_109 ?_
              refine r_iload_n hX dX4_moveDate_112 rfl rfl ?_
              refine r_iald hX 19 0 rfl rfl (vp_in_nI (Nat.lt_of_lt_of_le hhi14 (by decide)) (by decide)) dX4_moveDate_113 ?_
              refine r_aload_n hX dX4_moveDate_114 rfl rfl ?_
              refine r_get hX kf_X4_26 14 rfl rfl dX4_moveDate_115 ?_
              refine r_iload_n hX dX4_moveDate_118 rfl rfl ?_
              refine r_iald hX 20 0 rfl rfl (vp_in_nI (Nat.lt_of_lt_of_le hhi14 (by decide)) (by decide)) dX4_moveDate_119 ?_
              refine r_callV hX (c_X4_put_ _ _ _ _ J11 _ (mWF2 eJ11 hJ) i14 hhi14 _ _ _ _) kv_X4_167 14 rfl rfl rfl rfl (Nat.le_of_ble_eq_true rfl) ⟨(Nat.le_of_ble_eq_true rfl), (Nat.le_of_ble_eq_true rfl)⟩ ⟨(Nat.le_of_ble_eq_true rfl), (Nat.le_of_ble_eq_true rfl)⟩ dX4_moveDate_120 (fun _ _ z => False.elim z) (fun v9 ws9 h47 => ?_)
              obtain ⟨r49, J50, hJ50, oJ50, rfl, hw9⟩ := h47
              subst ws9
              dsimp only [mPush]
              exact r_iret hX hE dX4_moveDate_123 (Nat.le_of_ble_eq_true rfl) (Nat.le_of_ble_eq_true rfl) ⟨_, J50, hJ50, (oJ50.trans ((congrArg Prod.fst eJ11).trans rfl)), rfl, rfl⟩
            · refine r_bipush (v := 7) hX dX4_moveDate_92 (by decide) ?_
              refine r_goto (tgt := 98) hX dX4_moveDate_94 (by decide) ?_
              refine r_i2l hX dX4_moveDate_98 ?_
              refine r_lmul hX dX4_moveDate_99 ?_
              refine r_ladd hX dX4_moveDate_100 ?_
              refine r_aload_n hX dX4_moveDate_101 rfl rfl ?_
              refine r_get hX kf_X4_20 14 rfl rfl dX4_moveDate_102 ?_
              refine r_iload_n hX dX4_moveDate_105 rfl rfl ?_
              refine r_iald hX 18 0 rfl rfl (vp_in_nI (Nat.lt_of_lt_of_le hhi14 (by decide)) (by decide)) dX4_moveDate_106 ?_
              refine r_i2l hX dX4_moveDate_107 ?_
              refine r_aload_n hX dX4_moveDate_108 rfl rfl ?_
              refine r_get hX kf_X4_23 14 rfl rfl dX4_moveDate_109 ?_
              refine r_iload_n hX dX4_moveDate_112 rfl rfl ?_
              refine r_iald hX 19 0 rfl rfl (vp_in_nI (Nat.lt_of_lt_of_le hhi14 (by decide)) (by decide)) dX4_moveDate_113 ?_
              refine r_aload_n hX dX4_moveDate_114 rfl rfl ?_
              refine r_get hX kf_X4_26 14 rfl rfl dX4_moveDate_115 ?_
              refine r_iload_n hX dX4_moveDate_118 rfl rfl ?_
              refine r_iald hX 20 0 rfl rfl (vp_in_nI (Nat.lt_of_lt_of_le hhi14 (by decide)) (by decide)) dX4_moveDate_119 ?_
              refine r_callV hX (c_X4_put_ _ _ _ _ J11 _ (mWF2 eJ11 hJ) i14 hhi14 _ _ _ _) kv_X4_167 14 rfl rfl rfl rfl (Nat.le_of_ble_eq_true rfl) ⟨(Nat.le_of_ble_eq_true rfl), (Nat.le_of_ble_eq_true rfl)⟩ ⟨(Nat.le_of_ble_eq_true rfl), (Nat.le_of_ble_eq_true rfl)⟩ dX4_moveDate_120 (fun _ _ z => False.elim z) (fun v9 ws9 h51 => ?_)
              obtain ⟨r53, J54, hJ54, oJ54, rfl, hw9⟩ := h51
              subst ws9
              dsimp only [mPush]
              exact r_iret hX hE dX4_moveDate_123 (Nat.le_of_ble_eq_true rfl) (Nat.le_of_ble_eq_true rfl) ⟨_, J54, hJ54, (oJ54.trans ((congrArg Prod.fst eJ11).trans rfl)), rfl, rfl⟩
        · have hb55 : i7 < 2 := mlt2 (by first | rfl | decide) (by decide) (by omega) c16
          refine r_aload_n hX dX4_moveDate_50 rfl rfl ?_
          refine r_iload_n hX dX4_moveDate_51 rfl rfl ?_
          refine r_iload_n hX dX4_moveDate_52 rfl rfl ?_
          refine r_if_ne (tgt := 65) hX dX4_moveDate_53 (by decide) (fun c56 => ?_) (fun c56 => ?_)
          · refine r_lload hX dX4_moveDate_65 rfl ?_
            refine r_callV hX (c_X4_moveMonths _ _ _ _ J11 _ (mWF2 eJ11 hJ) i14 hhi14 _ (by first | exact mb1 _ | exact mb2 _ | exact mb3 _ | exact mb4 _)) kv_X4_185 14 rfl rfl rfl rfl (Nat.le_of_ble_eq_true rfl) ⟨(Nat.le_of_ble_eq_true rfl), (Nat.le_of_ble_eq_true rfl)⟩ ⟨(Nat.le_of_ble_eq_true rfl), (Nat.le_of_ble_eq_true rfl)⟩ dX4_moveDate_67 (fun _ _ z => False.elim z) (fun v9 ws9 h57 => ?_)
            obtain ⟨r59, J60, hJ60, oJ60, rfl, hw9⟩ := h57
            subst ws9
            dsimp only [mPush]
            exact r_iret hX hE dX4_moveDate_70 (Nat.le_of_ble_eq_true rfl) (Nat.le_of_ble_eq_true rfl) ⟨_, J60, hJ60, (oJ60.trans ((congrArg Prod.fst eJ11).trans rfl)), rfl, rfl⟩
          · refine r_ldc2 hX kc_X4_151 dX4_moveDate_56 ?_
            refine r_lload hX dX4_moveDate_59 rfl ?_
            refine r_lmul hX dX4_moveDate_61 ?_
            refine r_goto (tgt := 67) hX dX4_moveDate_62 (by decide) ?_
            refine r_callV hX (c_X4_moveMonths _ _ _ _ J11 _ (mWF2 eJ11 hJ) i14 hhi14 _ (by first | exact mb1 _ | exact mb2 _ | exact mb3 _ | exact mb4 _)) kv_X4_185 14 rfl rfl rfl rfl (Nat.le_of_ble_eq_true rfl) ⟨(Nat.le_of_ble_eq_true rfl), (Nat.le_of_ble_eq_true rfl)⟩ ⟨(Nat.le_of_ble_eq_true rfl), (Nat.le_of_ble_eq_true rfl)⟩ dX4_moveDate_67 (fun _ _ z => False.elim z) (fun v9 ws9 h61 => ?_)
            obtain ⟨r63, J64, hJ64, oJ64, rfl, hw9⟩ := h61
            subst ws9
            dsimp only [mPush]
            exact r_iret hX hE dX4_moveDate_70 (Nat.le_of_ble_eq_true rfl) (Nat.le_of_ble_eq_true rfl) ⟨_, J64, hJ64, (oJ64.trans ((congrArg Prod.fst eJ11).trans rfl)), rfl, rfl⟩
      · refine r_iload_n hX dX4_moveDate_35 rfl rfl ?_
        refine r_i2l hX dX4_moveDate_36 ?_
        refine r_lneg hX dX4_moveDate_37 ?_
        refine r_goto (tgt := 43) hX dX4_moveDate_38 (by decide) ?_
        refine r_lstore hX dX4_moveDate_43 (by decide) rfl ?_
        refine r_iload_n hX dX4_moveDate_45 rfl rfl ?_
        refine r_iconst (v := 2) hX dX4_moveDate_46 (by decide) ?_
        refine r_icmp_ge (tgt := 71) hX dX4_moveDate_47 (by decide) (fun c65 => ?_) (fun c65 => ?_)
        · refine r_iload_n hX dX4_moveDate_71 rfl rfl ?_
          refine r_iconst (v := 4) hX dX4_moveDate_72 (by decide) ?_
          refine r_icmp_ge (tgt := 124) hX dX4_moveDate_73 (by decide) (fun c66 => ?_) (fun c66 => ?_)
          · refine r_aload_n hX dX4_moveDate_124 rfl rfl ?_
            refine r_get hX kf_X4_23 14 rfl rfl dX4_moveDate_125 ?_
            refine r_iload_n hX dX4_moveDate_128 rfl rfl ?_
            refine r_iald hX 19 0 rfl rfl (vp_in_nI (Nat.lt_of_lt_of_le hhi14 (by decide)) (by decide)) dX4_moveDate_129 ?_
            refine r_i2l hX dX4_moveDate_130 ?_
            refine r_iload_n hX dX4_moveDate_131 rfl rfl ?_
            refine r_bipush (v := 7) hX dX4_moveDate_132 (by decide) ?_
            refine r_icmp_ne (tgt := 142) hX dX4_moveDate_134 (by decide) (fun c67 => ?_) (fun c67 => ?_)
            · refine r_lconst (v := 0) hX dX4_moveDate_142 (by decide) ?_
              refine r_ladd hX dX4_moveDate_143 ?_
              refine r_lstore hX dX4_moveDate_144 (by decide) rfl ?_
              refine r_aload_n hX dX4_moveDate_146 rfl rfl ?_
              refine r_iload_n hX dX4_moveDate_147 rfl rfl ?_
              refine r_aload_n hX dX4_moveDate_148 rfl rfl ?_
              refine r_get hX kf_X4_17 14 rfl rfl dX4_moveDate_149 ?_
              refine r_iload_n hX dX4_moveDate_152 rfl rfl ?_
              refine r_iald hX 17 0 rfl rfl (vp_in_nI (Nat.lt_of_lt_of_le hhi14 (by decide)) (by decide)) dX4_moveDate_153 ?_
              refine r_i2l hX dX4_moveDate_154 ?_
              refine r_aload_n hX dX4_moveDate_155 rfl rfl ?_
              refine r_get hX kf_X4_20 14 rfl rfl dX4_moveDate_156 ?_
              refine r_iload_n hX dX4_moveDate_159 rfl rfl ?_
              refine r_iald hX 18 0 rfl rfl (vp_in_nI (Nat.lt_of_lt_of_le hhi14 (by decide)) (by decide)) dX4_moveDate_160 ?_
              refine r_i2l hX dX4_moveDate_161 ?_
              refine r_lload hX dX4_moveDate_162 rfl ?_
              refine r_iload_n hX dX4_moveDate_164 rfl rfl ?_
              refine r_callS hX (c_X4_secondsOf _ _ _) ks_X4_188 rfl rfl (Nat.le_of_ble_eq_true rfl) ⟨(Nat.le_of_ble_eq_true rfl), (Nat.le_of_ble_eq_true rfl)⟩ ⟨(Nat.le_of_ble_eq_true rfl), (Nat.le_of_ble_eq_true rfl)⟩ dX4_moveDate_165 (fun _ _ z => False.elim z) (fun v9 ws9 h68 => ?_)
              obtain ⟨r70, rfl, hw9⟩ := h68
              subst ws9
              dsimp only [mPush]
              refine r_i2l hX dX4_moveDate_168 ?_
              refine r_lmul hX dX4_moveDate_169 ?_
              refine r_ladd hX dX4_moveDate_170 ?_
              refine r_lload hX dX4_moveDate_171 rfl ?_
              refine r_ldc2 hX kc_X4_96 dX4_moveDate_173 ?_
              refine r_callS hX (c_X4_whole _ _ _ _ (by decide)) ks_X4_92 rfl rfl (Nat.le_of_ble_eq_true rfl) ⟨(Nat.le_of_ble_eq_true rfl), (Nat.le_of_ble_eq_true rfl)⟩ ⟨(Nat.le_of_ble_eq_true rfl), (Nat.le_of_ble_eq_true rfl)⟩ dX4_moveDate_176 (fun _ _ z => False.elim z) (fun v9 ws9 h71 => ?_)
              obtain ⟨r73, rfl, hw9⟩ := h71
              subst ws9
              dsimp only [mPush]
              refine r_ladd hX dX4_moveDate_179 ?_
              refine r_lload hX dX4_moveDate_180 rfl ?_
              refine r_ldc2 hX kc_X4_96 dX4_moveDate_182 ?_
              refine r_callS hX (c_X4_rest _ _ _ _ (by decide)) ks_X4_102 rfl rfl (Nat.le_of_ble_eq_true rfl) ⟨(Nat.le_of_ble_eq_true rfl), (Nat.le_of_ble_eq_true rfl)⟩ ⟨(Nat.le_of_ble_eq_true rfl), (Nat.le_of_ble_eq_true rfl)⟩ dX4_moveDate_185 (fun _ _ z => False.elim z) (fun v9 ws9 h74 => ?_)
              obtain ⟨r76, rfl, hw9⟩ := h74
              subst ws9
              dsimp only [mPush]
              refine r_aload_n hX dX4_moveDate_188 rfl rfl ?_
              refine r_get hX kf_X4_26 14 rfl rfl dX4_moveDate_189 ?_
              refine r_iload_n hX dX4_moveDate_192 rfl rfl ?_
              refine r_iald hX 20 0 rfl rfl (vp_in_nI (Nat.lt_of_lt_of_le hhi14 (by decide)) (by decide)) dX4_moveDate_193 ?_
              refine r_callV hX (c_X4_put_ _ _ _ _ J11 _ (mWF2 eJ11 hJ) i14 hhi14 _ _ _ _) kv_X4_167 14 rfl rfl rfl rfl (Nat.le_of_ble_eq_true rfl) ⟨(Nat.le_of_ble_eq_true rfl), (Nat.le_of_ble_eq_true rfl)⟩ ⟨(Nat.le_of_ble_eq_true rfl), (Nat.le_of_ble_eq_true rfl)⟩ dX4_moveDate_194 (fun _ _ z => False.elim z) (fun v9 ws9 h77 => ?_)
              obtain ⟨r79, J80, hJ80, oJ80, rfl, hw9⟩ := h77
              subst ws9
              dsimp only [mPush]
              exact r_iret hX hE dX4_moveDate_197 (Nat.le_of_ble_eq_true rfl) (Nat.le_of_ble_eq_true rfl) ⟨_, J80, hJ80, (oJ80.trans ((congrArg Prod.fst eJ11).trans rfl)), rfl, rfl⟩
            · refine r_lload hX dX4_moveDate_137 rfl ?_
              refine r_goto (tgt := 143) hX dX4_moveDate_139 (by decide) ?_
              refine r_ladd hX dX4_moveDate_143 ?_
              refine r_lstore hX dX4_moveDate_144 (by decide) rfl ?_
              refine r_aload_n hX dX4_moveDate_146 rfl rfl ?_
              refine r_iload_n hX dX4_moveDate_147 rfl rfl ?_
              refine r_aload_n hX dX4_moveDate_148 rfl rfl ?_
              refine r_get hX kf_X4_17 14 rfl rfl dX4_moveDate_149 ?_
              refine r_iload_n hX dX4_moveDate_152 rfl rfl ?_
              refine r_iald hX 17 0 rfl rfl (vp_in_nI (Nat.lt_of_lt_of_le hhi14 (by decide)) (by decide)) dX4_moveDate_153 ?_
              refine r_i2l hX dX4_moveDate_154 ?_
              refine r_aload_n hX dX4_moveDate_155 rfl rfl ?_
              refine r_get hX kf_X4_20 14 rfl rfl dX4_moveDate_156 ?_
              refine r_iload_n hX dX4_moveDate_159 rfl rfl ?_
              refine r_iald hX 18 0 rfl rfl (vp_in_nI (Nat.lt_of_lt_of_le hhi14 (by decide)) (by decide)) dX4_moveDate_160 ?_
              refine r_i2l hX dX4_moveDate_161 ?_
              refine r_lload hX dX4_moveDate_162 rfl ?_
              refine r_iload_n hX dX4_moveDate_164 rfl rfl ?_
              refine r_callS hX (c_X4_secondsOf _ _ _) ks_X4_188 rfl rfl (Nat.le_of_ble_eq_true rfl) ⟨(Nat.le_of_ble_eq_true rfl), (Nat.le_of_ble_eq_true rfl)⟩ ⟨(Nat.le_of_ble_eq_true rfl), (Nat.le_of_ble_eq_true rfl)⟩ dX4_moveDate_165 (fun _ _ z => False.elim z) (fun v9 ws9 h81 => ?_)
              obtain ⟨r83, rfl, hw9⟩ := h81
              subst ws9
              dsimp only [mPush]
              refine r_i2l hX dX4_moveDate_168 ?_
              refine r_lmul hX dX4_moveDate_169 ?_
              refine r_ladd hX dX4_moveDate_170 ?_
              refine r_lload hX dX4_moveDate_171 rfl ?_
              refine r_ldc2 hX kc_X4_96 dX4_moveDate_173 ?_
              refine r_callS hX (c_X4_whole _ _ _ _ (by decide)) ks_X4_92 rfl rfl (Nat.le_of_ble_eq_true rfl) ⟨(Nat.le_of_ble_eq_true rfl), (Nat.le_of_ble_eq_true rfl)⟩ ⟨(Nat.le_of_ble_eq_true rfl), (Nat.le_of_ble_eq_true rfl)⟩ dX4_moveDate_176 (fun _ _ z => False.elim z) (fun v9 ws9 h84 => ?_)
              obtain ⟨r86, rfl, hw9⟩ := h84
              subst ws9
              dsimp only [mPush]
              refine r_ladd hX dX4_moveDate_179 ?_
              refine r_lload hX dX4_moveDate_180 rfl ?_
              refine r_ldc2 hX kc_X4_96 dX4_moveDate_182 ?_
              refine r_callS hX (c_X4_rest _ _ _ _ (by decide)) ks_X4_102 rfl rfl (Nat.le_of_ble_eq_true rfl) ⟨(Nat.le_of_ble_eq_true rfl), (Nat.le_of_ble_eq_true rfl)⟩ ⟨(Nat.le_of_ble_eq_true rfl), (Nat.le_of_ble_eq_true rfl)⟩ dX4_moveDate_185 (fun _ _ z => False.elim z) (fun v9 ws9 h87 => ?_)
              obtain ⟨r89, rfl, hw9⟩ := h87
              subst ws9
              dsimp only [mPush]
              refine r_aload_n hX dX4_moveDate_188 rfl rfl ?_
              refine r_get hX kf_X4_26 14 rfl rfl dX4_moveDate_189 ?_
              refine r_iload_n hX dX4_moveDate_192 rfl rfl ?_
              refine r_iald hX 20 0 rfl rfl (vp_in_nI (Nat.lt_of_lt_of_le hhi14 (by decide)) (by decide)) dX4_moveDate_193 ?_
              refine r_callV hX (c_X4_put_ _ _ _ _ J11 _ (mWF2 eJ11 hJ) i14 hhi14 _ _ _ _) kv_X4_167 14 rfl rfl rfl rfl (Nat.le_of_ble_eq_true rfl) ⟨(Nat.le_of_ble_eq_true rfl), (Nat.le_of_ble_eq_true rfl)⟩ ⟨(Nat.le_of_ble_eq_true rfl), (Nat.le_of_ble_eq_true rfl)⟩ dX4_moveDate_194 (fun _ _ z => False.elim z) (fun v9 ws9 h90 => ?_)
              obtain ⟨r92, J93, hJ93, oJ93, rfl, hw9⟩ := h90
              subst ws9
              dsimp only [mPush]
              exact r_iret hX hE dX4_moveDate_197 (Nat.le_of_ble_eq_true rfl) (Nat.le_of_ble_eq_true rfl) ⟨_, J93, hJ93, (oJ93.trans ((congrArg Prod.fst eJ11).trans rfl)), rfl, rfl⟩
          · have hb94 : i7 < 4 := mlt2 (by first | rfl | decide) (by decide) (by omega) c66
            refine r_aload_n hX dX4_moveDate_76 rfl rfl ?_
            refine r_iload_n hX dX4_moveDate_77 rfl rfl ?_
            refine r_aload_n hX dX4_moveDate_78 rfl rfl ?_
            refine r_get hX kf_X4_17 14 rfl rfl dX4_moveDate_79 ?_
            refine r_iload_n hX dX4_moveDate_82 rfl rfl ?_
            refine r_iald hX 17 0 rfl rfl (vp_in_nI (Nat.lt_of_lt_of_le hhi14 (by decide)) (by decide)) dX4_moveDate_83 ?_
            refine r_i2l hX dX4_moveDate_84 ?_
            refine r_lload hX dX4_moveDate_85 rfl ?_
            refine r_iload_n hX dX4_moveDate_87 rfl rfl ?_
            refine r_iconst (v := 2) hX dX4_moveDate_88 (by decide) ?_
            refine r_icmp_ne (tgt := 97) hX dX4_moveDate_89 (by decide) (fun c95 => ?_) (fun c95 => ?_)
            · refine r_iconst (v := 1) hX dX4_moveDate_97 (by decide) ?_
              refine r_i2l hX dX4_moveDate_98 ?_
              refine r_lmul hX dX4_moveDate_99 ?_
              refine r_ladd hX dX4_moveDate_100 ?_
              refine r_aload_n hX dX4_moveDate_101 rfl rfl ?_
              refine r_get hX kf_X4_20 14 rfl rfl dX4_moveDate_102 ?_
              refine r_iload_n hX dX4_moveDate_105 rfl rfl ?_
              refine r_iald hX 18 0 rfl rfl (vp_in_nI (Nat.lt_of_lt_of_le hhi14 (by decide)) (by decide)) dX4_moveDate_106 ?_
              refine r_i2l hX dX4_moveDate_107 ?_
              refine r_aload_n hX dX4_moveDate_108 rfl rfl ?_
              refine r_get hX kf_X4_23 14 rfl rfl dX4_moveDate_109 ?_
              refine r_iload_n hX dX4_moveDate_112 rfl rfl ?_
              refine r_iald hX 19 0 rfl rfl (vp_in_nI (Nat.lt_of_lt_of_le hhi14 (by decide)) (by decide)) dX4_moveDate_113 ?_
              refine r_aload_n hX dX4_moveDate_114 rfl rfl ?_
              refine r_get hX kf_X4_26 14 rfl rfl dX4_moveDate_115 ?_
              refine r_iload_n hX dX4_moveDate_118 rfl rfl ?_
              refine r_iald hX 20 0 rfl rfl (vp_in_nI (Nat.lt_of_lt_of_le hhi14 (by decide)) (by decide)) dX4_moveDate_119 ?_
              refine r_callV hX (c_X4_put_ _ _ _ _ J11 _ (mWF2 eJ11 hJ) i14 hhi14 _ _ _ _) kv_X4_167 14 rfl rfl rfl rfl (Nat.le_of_ble_eq_true rfl) ⟨(Nat.le_of_ble_eq_true rfl), (Nat.le_of_ble_eq_true rfl)⟩ ⟨(Nat.le_of_ble_eq_true rfl), (Nat.le_of_ble_eq_true rfl)⟩ dX4_moveDate_120 (fun _ _ z => False.elim z) (fun v9 ws9 h96 => ?_)
              obtain ⟨r98, J99, hJ99, oJ99, rfl, hw9⟩ := h96
              subst ws9
              dsimp only [mPush]
              exact r_iret hX hE dX4_moveDate_123 (Nat.le_of_ble_eq_true rfl) (Nat.le_of_ble_eq_true rfl) ⟨_, J99, hJ99, (oJ99.trans ((congrArg Prod.fst eJ11).trans rfl)), rfl, rfl⟩
            · refine r_bipush (v := 7) hX dX4_moveDate_92 (by decide) ?_
              refine r_goto (tgt := 98) hX dX4_moveDate_94 (by decide) ?_
              refine r_i2l hX dX4_moveDate_98 ?_
              refine r_lmul hX dX4_moveDate_99 ?_
              refine r_ladd hX dX4_moveDate_100 ?_
              refine r_aload_n hX dX4_moveDate_101 rfl rfl ?_
              refine r_get hX kf_X4_20 14 rfl rfl dX4_moveDate_102 ?_
              refine r_iload_n hX dX4_moveDate_105 rfl rfl ?_
              refine r_iald hX 18 0 rfl rfl (vp_in_nI (Nat.lt_of_lt_of_le hhi14 (by decide)) (by decide)) dX4_moveDate_106 ?_
              refine r_i2l hX dX4_moveDate_107 ?_
              refine r_aload_n hX dX4_moveDate_108 rfl rfl ?_
              refine r_get hX kf_X4_23 14 rfl rfl dX4_moveDate_109 ?_
              refine r_iload_n hX dX4_moveDate_112 rfl rfl ?_
              refine r_iald hX 19 0 rfl rfl (vp_in_nI (Nat.lt_of_lt_of_le hhi14 (by decide)) (by decide)) dX4_moveDate_113 ?_
              refine r_aload_n hX dX4_moveDate_114 rfl rfl ?_
              refine r_get hX kf_X4_26 14 rfl rfl dX4_moveDate_115 ?_
              refine r_iload_n hX dX4_moveDate_118 rfl rfl ?_
              refine r_iald hX 20 0 rfl rfl (vp_in_nI (Nat.lt_of_lt_of_le hhi14 (by decide)) (by decide)) dX4_moveDate_119 ?_
              refine r_callV hX (c_X4_put_ _ _ _ _ J11 _ (mWF2 eJ11 hJ) i14 hhi14 _ _ _ _) kv_X4_167 14 rfl rfl rfl rfl (Nat.le_of_ble_eq_true rfl) ⟨(Nat.le_of_ble_eq_true rfl), (Nat.le_of_ble_eq_true rfl)⟩ ⟨(Nat.le_of_ble_eq_true rfl), (Nat.le_of_ble_eq_true rfl)⟩ dX4_moveDate_120 (fun _ _ z => False.elim z) (fun v9 ws9 h100 => ?_)
              obtain ⟨r102, J103, hJ103, oJ103, rfl, hw9⟩ := h100
              subst ws9
              dsimp only [mPush]
              exact r_iret hX hE dX4_moveDate_123 (Nat.le_of_ble_eq_true rfl) (Nat.le_of_ble_eq_true rfl) ⟨_, J103, hJ103, (oJ103.trans ((congrArg Prod.fst eJ11).trans rfl)), rfl, rfl⟩
        · have hb104 : i7 < 2 := mlt2 (by first | rfl | decide) (by decide) (by omega) c65
          refine r_aload_n hX dX4_moveDate_50 rfl rfl ?_
          refine r_iload_n hX dX4_moveDate_51 rfl rfl ?_
          refine r_iload_n hX dX4_moveDate_52 rfl rfl ?_
          refine r_if_ne (tgt := 65) hX dX4_moveDate_53 (by decide) (fun c105 => ?_) (fun c105 => ?_)
          · refine r_lload hX dX4_moveDate_65 rfl ?_
            refine r_callV hX (c_X4_moveMonths _ _ _ _ J11 _ (mWF2 eJ11 hJ) i14 hhi14 _ (by first | exact mb1 _ | exact mb2 _ | exact mb3 _ | exact mb4 _)) kv_X4_185 14 rfl rfl rfl rfl (Nat.le_of_ble_eq_true rfl) ⟨(Nat.le_of_ble_eq_true rfl), (Nat.le_of_ble_eq_true rfl)⟩ ⟨(Nat.le_of_ble_eq_true rfl), (Nat.le_of_ble_eq_true rfl)⟩ dX4_moveDate_67 (fun _ _ z => False.elim z) (fun v9 ws9 h106 => ?_)
            obtain ⟨r108, J109, hJ109, oJ109, rfl, hw9⟩ := h106
            subst ws9
            dsimp only [mPush]
            exact r_iret hX hE dX4_moveDate_70 (Nat.le_of_ble_eq_true rfl) (Nat.le_of_ble_eq_true rfl) ⟨_, J109, hJ109, (oJ109.trans ((congrArg Prod.fst eJ11).trans rfl)), rfl, rfl⟩
          · refine r_ldc2 hX kc_X4_151 dX4_moveDate_56 ?_
            refine r_lload hX dX4_moveDate_59 rfl ?_
            refine r_lmul hX dX4_moveDate_61 ?_
            refine r_goto (tgt := 67) hX dX4_moveDate_62 (by decide) ?_
            refine r_callV hX (c_X4_moveMonths _ _ _ _ J11 _ (mWF2 eJ11 hJ) i14 hhi14 _ (by first | exact mb1 _ | exact mb2 _ | exact mb3 _ | exact mb4 _)) kv_X4_185 14 rfl rfl rfl rfl (Nat.le_of_ble_eq_true rfl) ⟨(Nat.le_of_ble_eq_true rfl), (Nat.le_of_ble_eq_true rfl)⟩ ⟨(Nat.le_of_ble_eq_true rfl), (Nat.le_of_ble_eq_true rfl)⟩ dX4_moveDate_67 (fun _ _ z => False.elim z) (fun v9 ws9 h110 => ?_)
            obtain ⟨r112, J113, hJ113, oJ113, rfl, hw9⟩ := h110
            subst ws9
            dsimp only [mPush]
            exact r_iret hX hE dX4_moveDate_70 (Nat.le_of_ble_eq_true rfl) (Nat.le_of_ble_eq_true rfl) ⟨_, J113, hJ113, (oJ113.trans ((congrArg Prod.fst eJ11).trans rfl)), rfl, rfl⟩
    · refine r_iconst (v := 0) hX dX4_moveDate_28 (by decide) ?_
      exact r_iret hX hE dX4_moveDate_29 (Nat.le_of_ble_eq_true rfl) (Nat.le_of_ble_eq_true rfl) ⟨_, J11, (mWF2 eJ11 hJ), ((congrArg Prod.fst eJ11).trans rfl), rfl, rfl⟩
  · refine r_iconst (v := 1) hX dX4_moveDate_17 (by decide) ?_
    refine r_goto (tgt := 22) hX dX4_moveDate_18 (by decide) ?_
    refine r_callV hX (c_X4_isStopped _ _ _ _ _ _ _ _) kv_X4_68 14 rfl rfl rfl rfl (Nat.le_of_ble_eq_true rfl) ⟨(Nat.le_of_ble_eq_true rfl), (Nat.le_of_ble_eq_true rfl)⟩ ⟨(Nat.le_of_ble_eq_true rfl), (Nat.le_of_ble_eq_true rfl)⟩ dX4_moveDate_22 (fun _ _ z => False.elim z) (fun v9 ws9 h114 => ?_)
    obtain ⟨r116, J117, nr116, etJ117, erJ117, eJ117, rfl, hw9⟩ := h114
    subst ws9
    dsimp only [mPush]
    refine r_if_eq (tgt := 30) hX dX4_moveDate_25 (by decide) (fun c118 => ?_) (fun c118 => ?_)
    · have hs119 := mnone0 nr116 (by first | exact c118 | exact Classical.not_not.mp c118)
      exact absurd hs119.2 (by decide)
    · refine r_iconst (v := 0) hX dX4_moveDate_28 (by decide) ?_
      exact r_iret hX hE dX4_moveDate_29 (Nat.le_of_ble_eq_true rfl) (Nat.le_of_ble_eq_true rfl) ⟨_, J117, (mWF2 eJ117 hJ), ((congrArg Prod.fst eJ117).trans rfl), rfl, rfl⟩
theorem dX4_anew_0 : decode cX4_anew 0 = .ok (.aload_n 0, 1) := by decide +kernel
theorem dX4_anew_1 : decode cX4_anew 1 = .ok (.iload_n 1, 1) := by decide +kernel
theorem dX4_anew_2 : decode cX4_anew 2 = .ok (.invokestatic 61, 3) := by decide +kernel
theorem dX4_anew_5 : decode cX4_anew 5 = .ok (.ifCond .ne 10, 3) := by decide +kernel
theorem dX4_anew_8 : decode cX4_anew 8 = .ok (.iload_n 2, 1) := by decide +kernel
theorem dX4_anew_9 : decode cX4_anew 9 = .ok (.invokestatic 61, 3) := by decide +kernel
theorem dX4_anew_12 : decode cX4_anew 12 = .ok (.ifCond .eq 7, 3) := by decide +kernel
theorem dX4_anew_15 : decode cX4_anew 15 = .ok (.iconst 1, 1) := by decide +kernel
theorem dX4_anew_16 : decode cX4_anew 16 = .ok (.goto 4, 3) := by decide +kernel
theorem dX4_anew_19 : decode cX4_anew 19 = .ok (.iconst 0, 1) := by decide +kernel
theorem dX4_anew_20 : decode cX4_anew 20 = .ok (.iconst 0, 1) := by decide +kernel
theorem dX4_anew_21 : decode cX4_anew 21 = .ok (.invokevirtual 68, 3) := by decide +kernel
theorem dX4_anew_24 : decode cX4_anew 24 = .ok (.ifCond .eq 5, 3) := by decide +kernel
theorem dX4_anew_27 : decode cX4_anew 27 = .ok (.iconst 0, 1) := by decide +kernel
theorem dX4_anew_28 : decode cX4_anew 28 = .ok (.ireturn, 1) := by decide +kernel
theorem dX4_anew_29 : decode cX4_anew 29 = .ok (.iload_n 3, 1) := by decide +kernel
theorem dX4_anew_30 : decode cX4_anew 30 = .ok (.ifCond .eq 7, 3) := by decide +kernel
theorem dX4_anew_33 : decode cX4_anew 33 = .ok (.iconst 0, 1) := by decide +kernel
theorem dX4_anew_34 : decode cX4_anew 34 = .ok (.goto 16, 3) := by decide +kernel
theorem dX4_anew_37 : decode cX4_anew 37 = .ok (.aload_n 0, 1) := by decide +kernel
theorem dX4_anew_38 : decode cX4_anew 38 = .ok (.getfield 7, 3) := by decide +kernel
theorem dX4_anew_41 : decode cX4_anew 41 = .ok (.iload_n 2, 1) := by decide +kernel
theorem dX4_anew_42 : decode cX4_anew 42 = .ok (.iaload, 1) := by decide +kernel
theorem dX4_anew_43 : decode cX4_anew 43 = .ok (.aload_n 0, 1) := by decide +kernel
theorem dX4_anew_44 : decode cX4_anew 44 = .ok (.getfield 26, 3) := by decide +kernel
theorem dX4_anew_47 : decode cX4_anew 47 = .ok (.iload_n 1, 1) := by decide +kernel
theorem dX4_anew_48 : decode cX4_anew 48 = .ok (.iaload, 1) := by decide +kernel
theorem dX4_anew_49 : decode cX4_anew 49 = .ok (.isub, 1) := by decide +kernel
theorem dX4_anew_50 : decode cX4_anew 50 = .ok (.istore 4, 2) := by decide +kernel
theorem dX4_anew_52 : decode cX4_anew 52 = .ok (.aload_n 0, 1) := by decide +kernel
theorem dX4_anew_53 : decode cX4_anew 53 = .ok (.iload_n 1, 1) := by decide +kernel
theorem dX4_anew_54 : decode cX4_anew 54 = .ok (.aload_n 0, 1) := by decide +kernel
theorem dX4_anew_55 : decode cX4_anew 55 = .ok (.getfield 17, 3) := by decide +kernel
theorem dX4_anew_58 : decode cX4_anew 58 = .ok (.iload_n 1, 1) := by decide +kernel
theorem dX4_anew_59 : decode cX4_anew 59 = .ok (.iaload, 1) := by decide +kernel
theorem dX4_anew_60 : decode cX4_anew 60 = .ok (.i2l, 1) := by decide +kernel
theorem dX4_anew_61 : decode cX4_anew 61 = .ok (.aload_n 0, 1) := by decide +kernel
theorem dX4_anew_62 : decode cX4_anew 62 = .ok (.getfield 20, 3) := by decide +kernel
theorem dX4_anew_65 : decode cX4_anew 65 = .ok (.iload_n 1, 1) := by decide +kernel
theorem dX4_anew_66 : decode cX4_anew 66 = .ok (.iaload, 1) := by decide +kernel
theorem dX4_anew_67 : decode cX4_anew 67 = .ok (.i2l, 1) := by decide +kernel
theorem dX4_anew_68 : decode cX4_anew 68 = .ok (.iload 4, 2) := by decide +kernel
theorem dX4_anew_70 : decode cX4_anew 70 = .ok (.i2l, 1) := by decide +kernel
theorem dX4_anew_71 : decode cX4_anew 71 = .ok (.ladd, 1) := by decide +kernel
theorem dX4_anew_72 : decode cX4_anew 72 = .ok (.aload_n 0, 1) := by decide +kernel
theorem dX4_anew_73 : decode cX4_anew 73 = .ok (.getfield 23, 3) := by decide +kernel
theorem dX4_anew_76 : decode cX4_anew 76 = .ok (.iload_n 1, 1) := by decide +kernel
theorem dX4_anew_77 : decode cX4_anew 77 = .ok (.iaload, 1) := by decide +kernel
theorem dX4_anew_78 : decode cX4_anew 78 = .ok (.aload_n 0, 1) := by decide +kernel
theorem dX4_anew_79 : decode cX4_anew 79 = .ok (.getfield 7, 3) := by decide +kernel
theorem dX4_anew_82 : decode cX4_anew 82 = .ok (.iload_n 2, 1) := by decide +kernel
theorem dX4_anew_83 : decode cX4_anew 83 = .ok (.iaload, 1) := by decide +kernel
theorem dX4_anew_84 : decode cX4_anew 84 = .ok (.invokevirtual 167, 3) := by decide +kernel
theorem dX4_anew_87 : decode cX4_anew 87 = .ok (.ireturn, 1) := by decide +kernel
set_option maxHeartbeats 4000000 in
set_option maxRecDepth 20000 in
theorem c_X4_anew (ad ae : Nat → Nat) (cs : ClassId × ClassId × ClassId) (K : mK) (J : mJ) (rest : va_W) (hJ : mWF J) (p0 : Int32) (p1 : Int32) (p2 : Int32) : mCt (mTy cs) yX4_anew cX4_anew 5 (some .int) ⟨5, 0, 0, 120⟩ [.ref (ae 0), .int p0, .int p1, .int p2] (mRw ad ae cs K J rest) (mZi ad ae cs K J rest) mNo := by
  refine mCt.of (by decide +kernel) (Nat.le_of_ble_eq_true rfl) (fun X hX hE => ?_)
  have hX : mOK X RX4 cX4_anew 5 ⟨5, 0, 0, 120⟩ [] (mTy cs) := hX
  refine r_aload_n hX dX4_anew_0 rfl rfl ?_
  refine r_iload_n hX dX4_anew_1 rfl rfl ?_
  refine r_callS hX (c_X4_isNone _ _ _) ks_X4_61 rfl rfl (Nat.le_of_ble_eq_true rfl) ⟨(Nat.le_of_ble_eq_true rfl), (Nat.le_of_ble_eq_true rfl)⟩ ⟨(Nat.le_of_ble_eq_true rfl), (Nat.le_of_ble_eq_true rfl)⟩ dX4_anew_2 (fun _ _ z => False.elim z) (fun v9 ws9 h1 => ?_)
  obtain ⟨r3, nr3, rfl, hw9⟩ := h1
  subst ws9
  dsimp only [mPush]
  refine r_if_ne (tgt := 15) hX dX4_anew_5 (by decide) (fun c4 => ?_) (fun c4 => ?_)
  · refine r_iconst (v := 1) hX dX4_anew_15 (by decide) ?_
    refine r_goto (tgt := 20) hX dX4_anew_16 (by decide) ?_
    refine r_iconst (v := 0) hX dX4_anew_20 (by decide) ?_
    refine r_callV hX (c_X4_isStopped _ _ _ _ _ _ _ _) kv_X4_68 14 rfl rfl rfl rfl (Nat.le_of_ble_eq_true rfl) ⟨(Nat.le_of_ble_eq_true rfl), (Nat.le_of_ble_eq_true rfl)⟩ ⟨(Nat.le_of_ble_eq_true rfl), (Nat.le_of_ble_eq_true rfl)⟩ dX4_anew_21 (fun _ _ z => False.elim z) (fun v9 ws9 h5 => ?_)
    obtain ⟨r7, J8, nr7, etJ8, erJ8, eJ8, rfl, hw9⟩ := h5
    subst ws9
    dsimp only [mPush]
    refine r_if_eq (tgt := 29) hX dX4_anew_24 (by decide) (fun c9 => ?_) (fun c9 => ?_)
    · have hs10 := mnone0 nr7 (by first | exact c9 | exact Classical.not_not.mp c9)
      exact absurd hs10.1 (by decide)
    · refine r_iconst (v := 0) hX dX4_anew_27 (by decide) ?_
      exact r_iret hX hE dX4_anew_28 (Nat.le_of_ble_eq_true rfl) (Nat.le_of_ble_eq_true rfl) ⟨_, J8, (mWF2 eJ8 hJ), ((congrArg Prod.fst eJ8).trans rfl), rfl, rfl⟩
  · obtain ⟨i11, hhi11, rfl⟩ := mnone0 nr3 (by first | exact c4 | exact Classical.not_not.mp c4)
    refine r_iload_n hX dX4_anew_8 rfl rfl ?_
    refine r_callS hX (c_X4_isNone _ _ _) ks_X4_61 rfl rfl (Nat.le_of_ble_eq_true rfl) ⟨(Nat.le_of_ble_eq_true rfl), (Nat.le_of_ble_eq_true rfl)⟩ ⟨(Nat.le_of_ble_eq_true rfl), (Nat.le_of_ble_eq_true rfl)⟩ dX4_anew_9 (fun _ _ z => False.elim z) (fun v9 ws9 h12 => ?_)
    obtain ⟨r14, nr14, rfl, hw9⟩ := h12
    subst ws9
    dsimp only [mPush]
    refine r_if_eq (tgt := 19) hX dX4_anew_12 (by decide) (fun c15 => ?_) (fun c15 => ?_)
    · obtain ⟨i16, hhi16, rfl⟩ := mnone0 nr14 (by first | exact c15 | exact Classical.not_not.mp c15)
      refine r_iconst (v := 0) hX dX4_anew_19 (by decide) ?_
      refine r_iconst (v := 0) hX dX4_anew_20 (by decide) ?_
      refine r_callV hX (c_X4_isStopped _ _ _ _ _ _ _ _) kv_X4_68 14 rfl rfl rfl rfl (Nat.le_of_ble_eq_true rfl) ⟨(Nat.le_of_ble_eq_true rfl), (Nat.le_of_ble_eq_true rfl)⟩ ⟨(Nat.le_of_ble_eq_true rfl), (Nat.le_of_ble_eq_true rfl)⟩ dX4_anew_21 (fun _ _ z => False.elim z) (fun v9 ws9 h17 => ?_)
      obtain ⟨r19, J20, nr19, etJ20, erJ20, eJ20, rfl, hw9⟩ := h17
      subst ws9
      dsimp only [mPush]
      refine r_if_eq (tgt := 29) hX dX4_anew_24 (by decide) (fun c21 => ?_) (fun c21 => ?_)
      · have hs22 := mnone0 nr19 (by first | exact c21 | exact Classical.not_not.mp c21)
        refine r_iload_n hX dX4_anew_29 rfl rfl ?_
        refine r_if_eq (tgt := 37) hX dX4_anew_30 (by decide) (fun c23 => ?_) (fun c23 => ?_)
        · refine r_aload_n hX dX4_anew_37 rfl rfl ?_
          refine r_get hX kf_X4_7 14 rfl rfl dX4_anew_38 ?_
          refine r_iload_n hX dX4_anew_41 rfl rfl ?_
          refine r_iald hX 15 0 rfl rfl (vp_in_nI hhi16 (by decide)) dX4_anew_42 ?_
          refine r_aload_n hX dX4_anew_43 rfl rfl ?_
          refine r_get hX kf_X4_26 14 rfl rfl dX4_anew_44 ?_
          refine r_iload_n hX dX4_anew_47 rfl rfl ?_
          refine r_iald hX 20 0 rfl rfl (vp_in_nI (Nat.lt_of_lt_of_le hhi11 (by decide)) (by decide)) dX4_anew_48 ?_
          refine r_isub hX dX4_anew_49 ?_
          refine r_istore hX dX4_anew_50 (by decide) rfl ?_
          refine r_aload_n hX dX4_anew_52 rfl rfl ?_
          refine r_iload_n hX dX4_anew_53 rfl rfl ?_
          refine r_aload_n hX dX4_anew_54 rfl rfl ?_
          refine r_get hX kf_X4_17 14 rfl rfl dX4_anew_55 ?_
          refine r_iload_n hX dX4_anew_58 rfl rfl ?_
          refine r_iald hX 17 0 rfl rfl (vp_in_nI (Nat.lt_of_lt_of_le hhi11 (by decide)) (by decide)) dX4_anew_59 ?_
          refine r_i2l hX dX4_anew_60 ?_
          refine r_aload_n hX dX4_anew_61 rfl rfl ?_
          refine r_get hX kf_X4_20 14 rfl rfl dX4_anew_62 ?_
          refine r_iload_n hX dX4_anew_65 rfl rfl ?_
          refine r_iald hX 18 0 rfl rfl (vp_in_nI (Nat.lt_of_lt_of_le hhi11 (by decide)) (by decide)) dX4_anew_66 ?_
          refine r_i2l hX dX4_anew_67 ?_
          refine r_iload hX dX4_anew_68 rfl ?_
          refine r_i2l hX dX4_anew_70 ?_
          refine r_ladd hX dX4_anew_71 ?_
          refine r_aload_n hX dX4_anew_72 rfl rfl ?_
          refine r_get hX kf_X4_23 14 rfl rfl dX4_anew_73 ?_
          refine r_iload_n hX dX4_anew_76 rfl rfl ?_
          refine r_iald hX 19 0 rfl rfl (vp_in_nI (Nat.lt_of_lt_of_le hhi11 (by decide)) (by decide)) dX4_anew_77 ?_
          refine r_aload_n hX dX4_anew_78 rfl rfl ?_
          refine r_get hX kf_X4_7 14 rfl rfl dX4_anew_79 ?_
          refine r_iload_n hX dX4_anew_82 rfl rfl ?_
          refine r_iald hX 15 0 rfl rfl (vp_in_nI hhi16 (by decide)) dX4_anew_83 ?_
          refine r_callV hX (c_X4_put_ _ _ _ _ J20 _ (mWF2 eJ20 hJ) i11 hhi11 _ _ _ _) kv_X4_167 14 rfl rfl rfl rfl (Nat.le_of_ble_eq_true rfl) ⟨(Nat.le_of_ble_eq_true rfl), (Nat.le_of_ble_eq_true rfl)⟩ ⟨(Nat.le_of_ble_eq_true rfl), (Nat.le_of_ble_eq_true rfl)⟩ dX4_anew_84 (fun _ _ z => False.elim z) (fun v9 ws9 h24 => ?_)
          obtain ⟨r26, J27, hJ27, oJ27, rfl, hw9⟩ := h24
          subst ws9
          dsimp only [mPush]
          exact r_iret hX hE dX4_anew_87 (Nat.le_of_ble_eq_true rfl) (Nat.le_of_ble_eq_true rfl) ⟨_, J27, hJ27, (oJ27.trans ((congrArg Prod.fst eJ20).trans rfl)), rfl, rfl⟩
        · refine r_iconst (v := 0) hX dX4_anew_33 (by decide) ?_
          refine r_goto (tgt := 50) hX dX4_anew_34 (by decide) ?_
          refine r_istore hX dX4_anew_50 (by decide) rfl ?_
          refine r_aload_n hX dX4_anew_52 rfl rfl ?_
          refine r_iload_n hX dX4_anew_53 rfl rfl ?_
          refine r_aload_n hX dX4_anew_54 rfl rfl ?_
          refine r_get hX kf_X4_17 14 rfl rfl dX4_anew_55 ?_
          refine r_iload_n hX dX4_anew_58 rfl rfl ?_
          refine r_iald hX 17 0 rfl rfl (vp_in_nI (Nat.lt_of_lt_of_le hhi11 (by decide)) (by decide)) dX4_anew_59 ?_
          refine r_i2l hX dX4_anew_60 ?_
          refine r_aload_n hX dX4_anew_61 rfl rfl ?_
          refine r_get hX kf_X4_20 14 rfl rfl dX4_anew_62 ?_
          refine r_iload_n hX dX4_anew_65 rfl rfl ?_
          refine r_iald hX 18 0 rfl rfl (vp_in_nI (Nat.lt_of_lt_of_le hhi11 (by decide)) (by decide)) dX4_anew_66 ?_
          refine r_i2l hX dX4_anew_67 ?_
          refine r_iload hX dX4_anew_68 rfl ?_
          refine r_i2l hX dX4_anew_70 ?_
          refine r_ladd hX dX4_anew_71 ?_
          refine r_aload_n hX dX4_anew_72 rfl rfl ?_
          refine r_get hX kf_X4_23 14 rfl rfl dX4_anew_73 ?_
          refine r_iload_n hX dX4_anew_76 rfl rfl ?_
          refine r_iald hX 19 0 rfl rfl (vp_in_nI (Nat.lt_of_lt_of_le hhi11 (by decide)) (by decide)) dX4_anew_77 ?_
          refine r_aload_n hX dX4_anew_78 rfl rfl ?_
          refine r_get hX kf_X4_7 14 rfl rfl dX4_anew_79 ?_
          refine r_iload_n hX dX4_anew_82 rfl rfl ?_
          refine r_iald hX 15 0 rfl rfl (vp_in_nI hhi16 (by decide)) dX4_anew_83 ?_
          refine r_callV hX (c_X4_put_ _ _ _ _ J20 _ (mWF2 eJ20 hJ) i11 hhi11 _ _ _ _) kv_X4_167 14 rfl rfl rfl rfl (Nat.le_of_ble_eq_true rfl) ⟨(Nat.le_of_ble_eq_true rfl), (Nat.le_of_ble_eq_true rfl)⟩ ⟨(Nat.le_of_ble_eq_true rfl), (Nat.le_of_ble_eq_true rfl)⟩ dX4_anew_84 (fun _ _ z => False.elim z) (fun v9 ws9 h28 => ?_)
          obtain ⟨r30, J31, hJ31, oJ31, rfl, hw9⟩ := h28
          subst ws9
          dsimp only [mPush]
          exact r_iret hX hE dX4_anew_87 (Nat.le_of_ble_eq_true rfl) (Nat.le_of_ble_eq_true rfl) ⟨_, J31, hJ31, (oJ31.trans ((congrArg Prod.fst eJ20).trans rfl)), rfl, rfl⟩
      · refine r_iconst (v := 0) hX dX4_anew_27 (by decide) ?_
        exact r_iret hX hE dX4_anew_28 (Nat.le_of_ble_eq_true rfl) (Nat.le_of_ble_eq_true rfl) ⟨_, J20, (mWF2 eJ20 hJ), ((congrArg Prod.fst eJ20).trans rfl), rfl, rfl⟩
    · refine r_iconst (v := 1) hX dX4_anew_15 (by decide) ?_
      refine r_goto (tgt := 20) hX dX4_anew_16 (by decide) ?_
      refine r_iconst (v := 0) hX dX4_anew_20 (by decide) ?_
      refine r_callV hX (c_X4_isStopped _ _ _ _ _ _ _ _) kv_X4_68 14 rfl rfl rfl rfl (Nat.le_of_ble_eq_true rfl) ⟨(Nat.le_of_ble_eq_true rfl), (Nat.le_of_ble_eq_true rfl)⟩ ⟨(Nat.le_of_ble_eq_true rfl), (Nat.le_of_ble_eq_true rfl)⟩ dX4_anew_21 (fun _ _ z => False.elim z) (fun v9 ws9 h32 => ?_)
      obtain ⟨r34, J35, nr34, etJ35, erJ35, eJ35, rfl, hw9⟩ := h32
      subst ws9
      dsimp only [mPush]
      refine r_if_eq (tgt := 29) hX dX4_anew_24 (by decide) (fun c36 => ?_) (fun c36 => ?_)
      · have hs37 := mnone0 nr34 (by first | exact c36 | exact Classical.not_not.mp c36)
        exact absurd hs37.1 (by decide)
      · refine r_iconst (v := 0) hX dX4_anew_27 (by decide) ?_
        exact r_iret hX hE dX4_anew_28 (Nat.le_of_ble_eq_true rfl) (Nat.le_of_ble_eq_true rfl) ⟨_, J35, (mWF2 eJ35 hJ), ((congrArg Prod.fst eJ35).trans rfl), rfl, rfl⟩
theorem dX4_copy_0 : decode cX4_copy 0 = .ok (.aload_n 0, 1) := by decide +kernel
theorem dX4_copy_1 : decode cX4_copy 1 = .ok (.iload_n 1, 1) := by decide +kernel
theorem dX4_copy_2 : decode cX4_copy 2 = .ok (.invokestatic 61, 3) := by decide +kernel
theorem dX4_copy_5 : decode cX4_copy 5 = .ok (.ifCond .ne 10, 3) := by decide +kernel
theorem dX4_copy_8 : decode cX4_copy 8 = .ok (.iload_n 2, 1) := by decide +kernel
theorem dX4_copy_9 : decode cX4_copy 9 = .ok (.invokestatic 61, 3) := by decide +kernel
theorem dX4_copy_12 : decode cX4_copy 12 = .ok (.ifCond .eq 7, 3) := by decide +kernel
theorem dX4_copy_15 : decode cX4_copy 15 = .ok (.iconst 1, 1) := by decide +kernel
theorem dX4_copy_16 : decode cX4_copy 16 = .ok (.goto 4, 3) := by decide +kernel
theorem dX4_copy_19 : decode cX4_copy 19 = .ok (.iconst 0, 1) := by decide +kernel
theorem dX4_copy_20 : decode cX4_copy 20 = .ok (.iconst 0, 1) := by decide +kernel
theorem dX4_copy_21 : decode cX4_copy 21 = .ok (.invokevirtual 68, 3) := by decide +kernel
theorem dX4_copy_24 : decode cX4_copy 24 = .ok (.ifCond .eq 7, 3) := by decide +kernel
theorem dX4_copy_27 : decode cX4_copy 27 = .ok (.iconst 0, 1) := by decide +kernel
theorem dX4_copy_28 : decode cX4_copy 28 = .ok (.goto 32, 3) := by decide +kernel
theorem dX4_copy_31 : decode cX4_copy 31 = .ok (.aload_n 0, 1) := by decide +kernel
theorem dX4_copy_32 : decode cX4_copy 32 = .ok (.iload_n 1, 1) := by decide +kernel
theorem dX4_copy_33 : decode cX4_copy 33 = .ok (.aload_n 0, 1) := by decide +kernel
theorem dX4_copy_34 : decode cX4_copy 34 = .ok (.getfield 17, 3) := by decide +kernel
theorem dX4_copy_37 : decode cX4_copy 37 = .ok (.iload_n 2, 1) := by decide +kernel
theorem dX4_copy_38 : decode cX4_copy 38 = .ok (.iaload, 1) := by decide +kernel
theorem dX4_copy_39 : decode cX4_copy 39 = .ok (.aload_n 0, 1) := by decide +kernel
theorem dX4_copy_40 : decode cX4_copy 40 = .ok (.getfield 20, 3) := by decide +kernel
theorem dX4_copy_43 : decode cX4_copy 43 = .ok (.iload_n 2, 1) := by decide +kernel
theorem dX4_copy_44 : decode cX4_copy 44 = .ok (.iaload, 1) := by decide +kernel
theorem dX4_copy_45 : decode cX4_copy 45 = .ok (.aload_n 0, 1) := by decide +kernel
theorem dX4_copy_46 : decode cX4_copy 46 = .ok (.getfield 23, 3) := by decide +kernel
theorem dX4_copy_49 : decode cX4_copy 49 = .ok (.iload_n 2, 1) := by decide +kernel
theorem dX4_copy_50 : decode cX4_copy 50 = .ok (.iaload, 1) := by decide +kernel
theorem dX4_copy_51 : decode cX4_copy 51 = .ok (.aload_n 0, 1) := by decide +kernel
theorem dX4_copy_52 : decode cX4_copy 52 = .ok (.getfield 26, 3) := by decide +kernel
theorem dX4_copy_55 : decode cX4_copy 55 = .ok (.iload_n 2, 1) := by decide +kernel
theorem dX4_copy_56 : decode cX4_copy 56 = .ok (.iaload, 1) := by decide +kernel
theorem dX4_copy_57 : decode cX4_copy 57 = .ok (.invokevirtual 139, 3) := by decide +kernel
theorem dX4_copy_60 : decode cX4_copy 60 = .ok (.ireturn, 1) := by decide +kernel
set_option maxHeartbeats 4000000 in
set_option maxRecDepth 20000 in
theorem c_X4_copy (ad ae : Nat → Nat) (cs : ClassId × ClassId × ClassId) (K : mK) (J : mJ) (rest : va_W) (hJ : mWF J) (p0 : Int32) (p1 : Int32) : mCt (mTy cs) yX4_copy cX4_copy 3 (some .int) ⟨2, 0, 0, 45⟩ [.ref (ae 0), .int p0, .int p1] (mRw ad ae cs K J rest) (mZi ad ae cs K J rest) mNo := by
  refine mCt.of (by decide +kernel) (Nat.le_of_ble_eq_true rfl) (fun X hX hE => ?_)
  have hX : mOK X RX4 cX4_copy 3 ⟨2, 0, 0, 45⟩ [] (mTy cs) := hX
  refine r_aload_n hX dX4_copy_0 rfl rfl ?_
  refine r_iload_n hX dX4_copy_1 rfl rfl ?_
  refine r_callS hX (c_X4_isNone _ _ _) ks_X4_61 rfl rfl (Nat.le_of_ble_eq_true rfl) ⟨(Nat.le_of_ble_eq_true rfl), (Nat.le_of_ble_eq_true rfl)⟩ ⟨(Nat.le_of_ble_eq_true rfl), (Nat.le_of_ble_eq_true rfl)⟩ dX4_copy_2 (fun _ _ z => False.elim z) (fun v9 ws9 h1 => ?_)
  obtain ⟨r3, nr3, rfl, hw9⟩ := h1
  subst ws9
  dsimp only [mPush]
  refine r_if_ne (tgt := 15) hX dX4_copy_5 (by decide) (fun c4 => ?_) (fun c4 => ?_)
  · refine r_iconst (v := 1) hX dX4_copy_15 (by decide) ?_
    refine r_goto (tgt := 20) hX dX4_copy_16 (by decide) ?_
    refine r_iconst (v := 0) hX dX4_copy_20 (by decide) ?_
    refine r_callV hX (c_X4_isStopped _ _ _ _ _ _ _ _) kv_X4_68 14 rfl rfl rfl rfl (Nat.le_of_ble_eq_true rfl) ⟨(Nat.le_of_ble_eq_true rfl), (Nat.le_of_ble_eq_true rfl)⟩ ⟨(Nat.le_of_ble_eq_true rfl), (Nat.le_of_ble_eq_true rfl)⟩ dX4_copy_21 (fun _ _ z => False.elim z) (fun v9 ws9 h5 => ?_)
    obtain ⟨r7, J8, nr7, etJ8, erJ8, eJ8, rfl, hw9⟩ := h5
    subst ws9
    dsimp only [mPush]
    refine r_if_eq (tgt := 31) hX dX4_copy_24 (by decide) (fun c9 => ?_) (fun c9 => ?_)
    · have hs10 := mnone0 nr7 (by first | exact c9 | exact Classical.not_not.mp c9)
      exact absurd hs10.1 (by decide)
    · refine r_iconst (v := 0) hX dX4_copy_27 (by decide) ?_
      refine r_goto (tgt := 60) hX dX4_copy_28 (by decide) ?_
      exact r_iret hX hE dX4_copy_60 (Nat.le_of_ble_eq_true rfl) (Nat.le_of_ble_eq_true rfl) ⟨_, J8, (mWF2 eJ8 hJ), ((congrArg Prod.fst eJ8).trans rfl), rfl, rfl⟩
  · obtain ⟨i11, hhi11, rfl⟩ := mnone0 nr3 (by first | exact c4 | exact Classical.not_not.mp c4)
    refine r_iload_n hX dX4_copy_8 rfl rfl ?_
    refine r_callS hX (c_X4_isNone _ _ _) ks_X4_61 rfl rfl (Nat.le_of_ble_eq_true rfl) ⟨(Nat.le_of_ble_eq_true rfl), (Nat.le_of_ble_eq_true rfl)⟩ ⟨(Nat.le_of_ble_eq_true rfl), (Nat.le_of_ble_eq_true rfl)⟩ dX4_copy_9 (fun _ _ z => False.elim z) (fun v9 ws9 h12 => ?_)
    obtain ⟨r14, nr14, rfl, hw9⟩ := h12
    subst ws9
    dsimp only [mPush]
    refine r_if_eq (tgt := 19) hX dX4_copy_12 (by decide) (fun c15 => ?_) (fun c15 => ?_)
    · obtain ⟨i16, hhi16, rfl⟩ := mnone0 nr14 (by first | exact c15 | exact Classical.not_not.mp c15)
      refine r_iconst (v := 0) hX dX4_copy_19 (by decide) ?_
      refine r_iconst (v := 0) hX dX4_copy_20 (by decide) ?_
      refine r_callV hX (c_X4_isStopped _ _ _ _ _ _ _ _) kv_X4_68 14 rfl rfl rfl rfl (Nat.le_of_ble_eq_true rfl) ⟨(Nat.le_of_ble_eq_true rfl), (Nat.le_of_ble_eq_true rfl)⟩ ⟨(Nat.le_of_ble_eq_true rfl), (Nat.le_of_ble_eq_true rfl)⟩ dX4_copy_21 (fun _ _ z => False.elim z) (fun v9 ws9 h17 => ?_)
      obtain ⟨r19, J20, nr19, etJ20, erJ20, eJ20, rfl, hw9⟩ := h17
      subst ws9
      dsimp only [mPush]
      refine r_if_eq (tgt := 31) hX dX4_copy_24 (by decide) (fun c21 => ?_) (fun c21 => ?_)
      · have hs22 := mnone0 nr19 (by first | exact c21 | exact Classical.not_not.mp c21)
        refine r_aload_n hX dX4_copy_31 rfl rfl ?_
        refine r_iload_n hX dX4_copy_32 rfl rfl ?_
        refine r_aload_n hX dX4_copy_33 rfl rfl ?_
        refine r_get hX kf_X4_17 14 rfl rfl dX4_copy_34 ?_
        refine r_iload_n hX dX4_copy_37 rfl rfl ?_
        refine r_iald hX 17 0 rfl rfl (vp_in_nI (Nat.lt_of_lt_of_le hhi16 (by decide)) (by decide)) dX4_copy_38 ?_
        refine r_aload_n hX dX4_copy_39 rfl rfl ?_
        refine r_get hX kf_X4_20 14 rfl rfl dX4_copy_40 ?_
        refine r_iload_n hX dX4_copy_43 rfl rfl ?_
        refine r_iald hX 18 0 rfl rfl (vp_in_nI (Nat.lt_of_lt_of_le hhi16 (by decide)) (by decide)) dX4_copy_44 ?_
        refine r_aload_n hX dX4_copy_45 rfl rfl ?_
        refine r_get hX kf_X4_23 14 rfl rfl dX4_copy_46 ?_
        refine r_iload_n hX dX4_copy_49 rfl rfl ?_
        refine r_iald hX 19 0 rfl rfl (vp_in_nI (Nat.lt_of_lt_of_le hhi16 (by decide)) (by decide)) dX4_copy_50 ?_
        refine r_aload_n hX dX4_copy_51 rfl rfl ?_
        refine r_get hX kf_X4_26 14 rfl rfl dX4_copy_52 ?_
        refine r_iload_n hX dX4_copy_55 rfl rfl ?_
        refine r_iald hX 20 0 rfl rfl (vp_in_nI (Nat.lt_of_lt_of_le hhi16 (by decide)) (by decide)) dX4_copy_56 ?_
        refine r_callV hX (c_X4_put _ _ _ _ J20 _ (mWF2 eJ20 hJ) i11 (Nat.lt_of_lt_of_le hhi11 (by decide)) _ _ _ _ (mday (mWF2 eJ20 hJ) (Nat.lt_of_lt_of_le hhi16 (by decide)))) kv_X4_139 14 rfl rfl rfl rfl (Nat.le_of_ble_eq_true rfl) ⟨(Nat.le_of_ble_eq_true rfl), (Nat.le_of_ble_eq_true rfl)⟩ ⟨(Nat.le_of_ble_eq_true rfl), (Nat.le_of_ble_eq_true rfl)⟩ dX4_copy_57 (fun _ _ z => False.elim z) (fun v9 ws9 h23 => ?_)
        obtain ⟨r25, J26, hJ26, oJ26, rfl, hw9⟩ := h23
        subst ws9
        dsimp only [mPush]
        exact r_iret hX hE dX4_copy_60 (Nat.le_of_ble_eq_true rfl) (Nat.le_of_ble_eq_true rfl) ⟨_, J26, hJ26, (oJ26.trans ((congrArg Prod.fst eJ20).trans rfl)), rfl, rfl⟩
      · refine r_iconst (v := 0) hX dX4_copy_27 (by decide) ?_
        refine r_goto (tgt := 60) hX dX4_copy_28 (by decide) ?_
        exact r_iret hX hE dX4_copy_60 (Nat.le_of_ble_eq_true rfl) (Nat.le_of_ble_eq_true rfl) ⟨_, J20, (mWF2 eJ20 hJ), ((congrArg Prod.fst eJ20).trans rfl), rfl, rfl⟩
    · refine r_iconst (v := 1) hX dX4_copy_15 (by decide) ?_
      refine r_goto (tgt := 20) hX dX4_copy_16 (by decide) ?_
      refine r_iconst (v := 0) hX dX4_copy_20 (by decide) ?_
      refine r_callV hX (c_X4_isStopped _ _ _ _ _ _ _ _) kv_X4_68 14 rfl rfl rfl rfl (Nat.le_of_ble_eq_true rfl) ⟨(Nat.le_of_ble_eq_true rfl), (Nat.le_of_ble_eq_true rfl)⟩ ⟨(Nat.le_of_ble_eq_true rfl), (Nat.le_of_ble_eq_true rfl)⟩ dX4_copy_21 (fun _ _ z => False.elim z) (fun v9 ws9 h27 => ?_)
      obtain ⟨r29, J30, nr29, etJ30, erJ30, eJ30, rfl, hw9⟩ := h27
      subst ws9
      dsimp only [mPush]
      refine r_if_eq (tgt := 31) hX dX4_copy_24 (by decide) (fun c31 => ?_) (fun c31 => ?_)
      · have hs32 := mnone0 nr29 (by first | exact c31 | exact Classical.not_not.mp c31)
        exact absurd hs32.1 (by decide)
      · refine r_iconst (v := 0) hX dX4_copy_27 (by decide) ?_
        refine r_goto (tgt := 60) hX dX4_copy_28 (by decide) ?_
        exact r_iret hX hE dX4_copy_60 (Nat.le_of_ble_eq_true rfl) (Nat.le_of_ble_eq_true rfl) ⟨_, J30, (mWF2 eJ30 hJ), ((congrArg Prod.fst eJ30).trans rfl), rfl, rfl⟩
theorem dX4_ofDate_0 : decode cX4_ofDate 0 = .ok (.aload_n 0, 1) := by decide +kernel
theorem dX4_ofDate_1 : decode cX4_ofDate 1 = .ok (.iload_n 1, 1) := by decide +kernel
theorem dX4_ofDate_2 : decode cX4_ofDate 2 = .ok (.invokestatic 61, 3) := by decide +kernel
theorem dX4_ofDate_5 : decode cX4_ofDate 5 = .ok (.iload_n 2, 1) := by decide +kernel
theorem dX4_ofDate_6 : decode cX4_ofDate 6 = .ok (.i2l, 1) := by decide +kernel
theorem dX4_ofDate_7 : decode cX4_ofDate 7 = .ok (.lconst 0, 1) := by decide +kernel
theorem dX4_ofDate_8 : decode cX4_ofDate 8 = .ok (.ldc2_w 151, 3) := by decide +kernel
theorem dX4_ofDate_11 : decode cX4_ofDate 11 = .ok (.invokestatic 38, 3) := by decide +kernel
theorem dX4_ofDate_14 : decode cX4_ofDate 14 = .ok (.ifCond .ne 7, 3) := by decide +kernel
theorem dX4_ofDate_17 : decode cX4_ofDate 17 = .ok (.iconst 1, 1) := by decide +kernel
theorem dX4_ofDate_18 : decode cX4_ofDate 18 = .ok (.goto 4, 3) := by decide +kernel
theorem dX4_ofDate_21 : decode cX4_ofDate 21 = .ok (.iconst 0, 1) := by decide +kernel
theorem dX4_ofDate_22 : decode cX4_ofDate 22 = .ok (.invokevirtual 68, 3) := by decide +kernel
theorem dX4_ofDate_25 : decode cX4_ofDate 25 = .ok (.ifCond .eq 7, 3) := by decide +kernel
theorem dX4_ofDate_28 : decode cX4_ofDate 28 = .ok (.iconst 0, 1) := by decide +kernel
theorem dX4_ofDate_29 : decode cX4_ofDate 29 = .ok (.goto 9, 3) := by decide +kernel
theorem dX4_ofDate_32 : decode cX4_ofDate 32 = .ok (.aload_n 0, 1) := by decide +kernel
theorem dX4_ofDate_33 : decode cX4_ofDate 33 = .ok (.iload_n 1, 1) := by decide +kernel
theorem dX4_ofDate_34 : decode cX4_ofDate 34 = .ok (.iload_n 2, 1) := by decide +kernel
theorem dX4_ofDate_35 : decode cX4_ofDate 35 = .ok (.invokevirtual 193, 3) := by decide +kernel
theorem dX4_ofDate_38 : decode cX4_ofDate 38 = .ok (.ireturn, 1) := by decide +kernel
set_option maxHeartbeats 4000000 in
set_option maxRecDepth 20000 in
theorem c_X4_ofDate (ad ae : Nat → Nat) (cs : ClassId × ClassId × ClassId) (K : mK) (J : mJ) (rest : va_W) (hJ : mWF J) (p0 : Int32) (p1 : Int32) : mCt (mTy cs) yX4_ofDate cX4_ofDate 3 (some .int) ⟨6, 1, 4, 142⟩ [.ref (ae 0), .int p0, .int p1] (mRw ad ae cs K J rest) (mZi ad ae cs K J rest) mNo := by
  refine mCt.of (by decide +kernel) (Nat.le_of_ble_eq_true rfl) (fun X hX hE => ?_)
  have hX : mOK X RX4 cX4_ofDate 3 ⟨6, 1, 4, 142⟩ [] (mTy cs) := hX
  refine r_aload_n hX dX4_ofDate_0 rfl rfl ?_
  refine r_iload_n hX dX4_ofDate_1 rfl rfl ?_
  refine r_callS hX (c_X4_isNone _ _ _) ks_X4_61 rfl rfl (Nat.le_of_ble_eq_true rfl) ⟨(Nat.le_of_ble_eq_true rfl), (Nat.le_of_ble_eq_true rfl)⟩ ⟨(Nat.le_of_ble_eq_true rfl), (Nat.le_of_ble_eq_true rfl)⟩ dX4_ofDate_2 (fun _ _ z => False.elim z) (fun v9 ws9 h1 => ?_)
  obtain ⟨r3, nr3, rfl, hw9⟩ := h1
  subst ws9
  dsimp only [mPush]
  refine r_iload_n hX dX4_ofDate_5 rfl rfl ?_
  refine r_i2l hX dX4_ofDate_6 ?_
  refine r_lconst (v := 0) hX dX4_ofDate_7 (by decide) ?_
  refine r_ldc2 hX kc_X4_151 dX4_ofDate_8 ?_
  refine r_callS hX (c_X4_isIn _ _ _ _ _) ks_X4_38 rfl rfl (Nat.le_of_ble_eq_true rfl) ⟨(Nat.le_of_ble_eq_true rfl), (Nat.le_of_ble_eq_true rfl)⟩ ⟨(Nat.le_of_ble_eq_true rfl), (Nat.le_of_ble_eq_true rfl)⟩ dX4_ofDate_11 (fun _ _ z => False.elim z) (fun v9 ws9 h4 => ?_)
  obtain ⟨rfl, hw9⟩ := h4
  subst ws9
  dsimp only [mPush]
  refine r_if_ne (tgt := 21) hX dX4_ofDate_14 (by decide) (fun c6 => ?_) (fun c6 => ?_)
  · obtain ⟨i7, li7, hhi7, rfl⟩ := fwin 0 12 (by decide) (by decide) (by decide) (by decide) c6
    refine r_iconst (v := 0) hX dX4_ofDate_21 (by decide) ?_
    refine r_callV hX (c_X4_isStopped _ _ _ _ _ _ _ _) kv_X4_68 14 rfl rfl rfl rfl (Nat.le_of_ble_eq_true rfl) ⟨(Nat.le_of_ble_eq_true rfl), (Nat.le_of_ble_eq_true rfl)⟩ ⟨(Nat.le_of_ble_eq_true rfl), (Nat.le_of_ble_eq_true rfl)⟩ dX4_ofDate_22 (fun _ _ z => False.elim z) (fun v9 ws9 h8 => ?_)
    obtain ⟨r10, J11, nr10, etJ11, erJ11, eJ11, rfl, hw9⟩ := h8
    subst ws9
    dsimp only [mPush]
    refine r_if_eq (tgt := 32) hX dX4_ofDate_25 (by decide) (fun c12 => ?_) (fun c12 => ?_)
    · have hs13 := mnone0 nr10 (by first | exact c12 | exact Classical.not_not.mp c12)
      obtain ⟨i14, hhi14, rfl⟩ := mnone0 nr3 hs13.1
      refine r_aload_n hX dX4_ofDate_32 rfl rfl ?_
      refine r_iload_n hX dX4_ofDate_33 rfl rfl ?_
      refine r_iload_n hX dX4_ofDate_34 rfl rfl ?_
      refine r_callV hX (c_X4_told _ _ _ _ J11 _ (mWF2 eJ11 hJ) i14 (Nat.lt_of_lt_of_le hhi14 (by decide)) i7 hhi7) kv_X4_193 14 rfl rfl rfl rfl (Nat.le_of_ble_eq_true rfl) ⟨(Nat.le_of_ble_eq_true rfl), (Nat.le_of_ble_eq_true rfl)⟩ ⟨(Nat.le_of_ble_eq_true rfl), (Nat.le_of_ble_eq_true rfl)⟩ dX4_ofDate_35 (fun _ _ z => False.elim z) (fun v9 ws9 h15 => ?_)
      obtain ⟨r17, J18, hJ18, oJ18, rfl, hw9⟩ := h15
      subst ws9
      dsimp only [mPush]
      exact r_iret hX hE dX4_ofDate_38 (Nat.le_of_ble_eq_true rfl) (Nat.le_of_ble_eq_true rfl) ⟨_, J18, hJ18, (oJ18.trans ((congrArg Prod.fst eJ11).trans rfl)), rfl, rfl⟩
    · refine r_iconst (v := 0) hX dX4_ofDate_28 (by decide) ?_
      refine r_goto (tgt := 38) hX dX4_ofDate_29 (by decide) ?_
      exact r_iret hX hE dX4_ofDate_38 (Nat.le_of_ble_eq_true rfl) (Nat.le_of_ble_eq_true rfl) ⟨_, J11, (mWF2 eJ11 hJ), ((congrArg Prod.fst eJ11).trans rfl), rfl, rfl⟩
  · refine r_iconst (v := 1) hX dX4_ofDate_17 (by decide) ?_
    refine r_goto (tgt := 22) hX dX4_ofDate_18 (by decide) ?_
    refine r_callV hX (c_X4_isStopped _ _ _ _ _ _ _ _) kv_X4_68 14 rfl rfl rfl rfl (Nat.le_of_ble_eq_true rfl) ⟨(Nat.le_of_ble_eq_true rfl), (Nat.le_of_ble_eq_true rfl)⟩ ⟨(Nat.le_of_ble_eq_true rfl), (Nat.le_of_ble_eq_true rfl)⟩ dX4_ofDate_22 (fun _ _ z => False.elim z) (fun v9 ws9 h19 => ?_)
    obtain ⟨r21, J22, nr21, etJ22, erJ22, eJ22, rfl, hw9⟩ := h19
    subst ws9
    dsimp only [mPush]
    refine r_if_eq (tgt := 32) hX dX4_ofDate_25 (by decide) (fun c23 => ?_) (fun c23 => ?_)
    · have hs24 := mnone0 nr21 (by first | exact c23 | exact Classical.not_not.mp c23)
      exact absurd hs24.2 (by decide)
    · refine r_iconst (v := 0) hX dX4_ofDate_28 (by decide) ?_
      refine r_goto (tgt := 38) hX dX4_ofDate_29 (by decide) ?_
      exact r_iret hX hE dX4_ofDate_38 (Nat.le_of_ble_eq_true rfl) (Nat.le_of_ble_eq_true rfl) ⟨_, J22, (mWF2 eJ22 hJ), ((congrArg Prod.fst eJ22).trans rfl), rfl, rfl⟩
theorem dX4_ordered_0 : decode cX4_ordered 0 = .ok (.aload_n 0, 1) := by decide +kernel
theorem dX4_ordered_1 : decode cX4_ordered 1 = .ok (.iload_n 1, 1) := by decide +kernel
theorem dX4_ordered_2 : decode cX4_ordered 2 = .ok (.invokevirtual 115, 3) := by decide +kernel
theorem dX4_ordered_5 : decode cX4_ordered 5 = .ok (.aload_n 0, 1) := by decide +kernel
theorem dX4_ordered_6 : decode cX4_ordered 6 = .ok (.iload_n 2, 1) := by decide +kernel
theorem dX4_ordered_7 : decode cX4_ordered 7 = .ok (.invokevirtual 115, 3) := by decide +kernel
theorem dX4_ordered_10 : decode cX4_ordered 10 = .ok (.lcmp, 1) := by decide +kernel
theorem dX4_ordered_11 : decode cX4_ordered 11 = .ok (.ifCond .eq 17, 3) := by decide +kernel
theorem dX4_ordered_14 : decode cX4_ordered 14 = .ok (.aload_n 0, 1) := by decide +kernel
theorem dX4_ordered_15 : decode cX4_ordered 15 = .ok (.iload_n 1, 1) := by decide +kernel
theorem dX4_ordered_16 : decode cX4_ordered 16 = .ok (.invokevirtual 115, 3) := by decide +kernel
theorem dX4_ordered_19 : decode cX4_ordered 19 = .ok (.aload_n 0, 1) := by decide +kernel
theorem dX4_ordered_20 : decode cX4_ordered 20 = .ok (.iload_n 2, 1) := by decide +kernel
theorem dX4_ordered_21 : decode cX4_ordered 21 = .ok (.invokevirtual 115, 3) := by decide +kernel
theorem dX4_ordered_24 : decode cX4_ordered 24 = .ok (.invokestatic 88, 3) := by decide +kernel
theorem dX4_ordered_27 : decode cX4_ordered 27 = .ok (.ireturn, 1) := by decide +kernel
theorem dX4_ordered_28 : decode cX4_ordered 28 = .ok (.aload_n 0, 1) := by decide +kernel
theorem dX4_ordered_29 : decode cX4_ordered 29 = .ok (.getfield 17, 3) := by decide +kernel
theorem dX4_ordered_32 : decode cX4_ordered 32 = .ok (.iload_n 1, 1) := by decide +kernel
theorem dX4_ordered_33 : decode cX4_ordered 33 = .ok (.iaload, 1) := by decide +kernel
theorem dX4_ordered_34 : decode cX4_ordered 34 = .ok (.aload_n 0, 1) := by decide +kernel
theorem dX4_ordered_35 : decode cX4_ordered 35 = .ok (.getfield 17, 3) := by decide +kernel
theorem dX4_ordered_38 : decode cX4_ordered 38 = .ok (.iload_n 2, 1) := by decide +kernel
theorem dX4_ordered_39 : decode cX4_ordered 39 = .ok (.iaload, 1) := by decide +kernel
theorem dX4_ordered_40 : decode cX4_ordered 40 = .ok (.if_icmp .eq 23, 3) := by decide +kernel
theorem dX4_ordered_43 : decode cX4_ordered 43 = .ok (.aload_n 0, 1) := by decide +kernel
theorem dX4_ordered_44 : decode cX4_ordered 44 = .ok (.getfield 17, 3) := by decide +kernel
theorem dX4_ordered_47 : decode cX4_ordered 47 = .ok (.iload_n 1, 1) := by decide +kernel
theorem dX4_ordered_48 : decode cX4_ordered 48 = .ok (.iaload, 1) := by decide +kernel
theorem dX4_ordered_49 : decode cX4_ordered 49 = .ok (.i2l, 1) := by decide +kernel
theorem dX4_ordered_50 : decode cX4_ordered 50 = .ok (.aload_n 0, 1) := by decide +kernel
theorem dX4_ordered_51 : decode cX4_ordered 51 = .ok (.getfield 17, 3) := by decide +kernel
theorem dX4_ordered_54 : decode cX4_ordered 54 = .ok (.iload_n 2, 1) := by decide +kernel
theorem dX4_ordered_55 : decode cX4_ordered 55 = .ok (.iaload, 1) := by decide +kernel
theorem dX4_ordered_56 : decode cX4_ordered 56 = .ok (.i2l, 1) := by decide +kernel
theorem dX4_ordered_57 : decode cX4_ordered 57 = .ok (.invokestatic 88, 3) := by decide +kernel
theorem dX4_ordered_60 : decode cX4_ordered 60 = .ok (.goto 20, 3) := by decide +kernel
theorem dX4_ordered_63 : decode cX4_ordered 63 = .ok (.aload_n 0, 1) := by decide +kernel
theorem dX4_ordered_64 : decode cX4_ordered 64 = .ok (.getfield 20, 3) := by decide +kernel
theorem dX4_ordered_67 : decode cX4_ordered 67 = .ok (.iload_n 1, 1) := by decide +kernel
theorem dX4_ordered_68 : decode cX4_ordered 68 = .ok (.iaload, 1) := by decide +kernel
theorem dX4_ordered_69 : decode cX4_ordered 69 = .ok (.i2l, 1) := by decide +kernel
theorem dX4_ordered_70 : decode cX4_ordered 70 = .ok (.aload_n 0, 1) := by decide +kernel
theorem dX4_ordered_71 : decode cX4_ordered 71 = .ok (.getfield 20, 3) := by decide +kernel
theorem dX4_ordered_74 : decode cX4_ordered 74 = .ok (.iload_n 2, 1) := by decide +kernel
theorem dX4_ordered_75 : decode cX4_ordered 75 = .ok (.iaload, 1) := by decide +kernel
theorem dX4_ordered_76 : decode cX4_ordered 76 = .ok (.i2l, 1) := by decide +kernel
theorem dX4_ordered_77 : decode cX4_ordered 77 = .ok (.invokestatic 88, 3) := by decide +kernel
theorem dX4_ordered_80 : decode cX4_ordered 80 = .ok (.ireturn, 1) := by decide +kernel
set_option maxHeartbeats 4000000 in
set_option maxRecDepth 20000 in
theorem c_X4_ordered (ad ae : Nat → Nat) (cs : ClassId × ClassId × ClassId) (K : mK) (J : mJ) (rest : va_W) (hJ : mWF J) (j0 : Nat) (hj0 : j0 < 7) (j1 : Nat) (hj1 : j1 < 7) : mCt (mTy cs) yX4_ordered cX4_ordered 3 (some .int) ⟨2, 0, 0, 43⟩ [.ref (ae 0), .int (nI j0), .int (nI j1)] (mRw ad ae cs K J rest) (mZi ad ae cs K J rest) mNo := by
  refine mCt.of (by decide +kernel) (Nat.le_of_ble_eq_true rfl) (fun X hX hE => ?_)
  have hX : mOK X RX4 cX4_ordered 3 ⟨2, 0, 0, 43⟩ [] (mTy cs) := hX
  refine r_aload_n hX dX4_ordered_0 rfl rfl ?_
  refine r_iload_n hX dX4_ordered_1 rfl rfl ?_
  refine r_callV hX (c_X4_number _ _ _ _ J _ hJ j0 hj0) kv_X4_115 14 rfl rfl rfl rfl (Nat.le_of_ble_eq_true rfl) ⟨(Nat.le_of_ble_eq_true rfl), (Nat.le_of_ble_eq_true rfl)⟩ ⟨(Nat.le_of_ble_eq_true rfl), (Nat.le_of_ble_eq_true rfl)⟩ dX4_ordered_2 (fun _ _ z => False.elim z) (fun v9 ws9 h1 => ?_)
  obtain ⟨r3, J4, hJ4, oJ4, rfl, hw9⟩ := h1
  subst ws9
  dsimp only [mPush]
  refine r_aload_n hX dX4_ordered_5 rfl rfl ?_
  refine r_iload_n hX dX4_ordered_6 rfl rfl ?_
  refine r_callV hX (c_X4_number _ _ _ _ J4 _ hJ4 j1 hj1) kv_X4_115 14 rfl rfl rfl rfl (Nat.le_of_ble_eq_true rfl) ⟨(Nat.le_of_ble_eq_true rfl), (Nat.le_of_ble_eq_true rfl)⟩ ⟨(Nat.le_of_ble_eq_true rfl), (Nat.le_of_ble_eq_true rfl)⟩ dX4_ordered_7 (fun _ _ z => False.elim z) (fun v9 ws9 h5 => ?_)
  obtain ⟨r7, J8, hJ8, oJ8, rfl, hw9⟩ := h5
  subst ws9
  dsimp only [mPush]
  refine r_lcmp hX dX4_ordered_10 ?_
  refine r_if_eq (tgt := 28) hX dX4_ordered_11 (by decide) (fun c9 => ?_) (fun c9 => ?_)
  · refine r_aload_n hX dX4_ordered_28 rfl rfl ?_
    refine r_get hX kf_X4_17 14 rfl rfl dX4_ordered_29 ?_
    refine r_iload_n hX dX4_ordered_32 rfl rfl ?_
    refine r_iald hX 17 0 rfl rfl (vp_in_nI hj0 (by decide)) dX4_ordered_33 ?_
    refine r_aload_n hX dX4_ordered_34 rfl rfl ?_
    refine r_get hX kf_X4_17 14 rfl rfl dX4_ordered_35 ?_
    refine r_iload_n hX dX4_ordered_38 rfl rfl ?_
    refine r_iald hX 17 0 rfl rfl (vp_in_nI hj1 (by decide)) dX4_ordered_39 ?_
    refine r_icmp_eq (tgt := 63) hX dX4_ordered_40 (by decide) (fun c10 => ?_) (fun c10 => ?_)
    · refine r_aload_n hX dX4_ordered_63 rfl rfl ?_
      refine r_get hX kf_X4_20 14 rfl rfl dX4_ordered_64 ?_
      refine r_iload_n hX dX4_ordered_67 rfl rfl ?_
      refine r_iald hX 18 0 rfl rfl (vp_in_nI hj0 (by decide)) dX4_ordered_68 ?_
      refine r_i2l hX dX4_ordered_69 ?_
      refine r_aload_n hX dX4_ordered_70 rfl rfl ?_
      refine r_get hX kf_X4_20 14 rfl rfl dX4_ordered_71 ?_
      refine r_iload_n hX dX4_ordered_74 rfl rfl ?_
      refine r_iald hX 18 0 rfl rfl (vp_in_nI hj1 (by decide)) dX4_ordered_75 ?_
      refine r_i2l hX dX4_ordered_76 ?_
      refine r_callS hX (c_X4_order _ _ _ _) ks_X4_88 rfl rfl (Nat.le_of_ble_eq_true rfl) ⟨(Nat.le_of_ble_eq_true rfl), (Nat.le_of_ble_eq_true rfl)⟩ ⟨(Nat.le_of_ble_eq_true rfl), (Nat.le_of_ble_eq_true rfl)⟩ dX4_ordered_77 (fun _ _ z => False.elim z) (fun v9 ws9 h11 => ?_)
      obtain ⟨r13, rfl, hw9⟩ := h11
      subst ws9
      dsimp only [mPush]
      exact r_iret hX hE dX4_ordered_80 (Nat.le_of_ble_eq_true rfl) (Nat.le_of_ble_eq_true rfl) ⟨_, J8, hJ8, (oJ8.trans (oJ4.trans rfl)), rfl, rfl⟩
    · refine r_aload_n hX dX4_ordered_43 rfl rfl ?_
      refine r_get hX kf_X4_17 14 rfl rfl dX4_ordered_44 ?_
      refine r_iload_n hX dX4_ordered_47 rfl rfl ?_
      refine r_iald hX 17 0 rfl rfl (vp_in_nI hj0 (by decide)) dX4_ordered_48 ?_
      refine r_i2l hX dX4_ordered_49 ?_
      refine r_aload_n hX dX4_ordered_50 rfl rfl ?_
      refine r_get hX kf_X4_17 14 rfl rfl dX4_ordered_51 ?_
      refine r_iload_n hX dX4_ordered_54 rfl rfl ?_
      refine r_iald hX 17 0 rfl rfl (vp_in_nI hj1 (by decide)) dX4_ordered_55 ?_
      refine r_i2l hX dX4_ordered_56 ?_
      refine r_callS hX (c_X4_order _ _ _ _) ks_X4_88 rfl rfl (Nat.le_of_ble_eq_true rfl) ⟨(Nat.le_of_ble_eq_true rfl), (Nat.le_of_ble_eq_true rfl)⟩ ⟨(Nat.le_of_ble_eq_true rfl), (Nat.le_of_ble_eq_true rfl)⟩ dX4_ordered_57 (fun _ _ z => False.elim z) (fun v9 ws9 h14 => ?_)
      obtain ⟨r16, rfl, hw9⟩ := h14
      subst ws9
      dsimp only [mPush]
      refine r_goto (tgt := 80) hX dX4_ordered_60 (by decide) ?_
      exact r_iret hX hE dX4_ordered_80 (Nat.le_of_ble_eq_true rfl) (Nat.le_of_ble_eq_true rfl) ⟨_, J8, hJ8, (oJ8.trans (oJ4.trans rfl)), rfl, rfl⟩
  · refine r_aload_n hX dX4_ordered_14 rfl rfl ?_
    refine r_iload_n hX dX4_ordered_15 rfl rfl ?_
    refine r_callV hX (c_X4_number _ _ _ _ J8 _ hJ8 j0 hj0) kv_X4_115 14 rfl rfl rfl rfl (Nat.le_of_ble_eq_true rfl) ⟨(Nat.le_of_ble_eq_true rfl), (Nat.le_of_ble_eq_true rfl)⟩ ⟨(Nat.le_of_ble_eq_true rfl), (Nat.le_of_ble_eq_true rfl)⟩ dX4_ordered_16 (fun _ _ z => False.elim z) (fun v9 ws9 h17 => ?_)
    obtain ⟨r19, J20, hJ20, oJ20, rfl, hw9⟩ := h17
    subst ws9
    dsimp only [mPush]
    refine r_aload_n hX dX4_ordered_19 rfl rfl ?_
    refine r_iload_n hX dX4_ordered_20 rfl rfl ?_
    refine r_callV hX (c_X4_number _ _ _ _ J20 _ hJ20 j1 hj1) kv_X4_115 14 rfl rfl rfl rfl (Nat.le_of_ble_eq_true rfl) ⟨(Nat.le_of_ble_eq_true rfl), (Nat.le_of_ble_eq_true rfl)⟩ ⟨(Nat.le_of_ble_eq_true rfl), (Nat.le_of_ble_eq_true rfl)⟩ dX4_ordered_21 (fun _ _ z => False.elim z) (fun v9 ws9 h21 => ?_)
    obtain ⟨r23, J24, hJ24, oJ24, rfl, hw9⟩ := h21
    subst ws9
    dsimp only [mPush]
    refine r_callS hX (c_X4_order _ _ _ _) ks_X4_88 rfl rfl (Nat.le_of_ble_eq_true rfl) ⟨(Nat.le_of_ble_eq_true rfl), (Nat.le_of_ble_eq_true rfl)⟩ ⟨(Nat.le_of_ble_eq_true rfl), (Nat.le_of_ble_eq_true rfl)⟩ dX4_ordered_24 (fun _ _ z => False.elim z) (fun v9 ws9 h25 => ?_)
    obtain ⟨r27, rfl, hw9⟩ := h25
    subst ws9
    dsimp only [mPush]
    exact r_iret hX hE dX4_ordered_27 (Nat.le_of_ble_eq_true rfl) (Nat.le_of_ble_eq_true rfl) ⟨_, J24, hJ24, (oJ24.trans (oJ20.trans (oJ8.trans (oJ4.trans rfl)))), rfl, rfl⟩
theorem dX4_is_0 : decode cX4_is 0 = .ok (.iload_n 3, 1) := by decide +kernel
theorem dX4_is_1 : decode cX4_is 1 = .ok (.iconst 3, 1) := by decide +kernel
theorem dX4_is_2 : decode cX4_is 2 = .ok (.if_icmp .ne 69, 3) := by decide +kernel
theorem dX4_is_5 : decode cX4_is 5 = .ok (.aload_n 0, 1) := by decide +kernel
theorem dX4_is_6 : decode cX4_is 6 = .ok (.getfield 17, 3) := by decide +kernel
theorem dX4_is_9 : decode cX4_is 9 = .ok (.iload_n 1, 1) := by decide +kernel
theorem dX4_is_10 : decode cX4_is 10 = .ok (.iaload, 1) := by decide +kernel
theorem dX4_is_11 : decode cX4_is 11 = .ok (.aload_n 0, 1) := by decide +kernel
theorem dX4_is_12 : decode cX4_is 12 = .ok (.getfield 17, 3) := by decide +kernel
theorem dX4_is_15 : decode cX4_is 15 = .ok (.iload_n 2, 1) := by decide +kernel
theorem dX4_is_16 : decode cX4_is 16 = .ok (.iaload, 1) := by decide +kernel
theorem dX4_is_17 : decode cX4_is 17 = .ok (.if_icmp .ne 52, 3) := by decide +kernel
theorem dX4_is_20 : decode cX4_is 20 = .ok (.aload_n 0, 1) := by decide +kernel
theorem dX4_is_21 : decode cX4_is 21 = .ok (.getfield 20, 3) := by decide +kernel
theorem dX4_is_24 : decode cX4_is 24 = .ok (.iload_n 1, 1) := by decide +kernel
theorem dX4_is_25 : decode cX4_is 25 = .ok (.iaload, 1) := by decide +kernel
theorem dX4_is_26 : decode cX4_is 26 = .ok (.aload_n 0, 1) := by decide +kernel
theorem dX4_is_27 : decode cX4_is 27 = .ok (.getfield 20, 3) := by decide +kernel
theorem dX4_is_30 : decode cX4_is 30 = .ok (.iload_n 2, 1) := by decide +kernel
theorem dX4_is_31 : decode cX4_is 31 = .ok (.iaload, 1) := by decide +kernel
theorem dX4_is_32 : decode cX4_is 32 = .ok (.if_icmp .ne 37, 3) := by decide +kernel
theorem dX4_is_35 : decode cX4_is 35 = .ok (.aload_n 0, 1) := by decide +kernel
theorem dX4_is_36 : decode cX4_is 36 = .ok (.getfield 23, 3) := by decide +kernel
theorem dX4_is_39 : decode cX4_is 39 = .ok (.iload_n 1, 1) := by decide +kernel
theorem dX4_is_40 : decode cX4_is 40 = .ok (.iaload, 1) := by decide +kernel
theorem dX4_is_41 : decode cX4_is 41 = .ok (.aload_n 0, 1) := by decide +kernel
theorem dX4_is_42 : decode cX4_is 42 = .ok (.getfield 23, 3) := by decide +kernel
theorem dX4_is_45 : decode cX4_is 45 = .ok (.iload_n 2, 1) := by decide +kernel
theorem dX4_is_46 : decode cX4_is 46 = .ok (.iaload, 1) := by decide +kernel
theorem dX4_is_47 : decode cX4_is 47 = .ok (.if_icmp .ne 22, 3) := by decide +kernel
theorem dX4_is_50 : decode cX4_is 50 = .ok (.aload_n 0, 1) := by decide +kernel
theorem dX4_is_51 : decode cX4_is 51 = .ok (.getfield 26, 3) := by decide +kernel
theorem dX4_is_54 : decode cX4_is 54 = .ok (.iload_n 1, 1) := by decide +kernel
theorem dX4_is_55 : decode cX4_is 55 = .ok (.iaload, 1) := by decide +kernel
theorem dX4_is_56 : decode cX4_is 56 = .ok (.aload_n 0, 1) := by decide +kernel
theorem dX4_is_57 : decode cX4_is 57 = .ok (.getfield 26, 3) := by decide +kernel
theorem dX4_is_60 : decode cX4_is 60 = .ok (.iload_n 2, 1) := by decide +kernel
theorem dX4_is_61 : decode cX4_is 61 = .ok (.iaload, 1) := by decide +kernel
theorem dX4_is_62 : decode cX4_is 62 = .ok (.if_icmp .ne 7, 3) := by decide +kernel
theorem dX4_is_65 : decode cX4_is 65 = .ok (.iconst 1, 1) := by decide +kernel
theorem dX4_is_66 : decode cX4_is 66 = .ok (.goto 4, 3) := by decide +kernel
theorem dX4_is_69 : decode cX4_is 69 = .ok (.iconst 0, 1) := by decide +kernel
theorem dX4_is_70 : decode cX4_is 70 = .ok (.ireturn, 1) := by decide +kernel
theorem dX4_is_71 : decode cX4_is 71 = .ok (.aload_n 0, 1) := by decide +kernel
theorem dX4_is_72 : decode cX4_is 72 = .ok (.iload_n 1, 1) := by decide +kernel
theorem dX4_is_73 : decode cX4_is 73 = .ok (.invokevirtual 115, 3) := by decide +kernel
theorem dX4_is_76 : decode cX4_is 76 = .ok (.aload_n 0, 1) := by decide +kernel
theorem dX4_is_77 : decode cX4_is 77 = .ok (.iload_n 2, 1) := by decide +kernel
theorem dX4_is_78 : decode cX4_is 78 = .ok (.invokevirtual 115, 3) := by decide +kernel
theorem dX4_is_81 : decode cX4_is 81 = .ok (.invokestatic 88, 3) := by decide +kernel
theorem dX4_is_84 : decode cX4_is 84 = .ok (.iload_n 3, 1) := by decide +kernel
theorem dX4_is_85 : decode cX4_is 85 = .ok (.ifCond .ne 7, 3) := by decide +kernel
theorem dX4_is_88 : decode cX4_is 88 = .ok (.iconst (-1), 1) := by decide +kernel
theorem dX4_is_89 : decode cX4_is 89 = .ok (.goto 13, 3) := by decide +kernel
theorem dX4_is_92 : decode cX4_is 92 = .ok (.iload_n 3, 1) := by decide +kernel
theorem dX4_is_93 : decode cX4_is 93 = .ok (.iconst 1, 1) := by decide +kernel
theorem dX4_is_94 : decode cX4_is 94 = .ok (.if_icmp .ne 7, 3) := by decide +kernel
theorem dX4_is_97 : decode cX4_is 97 = .ok (.iconst 1, 1) := by decide +kernel
theorem dX4_is_98 : decode cX4_is 98 = .ok (.goto 4, 3) := by decide +kernel
theorem dX4_is_101 : decode cX4_is 101 = .ok (.iconst 0, 1) := by decide +kernel
theorem dX4_is_102 : decode cX4_is 102 = .ok (.if_icmp .ne 7, 3) := by decide +kernel
theorem dX4_is_105 : decode cX4_is 105 = .ok (.iconst 1, 1) := by decide +kernel
theorem dX4_is_106 : decode cX4_is 106 = .ok (.goto 4, 3) := by decide +kernel
theorem dX4_is_109 : decode cX4_is 109 = .ok (.iconst 0, 1) := by decide +kernel
theorem dX4_is_110 : decode cX4_is 110 = .ok (.ireturn, 1) := by decide +kernel
set_option maxHeartbeats 4000000 in
set_option maxRecDepth 20000 in
theorem c_X4_is (ad ae : Nat → Nat) (cs : ClassId × ClassId × ClassId) (K : mK) (J : mJ) (rest : va_W) (hJ : mWF J) (j0 : Nat) (hj0 : j0 < 7) (j1 : Nat) (hj1 : j1 < 7) (p2 : Int32) : mCt (mTy cs) yX4_is cX4_is 4 (some .boolean) ⟨2, 0, 0, 43⟩ [.ref (ae 0), .int (nI j0), .int (nI j1), .int p2] (mRw ad ae cs K J rest) (mZb ad ae cs K J rest) mNo := by
  refine mCt.of (by decide +kernel) (Nat.le_of_ble_eq_true rfl) (fun X hX hE => ?_)
  have hX : mOK X RX4 cX4_is 4 ⟨2, 0, 0, 43⟩ [] (mTy cs) := hX
  refine r_iload_n hX dX4_is_0 rfl rfl ?_
  refine r_iconst (v := 3) hX dX4_is_1 (by decide) ?_
  refine r_icmp_ne (tgt := 71) hX dX4_is_2 (by decide) (fun c1 => ?_) (fun c1 => ?_)
  · refine r_aload_n hX dX4_is_71 rfl rfl ?_
    refine r_iload_n hX dX4_is_72 rfl rfl ?_
    refine r_callV hX (c_X4_number _ _ _ _ J _ hJ j0 hj0) kv_X4_115 14 rfl rfl rfl rfl (Nat.le_of_ble_eq_true rfl) ⟨(Nat.le_of_ble_eq_true rfl), (Nat.le_of_ble_eq_true rfl)⟩ ⟨(Nat.le_of_ble_eq_true rfl), (Nat.le_of_ble_eq_true rfl)⟩ dX4_is_73 (fun _ _ z => False.elim z) (fun v9 ws9 h2 => ?_)
    obtain ⟨r4, J5, hJ5, oJ5, rfl, hw9⟩ := h2
    subst ws9
    dsimp only [mPush]
    refine r_aload_n hX dX4_is_76 rfl rfl ?_
    refine r_iload_n hX dX4_is_77 rfl rfl ?_
    refine r_callV hX (c_X4_number _ _ _ _ J5 _ hJ5 j1 hj1) kv_X4_115 14 rfl rfl rfl rfl (Nat.le_of_ble_eq_true rfl) ⟨(Nat.le_of_ble_eq_true rfl), (Nat.le_of_ble_eq_true rfl)⟩ ⟨(Nat.le_of_ble_eq_true rfl), (Nat.le_of_ble_eq_true rfl)⟩ dX4_is_78 (fun _ _ z => False.elim z) (fun v9 ws9 h6 => ?_)
    obtain ⟨r8, J9, hJ9, oJ9, rfl, hw9⟩ := h6
    subst ws9
    dsimp only [mPush]
    refine r_callS hX (c_X4_order _ _ _ _) ks_X4_88 rfl rfl (Nat.le_of_ble_eq_true rfl) ⟨(Nat.le_of_ble_eq_true rfl), (Nat.le_of_ble_eq_true rfl)⟩ ⟨(Nat.le_of_ble_eq_true rfl), (Nat.le_of_ble_eq_true rfl)⟩ dX4_is_81 (fun _ _ z => False.elim z) (fun v9 ws9 h10 => ?_)
    obtain ⟨r12, rfl, hw9⟩ := h10
    subst ws9
    dsimp only [mPush]
    refine r_iload_n hX dX4_is_84 rfl rfl ?_
    refine r_if_ne (tgt := 92) hX dX4_is_85 (by decide) (fun c13 => ?_) (fun c13 => ?_)
    · refine r_iload_n hX dX4_is_92 rfl rfl ?_
      refine r_iconst (v := 1) hX dX4_is_93 (by decide) ?_
      refine r_icmp_ne (tgt := 101) hX dX4_is_94 (by decide) (fun c14 => ?_) (fun c14 => ?_)
      · refine r_iconst (v := 0) hX dX4_is_101 (by decide) ?_
        refine r_icmp_ne (tgt := 109) hX dX4_is_102 (by decide) (fun c15 => ?_) (fun c15 => ?_)
        · refine r_iconst (v := 0) hX dX4_is_109 (by decide) ?_
          exact r_zret hX hE dX4_is_110 (mB_n (Or.inl rfl)) (Nat.le_of_ble_eq_true rfl) (Nat.le_of_ble_eq_true rfl) ⟨_, J9, (Or.inl rfl), hJ9, (oJ9.trans (oJ5.trans rfl)), rfl, rfl⟩
        · refine r_iconst (v := 1) hX dX4_is_105 (by decide) ?_
          refine r_goto (tgt := 110) hX dX4_is_106 (by decide) ?_
          exact r_zret hX hE dX4_is_110 (mB_n (Or.inr rfl)) (Nat.le_of_ble_eq_true rfl) (Nat.le_of_ble_eq_true rfl) ⟨_, J9, (Or.inr rfl), hJ9, (oJ9.trans (oJ5.trans rfl)), rfl, rfl⟩
      · refine r_iconst (v := 1) hX dX4_is_97 (by decide) ?_
        refine r_goto (tgt := 102) hX dX4_is_98 (by decide) ?_
        refine r_icmp_ne (tgt := 109) hX dX4_is_102 (by decide) (fun c16 => ?_) (fun c16 => ?_)
        · refine r_iconst (v := 0) hX dX4_is_109 (by decide) ?_
          exact r_zret hX hE dX4_is_110 (mB_n (Or.inl rfl)) (Nat.le_of_ble_eq_true rfl) (Nat.le_of_ble_eq_true rfl) ⟨_, J9, (Or.inl rfl), hJ9, (oJ9.trans (oJ5.trans rfl)), rfl, rfl⟩
        · refine r_iconst (v := 1) hX dX4_is_105 (by decide) ?_
          refine r_goto (tgt := 110) hX dX4_is_106 (by decide) ?_
          exact r_zret hX hE dX4_is_110 (mB_n (Or.inr rfl)) (Nat.le_of_ble_eq_true rfl) (Nat.le_of_ble_eq_true rfl) ⟨_, J9, (Or.inr rfl), hJ9, (oJ9.trans (oJ5.trans rfl)), rfl, rfl⟩
    · refine r_iconst (v := -1) hX dX4_is_88 (by decide) ?_
      refine r_goto (tgt := 102) hX dX4_is_89 (by decide) ?_
      refine r_icmp_ne (tgt := 109) hX dX4_is_102 (by decide) (fun c17 => ?_) (fun c17 => ?_)
      · refine r_iconst (v := 0) hX dX4_is_109 (by decide) ?_
        exact r_zret hX hE dX4_is_110 (mB_n (Or.inl rfl)) (Nat.le_of_ble_eq_true rfl) (Nat.le_of_ble_eq_true rfl) ⟨_, J9, (Or.inl rfl), hJ9, (oJ9.trans (oJ5.trans rfl)), rfl, rfl⟩
      · refine r_iconst (v := 1) hX dX4_is_105 (by decide) ?_
        refine r_goto (tgt := 110) hX dX4_is_106 (by decide) ?_
        exact r_zret hX hE dX4_is_110 (mB_n (Or.inr rfl)) (Nat.le_of_ble_eq_true rfl) (Nat.le_of_ble_eq_true rfl) ⟨_, J9, (Or.inr rfl), hJ9, (oJ9.trans (oJ5.trans rfl)), rfl, rfl⟩
  · refine r_aload_n hX dX4_is_5 rfl rfl ?_
    refine r_get hX kf_X4_17 14 rfl rfl dX4_is_6 ?_
    refine r_iload_n hX dX4_is_9 rfl rfl ?_
    refine r_iald hX 17 0 rfl rfl (vp_in_nI hj0 (by decide)) dX4_is_10 ?_
    refine r_aload_n hX dX4_is_11 rfl rfl ?_
    refine r_get hX kf_X4_17 14 rfl rfl dX4_is_12 ?_
    refine r_iload_n hX dX4_is_15 rfl rfl ?_
    refine r_iald hX 17 0 rfl rfl (vp_in_nI hj1 (by decide)) dX4_is_16 ?_
    refine r_icmp_ne (tgt := 69) hX dX4_is_17 (by decide) (fun c18 => ?_) (fun c18 => ?_)
    · refine r_iconst (v := 0) hX dX4_is_69 (by decide) ?_
      exact r_zret hX hE dX4_is_70 (mB_n (Or.inl rfl)) (Nat.le_of_ble_eq_true rfl) (Nat.le_of_ble_eq_true rfl) ⟨_, J, (Or.inl rfl), hJ, rfl, rfl, rfl⟩
    · refine r_aload_n hX dX4_is_20 rfl rfl ?_
      refine r_get hX kf_X4_20 14 rfl rfl dX4_is_21 ?_
      refine r_iload_n hX dX4_is_24 rfl rfl ?_
      refine r_iald hX 18 0 rfl rfl (vp_in_nI hj0 (by decide)) dX4_is_25 ?_
      refine r_aload_n hX dX4_is_26 rfl rfl ?_
      refine r_get hX kf_X4_20 14 rfl rfl dX4_is_27 ?_
      refine r_iload_n hX dX4_is_30 rfl rfl ?_
      refine r_iald hX 18 0 rfl rfl (vp_in_nI hj1 (by decide)) dX4_is_31 ?_
      refine r_icmp_ne (tgt := 69) hX dX4_is_32 (by decide) (fun c19 => ?_) (fun c19 => ?_)
      · refine r_iconst (v := 0) hX dX4_is_69 (by decide) ?_
        exact r_zret hX hE dX4_is_70 (mB_n (Or.inl rfl)) (Nat.le_of_ble_eq_true rfl) (Nat.le_of_ble_eq_true rfl) ⟨_, J, (Or.inl rfl), hJ, rfl, rfl, rfl⟩
      · refine r_aload_n hX dX4_is_35 rfl rfl ?_
        refine r_get hX kf_X4_23 14 rfl rfl dX4_is_36 ?_
        refine r_iload_n hX dX4_is_39 rfl rfl ?_
        refine r_iald hX 19 0 rfl rfl (vp_in_nI hj0 (by decide)) dX4_is_40 ?_
        refine r_aload_n hX dX4_is_41 rfl rfl ?_
        refine r_get hX kf_X4_23 14 rfl rfl dX4_is_42 ?_
        refine r_iload_n hX dX4_is_45 rfl rfl ?_
        refine r_iald hX 19 0 rfl rfl (vp_in_nI hj1 (by decide)) dX4_is_46 ?_
        refine r_icmp_ne (tgt := 69) hX dX4_is_47 (by decide) (fun c20 => ?_) (fun c20 => ?_)
        · refine r_iconst (v := 0) hX dX4_is_69 (by decide) ?_
          exact r_zret hX hE dX4_is_70 (mB_n (Or.inl rfl)) (Nat.le_of_ble_eq_true rfl) (Nat.le_of_ble_eq_true rfl) ⟨_, J, (Or.inl rfl), hJ, rfl, rfl, rfl⟩
        · refine r_aload_n hX dX4_is_50 rfl rfl ?_
          refine r_get hX kf_X4_26 14 rfl rfl dX4_is_51 ?_
          refine r_iload_n hX dX4_is_54 rfl rfl ?_
          refine r_iald hX 20 0 rfl rfl (vp_in_nI hj0 (by decide)) dX4_is_55 ?_
          refine r_aload_n hX dX4_is_56 rfl rfl ?_
          refine r_get hX kf_X4_26 14 rfl rfl dX4_is_57 ?_
          refine r_iload_n hX dX4_is_60 rfl rfl ?_
          refine r_iald hX 20 0 rfl rfl (vp_in_nI hj1 (by decide)) dX4_is_61 ?_
          refine r_icmp_ne (tgt := 69) hX dX4_is_62 (by decide) (fun c21 => ?_) (fun c21 => ?_)
          · refine r_iconst (v := 0) hX dX4_is_69 (by decide) ?_
            exact r_zret hX hE dX4_is_70 (mB_n (Or.inl rfl)) (Nat.le_of_ble_eq_true rfl) (Nat.le_of_ble_eq_true rfl) ⟨_, J, (Or.inl rfl), hJ, rfl, rfl, rfl⟩
          · refine r_iconst (v := 1) hX dX4_is_65 (by decide) ?_
            refine r_goto (tgt := 70) hX dX4_is_66 (by decide) ?_
            exact r_zret hX hE dX4_is_70 (mB_n (Or.inr rfl)) (Nat.le_of_ble_eq_true rfl) (Nat.le_of_ble_eq_true rfl) ⟨_, J, (Or.inr rfl), hJ, rfl, rfl, rfl⟩
theorem dX4_orderDate_0 : decode cX4_orderDate 0 = .ok (.aload_n 0, 1) := by decide +kernel
theorem dX4_orderDate_1 : decode cX4_orderDate 1 = .ok (.iload_n 1, 1) := by decide +kernel
theorem dX4_orderDate_2 : decode cX4_orderDate 2 = .ok (.invokestatic 61, 3) := by decide +kernel
theorem dX4_orderDate_5 : decode cX4_orderDate 5 = .ok (.ifCond .ne 10, 3) := by decide +kernel
theorem dX4_orderDate_8 : decode cX4_orderDate 8 = .ok (.iload_n 2, 1) := by decide +kernel
theorem dX4_orderDate_9 : decode cX4_orderDate 9 = .ok (.invokestatic 61, 3) := by decide +kernel
theorem dX4_orderDate_12 : decode cX4_orderDate 12 = .ok (.ifCond .eq 7, 3) := by decide +kernel
theorem dX4_orderDate_15 : decode cX4_orderDate 15 = .ok (.iconst 1, 1) := by decide +kernel
theorem dX4_orderDate_16 : decode cX4_orderDate 16 = .ok (.goto 4, 3) := by decide +kernel
theorem dX4_orderDate_19 : decode cX4_orderDate 19 = .ok (.iconst 0, 1) := by decide +kernel
theorem dX4_orderDate_20 : decode cX4_orderDate 20 = .ok (.iconst 0, 1) := by decide +kernel
theorem dX4_orderDate_21 : decode cX4_orderDate 21 = .ok (.invokevirtual 68, 3) := by decide +kernel
theorem dX4_orderDate_24 : decode cX4_orderDate 24 = .ok (.ifCond .eq 7, 3) := by decide +kernel
theorem dX4_orderDate_27 : decode cX4_orderDate 27 = .ok (.iconst 0, 1) := by decide +kernel
theorem dX4_orderDate_28 : decode cX4_orderDate 28 = .ok (.goto 9, 3) := by decide +kernel
theorem dX4_orderDate_31 : decode cX4_orderDate 31 = .ok (.aload_n 0, 1) := by decide +kernel
theorem dX4_orderDate_32 : decode cX4_orderDate 32 = .ok (.iload_n 1, 1) := by decide +kernel
theorem dX4_orderDate_33 : decode cX4_orderDate 33 = .ok (.iload_n 2, 1) := by decide +kernel
theorem dX4_orderDate_34 : decode cX4_orderDate 34 = .ok (.invokevirtual 196, 3) := by decide +kernel
theorem dX4_orderDate_37 : decode cX4_orderDate 37 = .ok (.ireturn, 1) := by decide +kernel
set_option maxHeartbeats 4000000 in
set_option maxRecDepth 20000 in
theorem c_X4_orderDate (ad ae : Nat → Nat) (cs : ClassId × ClassId × ClassId) (K : mK) (J : mJ) (rest : va_W) (hJ : mWF J) (p0 : Int32) (p1 : Int32) : mCt (mTy cs) yX4_orderDate cX4_orderDate 3 (some .int) ⟨3, 0, 0, 65⟩ [.ref (ae 0), .int p0, .int p1] (mRw ad ae cs K J rest) (mZi ad ae cs K J rest) mNo := by
  refine mCt.of (by decide +kernel) (Nat.le_of_ble_eq_true rfl) (fun X hX hE => ?_)
  have hX : mOK X RX4 cX4_orderDate 3 ⟨3, 0, 0, 65⟩ [] (mTy cs) := hX
  refine r_aload_n hX dX4_orderDate_0 rfl rfl ?_
  refine r_iload_n hX dX4_orderDate_1 rfl rfl ?_
  refine r_callS hX (c_X4_isNone _ _ _) ks_X4_61 rfl rfl (Nat.le_of_ble_eq_true rfl) ⟨(Nat.le_of_ble_eq_true rfl), (Nat.le_of_ble_eq_true rfl)⟩ ⟨(Nat.le_of_ble_eq_true rfl), (Nat.le_of_ble_eq_true rfl)⟩ dX4_orderDate_2 (fun _ _ z => False.elim z) (fun v9 ws9 h1 => ?_)
  obtain ⟨r3, nr3, rfl, hw9⟩ := h1
  subst ws9
  dsimp only [mPush]
  refine r_if_ne (tgt := 15) hX dX4_orderDate_5 (by decide) (fun c4 => ?_) (fun c4 => ?_)
  · refine r_iconst (v := 1) hX dX4_orderDate_15 (by decide) ?_
    refine r_goto (tgt := 20) hX dX4_orderDate_16 (by decide) ?_
    refine r_iconst (v := 0) hX dX4_orderDate_20 (by decide) ?_
    refine r_callV hX (c_X4_isStopped _ _ _ _ _ _ _ _) kv_X4_68 14 rfl rfl rfl rfl (Nat.le_of_ble_eq_true rfl) ⟨(Nat.le_of_ble_eq_true rfl), (Nat.le_of_ble_eq_true rfl)⟩ ⟨(Nat.le_of_ble_eq_true rfl), (Nat.le_of_ble_eq_true rfl)⟩ dX4_orderDate_21 (fun _ _ z => False.elim z) (fun v9 ws9 h5 => ?_)
    obtain ⟨r7, J8, nr7, etJ8, erJ8, eJ8, rfl, hw9⟩ := h5
    subst ws9
    dsimp only [mPush]
    refine r_if_eq (tgt := 31) hX dX4_orderDate_24 (by decide) (fun c9 => ?_) (fun c9 => ?_)
    · have hs10 := mnone0 nr7 (by first | exact c9 | exact Classical.not_not.mp c9)
      exact absurd hs10.1 (by decide)
    · refine r_iconst (v := 0) hX dX4_orderDate_27 (by decide) ?_
      refine r_goto (tgt := 37) hX dX4_orderDate_28 (by decide) ?_
      exact r_iret hX hE dX4_orderDate_37 (Nat.le_of_ble_eq_true rfl) (Nat.le_of_ble_eq_true rfl) ⟨_, J8, (mWF2 eJ8 hJ), ((congrArg Prod.fst eJ8).trans rfl), rfl, rfl⟩
  · obtain ⟨i11, hhi11, rfl⟩ := mnone0 nr3 (by first | exact c4 | exact Classical.not_not.mp c4)
    refine r_iload_n hX dX4_orderDate_8 rfl rfl ?_
    refine r_callS hX (c_X4_isNone _ _ _) ks_X4_61 rfl rfl (Nat.le_of_ble_eq_true rfl) ⟨(Nat.le_of_ble_eq_true rfl), (Nat.le_of_ble_eq_true rfl)⟩ ⟨(Nat.le_of_ble_eq_true rfl), (Nat.le_of_ble_eq_true rfl)⟩ dX4_orderDate_9 (fun _ _ z => False.elim z) (fun v9 ws9 h12 => ?_)
    obtain ⟨r14, nr14, rfl, hw9⟩ := h12
    subst ws9
    dsimp only [mPush]
    refine r_if_eq (tgt := 19) hX dX4_orderDate_12 (by decide) (fun c15 => ?_) (fun c15 => ?_)
    · obtain ⟨i16, hhi16, rfl⟩ := mnone0 nr14 (by first | exact c15 | exact Classical.not_not.mp c15)
      refine r_iconst (v := 0) hX dX4_orderDate_19 (by decide) ?_
      refine r_iconst (v := 0) hX dX4_orderDate_20 (by decide) ?_
      refine r_callV hX (c_X4_isStopped _ _ _ _ _ _ _ _) kv_X4_68 14 rfl rfl rfl rfl (Nat.le_of_ble_eq_true rfl) ⟨(Nat.le_of_ble_eq_true rfl), (Nat.le_of_ble_eq_true rfl)⟩ ⟨(Nat.le_of_ble_eq_true rfl), (Nat.le_of_ble_eq_true rfl)⟩ dX4_orderDate_21 (fun _ _ z => False.elim z) (fun v9 ws9 h17 => ?_)
      obtain ⟨r19, J20, nr19, etJ20, erJ20, eJ20, rfl, hw9⟩ := h17
      subst ws9
      dsimp only [mPush]
      refine r_if_eq (tgt := 31) hX dX4_orderDate_24 (by decide) (fun c21 => ?_) (fun c21 => ?_)
      · have hs22 := mnone0 nr19 (by first | exact c21 | exact Classical.not_not.mp c21)
        refine r_aload_n hX dX4_orderDate_31 rfl rfl ?_
        refine r_iload_n hX dX4_orderDate_32 rfl rfl ?_
        refine r_iload_n hX dX4_orderDate_33 rfl rfl ?_
        refine r_callV hX (c_X4_ordered _ _ _ _ J20 _ (mWF2 eJ20 hJ) i11 (Nat.lt_of_lt_of_le hhi11 (by decide)) i16 (Nat.lt_of_lt_of_le hhi16 (by decide))) kv_X4_196 14 rfl rfl rfl rfl (Nat.le_of_ble_eq_true rfl) ⟨(Nat.le_of_ble_eq_true rfl), (Nat.le_of_ble_eq_true rfl)⟩ ⟨(Nat.le_of_ble_eq_true rfl), (Nat.le_of_ble_eq_true rfl)⟩ dX4_orderDate_34 (fun _ _ z => False.elim z) (fun v9 ws9 h23 => ?_)
        obtain ⟨r25, J26, hJ26, oJ26, rfl, hw9⟩ := h23
        subst ws9
        dsimp only [mPush]
        exact r_iret hX hE dX4_orderDate_37 (Nat.le_of_ble_eq_true rfl) (Nat.le_of_ble_eq_true rfl) ⟨_, J26, hJ26, (oJ26.trans ((congrArg Prod.fst eJ20).trans rfl)), rfl, rfl⟩
      · refine r_iconst (v := 0) hX dX4_orderDate_27 (by decide) ?_
        refine r_goto (tgt := 37) hX dX4_orderDate_28 (by decide) ?_
        exact r_iret hX hE dX4_orderDate_37 (Nat.le_of_ble_eq_true rfl) (Nat.le_of_ble_eq_true rfl) ⟨_, J20, (mWF2 eJ20 hJ), ((congrArg Prod.fst eJ20).trans rfl), rfl, rfl⟩
    · refine r_iconst (v := 1) hX dX4_orderDate_15 (by decide) ?_
      refine r_goto (tgt := 20) hX dX4_orderDate_16 (by decide) ?_
      refine r_iconst (v := 0) hX dX4_orderDate_20 (by decide) ?_
      refine r_callV hX (c_X4_isStopped _ _ _ _ _ _ _ _) kv_X4_68 14 rfl rfl rfl rfl (Nat.le_of_ble_eq_true rfl) ⟨(Nat.le_of_ble_eq_true rfl), (Nat.le_of_ble_eq_true rfl)⟩ ⟨(Nat.le_of_ble_eq_true rfl), (Nat.le_of_ble_eq_true rfl)⟩ dX4_orderDate_21 (fun _ _ z => False.elim z) (fun v9 ws9 h27 => ?_)
      obtain ⟨r29, J30, nr29, etJ30, erJ30, eJ30, rfl, hw9⟩ := h27
      subst ws9
      dsimp only [mPush]
      refine r_if_eq (tgt := 31) hX dX4_orderDate_24 (by decide) (fun c31 => ?_) (fun c31 => ?_)
      · have hs32 := mnone0 nr29 (by first | exact c31 | exact Classical.not_not.mp c31)
        exact absurd hs32.1 (by decide)
      · refine r_iconst (v := 0) hX dX4_orderDate_27 (by decide) ?_
        refine r_goto (tgt := 37) hX dX4_orderDate_28 (by decide) ?_
        exact r_iret hX hE dX4_orderDate_37 (Nat.le_of_ble_eq_true rfl) (Nat.le_of_ble_eq_true rfl) ⟨_, J30, (mWF2 eJ30 hJ), ((congrArg Prod.fst eJ30).trans rfl), rfl, rfl⟩
theorem dX4_isDate_0 : decode cX4_isDate 0 = .ok (.aload_n 0, 1) := by decide +kernel
theorem dX4_isDate_1 : decode cX4_isDate 1 = .ok (.iload_n 1, 1) := by decide +kernel
theorem dX4_isDate_2 : decode cX4_isDate 2 = .ok (.invokestatic 61, 3) := by decide +kernel
theorem dX4_isDate_5 : decode cX4_isDate 5 = .ok (.ifCond .ne 10, 3) := by decide +kernel
theorem dX4_isDate_8 : decode cX4_isDate 8 = .ok (.iload_n 2, 1) := by decide +kernel
theorem dX4_isDate_9 : decode cX4_isDate 9 = .ok (.invokestatic 61, 3) := by decide +kernel
theorem dX4_isDate_12 : decode cX4_isDate 12 = .ok (.ifCond .eq 7, 3) := by decide +kernel
theorem dX4_isDate_15 : decode cX4_isDate 15 = .ok (.iconst 1, 1) := by decide +kernel
theorem dX4_isDate_16 : decode cX4_isDate 16 = .ok (.goto 4, 3) := by decide +kernel
theorem dX4_isDate_19 : decode cX4_isDate 19 = .ok (.iconst 0, 1) := by decide +kernel
theorem dX4_isDate_20 : decode cX4_isDate 20 = .ok (.iload_n 3, 1) := by decide +kernel
theorem dX4_isDate_21 : decode cX4_isDate 21 = .ok (.i2l, 1) := by decide +kernel
theorem dX4_isDate_22 : decode cX4_isDate 22 = .ok (.lconst 0, 1) := by decide +kernel
theorem dX4_isDate_23 : decode cX4_isDate 23 = .ok (.ldc2_w 36, 3) := by decide +kernel
theorem dX4_isDate_26 : decode cX4_isDate 26 = .ok (.invokestatic 38, 3) := by decide +kernel
theorem dX4_isDate_29 : decode cX4_isDate 29 = .ok (.ifCond .ne 7, 3) := by decide +kernel
theorem dX4_isDate_32 : decode cX4_isDate 32 = .ok (.iconst 1, 1) := by decide +kernel
theorem dX4_isDate_33 : decode cX4_isDate 33 = .ok (.goto 4, 3) := by decide +kernel
theorem dX4_isDate_36 : decode cX4_isDate 36 = .ok (.iconst 0, 1) := by decide +kernel
theorem dX4_isDate_37 : decode cX4_isDate 37 = .ok (.invokevirtual 68, 3) := by decide +kernel
theorem dX4_isDate_40 : decode cX4_isDate 40 = .ok (.ifCond .ne 17, 3) := by decide +kernel
theorem dX4_isDate_43 : decode cX4_isDate 43 = .ok (.aload_n 0, 1) := by decide +kernel
theorem dX4_isDate_44 : decode cX4_isDate 44 = .ok (.iload_n 1, 1) := by decide +kernel
theorem dX4_isDate_45 : decode cX4_isDate 45 = .ok (.iload_n 2, 1) := by decide +kernel
theorem dX4_isDate_46 : decode cX4_isDate 46 = .ok (.iload_n 3, 1) := by decide +kernel
theorem dX4_isDate_47 : decode cX4_isDate 47 = .ok (.invokevirtual 199, 3) := by decide +kernel
theorem dX4_isDate_50 : decode cX4_isDate 50 = .ok (.ifCond .eq 7, 3) := by decide +kernel
theorem dX4_isDate_53 : decode cX4_isDate 53 = .ok (.iconst 1, 1) := by decide +kernel
theorem dX4_isDate_54 : decode cX4_isDate 54 = .ok (.goto 4, 3) := by decide +kernel
theorem dX4_isDate_57 : decode cX4_isDate 57 = .ok (.iconst 0, 1) := by decide +kernel
theorem dX4_isDate_58 : decode cX4_isDate 58 = .ok (.ireturn, 1) := by decide +kernel
set_option maxHeartbeats 4000000 in
set_option maxRecDepth 20000 in
theorem c_X4_isDate (ad ae : Nat → Nat) (cs : ClassId × ClassId × ClassId) (K : mK) (J : mJ) (rest : va_W) (hJ : mWF J) (p0 : Int32) (p1 : Int32) (p2 : Int32) : mCt (mTy cs) yX4_isDate cX4_isDate 4 (some .boolean) ⟨3, 0, 0, 66⟩ [.ref (ae 0), .int p0, .int p1, .int p2] (mRw ad ae cs K J rest) (mZb ad ae cs K J rest) mNo := by
  refine mCt.of (by decide +kernel) (Nat.le_of_ble_eq_true rfl) (fun X hX hE => ?_)
  have hX : mOK X RX4 cX4_isDate 4 ⟨3, 0, 0, 66⟩ [] (mTy cs) := hX
  refine r_aload_n hX dX4_isDate_0 rfl rfl ?_
  refine r_iload_n hX dX4_isDate_1 rfl rfl ?_
  refine r_callS hX (c_X4_isNone _ _ _) ks_X4_61 rfl rfl (Nat.le_of_ble_eq_true rfl) ⟨(Nat.le_of_ble_eq_true rfl), (Nat.le_of_ble_eq_true rfl)⟩ ⟨(Nat.le_of_ble_eq_true rfl), (Nat.le_of_ble_eq_true rfl)⟩ dX4_isDate_2 (fun _ _ z => False.elim z) (fun v9 ws9 h1 => ?_)
  obtain ⟨r3, nr3, rfl, hw9⟩ := h1
  subst ws9
  dsimp only [mPush]
  refine r_if_ne (tgt := 15) hX dX4_isDate_5 (by decide) (fun c4 => ?_) (fun c4 => ?_)
  · refine r_iconst (v := 1) hX dX4_isDate_15 (by decide) ?_
    refine r_goto (tgt := 20) hX dX4_isDate_16 (by decide) ?_
    refine r_iload_n hX dX4_isDate_20 rfl rfl ?_
    refine r_i2l hX dX4_isDate_21 ?_
    refine r_lconst (v := 0) hX dX4_isDate_22 (by decide) ?_
    refine r_ldc2 hX kc_X4_36 dX4_isDate_23 ?_
    refine r_callS hX (c_X4_isIn _ _ _ _ _) ks_X4_38 rfl rfl (Nat.le_of_ble_eq_true rfl) ⟨(Nat.le_of_ble_eq_true rfl), (Nat.le_of_ble_eq_true rfl)⟩ ⟨(Nat.le_of_ble_eq_true rfl), (Nat.le_of_ble_eq_true rfl)⟩ dX4_isDate_26 (fun _ _ z => False.elim z) (fun v9 ws9 h5 => ?_)
    obtain ⟨rfl, hw9⟩ := h5
    subst ws9
    dsimp only [mPush]
    refine r_if_ne (tgt := 36) hX dX4_isDate_29 (by decide) (fun c7 => ?_) (fun c7 => ?_)
    · obtain ⟨i8, li8, hhi8, rfl⟩ := fwin 0 3 (by decide) (by decide) (by decide) (by decide) c7
      refine r_iconst (v := 0) hX dX4_isDate_36 (by decide) ?_
      refine r_callV hX (c_X4_isStopped _ _ _ _ _ _ _ _) kv_X4_68 14 rfl rfl rfl rfl (Nat.le_of_ble_eq_true rfl) ⟨(Nat.le_of_ble_eq_true rfl), (Nat.le_of_ble_eq_true rfl)⟩ ⟨(Nat.le_of_ble_eq_true rfl), (Nat.le_of_ble_eq_true rfl)⟩ dX4_isDate_37 (fun _ _ z => False.elim z) (fun v9 ws9 h9 => ?_)
      obtain ⟨r11, J12, nr11, etJ12, erJ12, eJ12, rfl, hw9⟩ := h9
      subst ws9
      dsimp only [mPush]
      refine r_if_ne (tgt := 57) hX dX4_isDate_40 (by decide) (fun c13 => ?_) (fun c13 => ?_)
      · refine r_iconst (v := 0) hX dX4_isDate_57 (by decide) ?_
        exact r_zret hX hE dX4_isDate_58 (mB_n (Or.inl rfl)) (Nat.le_of_ble_eq_true rfl) (Nat.le_of_ble_eq_true rfl) ⟨_, J12, (Or.inl rfl), (mWF2 eJ12 hJ), ((congrArg Prod.fst eJ12).trans rfl), rfl, rfl⟩
      · have hs14 := mnone0 nr11 (by first | exact c13 | exact Classical.not_not.mp c13)
        exact absurd hs14.1 (by decide)
    · refine r_iconst (v := 1) hX dX4_isDate_32 (by decide) ?_
      refine r_goto (tgt := 37) hX dX4_isDate_33 (by decide) ?_
      refine r_callV hX (c_X4_isStopped _ _ _ _ _ _ _ _) kv_X4_68 14 rfl rfl rfl rfl (Nat.le_of_ble_eq_true rfl) ⟨(Nat.le_of_ble_eq_true rfl), (Nat.le_of_ble_eq_true rfl)⟩ ⟨(Nat.le_of_ble_eq_true rfl), (Nat.le_of_ble_eq_true rfl)⟩ dX4_isDate_37 (fun _ _ z => False.elim z) (fun v9 ws9 h15 => ?_)
      obtain ⟨r17, J18, nr17, etJ18, erJ18, eJ18, rfl, hw9⟩ := h15
      subst ws9
      dsimp only [mPush]
      refine r_if_ne (tgt := 57) hX dX4_isDate_40 (by decide) (fun c19 => ?_) (fun c19 => ?_)
      · refine r_iconst (v := 0) hX dX4_isDate_57 (by decide) ?_
        exact r_zret hX hE dX4_isDate_58 (mB_n (Or.inl rfl)) (Nat.le_of_ble_eq_true rfl) (Nat.le_of_ble_eq_true rfl) ⟨_, J18, (Or.inl rfl), (mWF2 eJ18 hJ), ((congrArg Prod.fst eJ18).trans rfl), rfl, rfl⟩
      · have hs20 := mnone0 nr17 (by first | exact c19 | exact Classical.not_not.mp c19)
        exact absurd hs20.1 (by decide)
  · obtain ⟨i21, hhi21, rfl⟩ := mnone0 nr3 (by first | exact c4 | exact Classical.not_not.mp c4)
    refine r_iload_n hX dX4_isDate_8 rfl rfl ?_
    refine r_callS hX (c_X4_isNone _ _ _) ks_X4_61 rfl rfl (Nat.le_of_ble_eq_true rfl) ⟨(Nat.le_of_ble_eq_true rfl), (Nat.le_of_ble_eq_true rfl)⟩ ⟨(Nat.le_of_ble_eq_true rfl), (Nat.le_of_ble_eq_true rfl)⟩ dX4_isDate_9 (fun _ _ z => False.elim z) (fun v9 ws9 h22 => ?_)
    obtain ⟨r24, nr24, rfl, hw9⟩ := h22
    subst ws9
    dsimp only [mPush]
    refine r_if_eq (tgt := 19) hX dX4_isDate_12 (by decide) (fun c25 => ?_) (fun c25 => ?_)
    · obtain ⟨i26, hhi26, rfl⟩ := mnone0 nr24 (by first | exact c25 | exact Classical.not_not.mp c25)
      refine r_iconst (v := 0) hX dX4_isDate_19 (by decide) ?_
      refine r_iload_n hX dX4_isDate_20 rfl rfl ?_
      refine r_i2l hX dX4_isDate_21 ?_
      refine r_lconst (v := 0) hX dX4_isDate_22 (by decide) ?_
      refine r_ldc2 hX kc_X4_36 dX4_isDate_23 ?_
      refine r_callS hX (c_X4_isIn _ _ _ _ _) ks_X4_38 rfl rfl (Nat.le_of_ble_eq_true rfl) ⟨(Nat.le_of_ble_eq_true rfl), (Nat.le_of_ble_eq_true rfl)⟩ ⟨(Nat.le_of_ble_eq_true rfl), (Nat.le_of_ble_eq_true rfl)⟩ dX4_isDate_26 (fun _ _ z => False.elim z) (fun v9 ws9 h27 => ?_)
      obtain ⟨rfl, hw9⟩ := h27
      subst ws9
      dsimp only [mPush]
      refine r_if_ne (tgt := 36) hX dX4_isDate_29 (by decide) (fun c29 => ?_) (fun c29 => ?_)
      · obtain ⟨i30, li30, hhi30, rfl⟩ := fwin 0 3 (by decide) (by decide) (by decide) (by decide) c29
        refine r_iconst (v := 0) hX dX4_isDate_36 (by decide) ?_
        refine r_callV hX (c_X4_isStopped _ _ _ _ _ _ _ _) kv_X4_68 14 rfl rfl rfl rfl (Nat.le_of_ble_eq_true rfl) ⟨(Nat.le_of_ble_eq_true rfl), (Nat.le_of_ble_eq_true rfl)⟩ ⟨(Nat.le_of_ble_eq_true rfl), (Nat.le_of_ble_eq_true rfl)⟩ dX4_isDate_37 (fun _ _ z => False.elim z) (fun v9 ws9 h31 => ?_)
        obtain ⟨r33, J34, nr33, etJ34, erJ34, eJ34, rfl, hw9⟩ := h31
        subst ws9
        dsimp only [mPush]
        refine r_if_ne (tgt := 57) hX dX4_isDate_40 (by decide) (fun c35 => ?_) (fun c35 => ?_)
        · refine r_iconst (v := 0) hX dX4_isDate_57 (by decide) ?_
          exact r_zret hX hE dX4_isDate_58 (mB_n (Or.inl rfl)) (Nat.le_of_ble_eq_true rfl) (Nat.le_of_ble_eq_true rfl) ⟨_, J34, (Or.inl rfl), (mWF2 eJ34 hJ), ((congrArg Prod.fst eJ34).trans rfl), rfl, rfl⟩
        · have hs36 := mnone0 nr33 (by first | exact c35 | exact Classical.not_not.mp c35)
          refine r_aload_n hX dX4_isDate_43 rfl rfl ?_
          refine r_iload_n hX dX4_isDate_44 rfl rfl ?_
          refine r_iload_n hX dX4_isDate_45 rfl rfl ?_
          refine r_iload_n hX dX4_isDate_46 rfl rfl ?_
          refine r_callV hX (c_X4_is _ _ _ _ J34 _ (mWF2 eJ34 hJ) i21 (Nat.lt_of_lt_of_le hhi21 (by decide)) i26 (Nat.lt_of_lt_of_le hhi26 (by decide)) _) kv_X4_199 14 rfl rfl rfl rfl (Nat.le_of_ble_eq_true rfl) ⟨(Nat.le_of_ble_eq_true rfl), (Nat.le_of_ble_eq_true rfl)⟩ ⟨(Nat.le_of_ble_eq_true rfl), (Nat.le_of_ble_eq_true rfl)⟩ dX4_isDate_47 (fun _ _ z => False.elim z) (fun v9 ws9 h37 => ?_)
          obtain ⟨r39, J40, br39, hJ40, oJ40, rfl, hw9⟩ := h37
          subst ws9
          dsimp only [mPush]
          refine r_if_eq (tgt := 57) hX dX4_isDate_50 (by decide) (fun c41 => ?_) (fun c41 => ?_)
          · refine r_iconst (v := 0) hX dX4_isDate_57 (by decide) ?_
            exact r_zret hX hE dX4_isDate_58 (mB_n (Or.inl rfl)) (Nat.le_of_ble_eq_true rfl) (Nat.le_of_ble_eq_true rfl) ⟨_, J40, (Or.inl rfl), hJ40, (oJ40.trans ((congrArg Prod.fst eJ34).trans rfl)), rfl, rfl⟩
          · refine r_iconst (v := 1) hX dX4_isDate_53 (by decide) ?_
            refine r_goto (tgt := 58) hX dX4_isDate_54 (by decide) ?_
            exact r_zret hX hE dX4_isDate_58 (mB_n (Or.inr rfl)) (Nat.le_of_ble_eq_true rfl) (Nat.le_of_ble_eq_true rfl) ⟨_, J40, (Or.inr rfl), hJ40, (oJ40.trans ((congrArg Prod.fst eJ34).trans rfl)), rfl, rfl⟩
      · refine r_iconst (v := 1) hX dX4_isDate_32 (by decide) ?_
        refine r_goto (tgt := 37) hX dX4_isDate_33 (by decide) ?_
        refine r_callV hX (c_X4_isStopped _ _ _ _ _ _ _ _) kv_X4_68 14 rfl rfl rfl rfl (Nat.le_of_ble_eq_true rfl) ⟨(Nat.le_of_ble_eq_true rfl), (Nat.le_of_ble_eq_true rfl)⟩ ⟨(Nat.le_of_ble_eq_true rfl), (Nat.le_of_ble_eq_true rfl)⟩ dX4_isDate_37 (fun _ _ z => False.elim z) (fun v9 ws9 h42 => ?_)
        obtain ⟨r44, J45, nr44, etJ45, erJ45, eJ45, rfl, hw9⟩ := h42
        subst ws9
        dsimp only [mPush]
        refine r_if_ne (tgt := 57) hX dX4_isDate_40 (by decide) (fun c46 => ?_) (fun c46 => ?_)
        · refine r_iconst (v := 0) hX dX4_isDate_57 (by decide) ?_
          exact r_zret hX hE dX4_isDate_58 (mB_n (Or.inl rfl)) (Nat.le_of_ble_eq_true rfl) (Nat.le_of_ble_eq_true rfl) ⟨_, J45, (Or.inl rfl), (mWF2 eJ45 hJ), ((congrArg Prod.fst eJ45).trans rfl), rfl, rfl⟩
        · have hs47 := mnone0 nr44 (by first | exact c46 | exact Classical.not_not.mp c46)
          exact absurd hs47.2 (by decide)
    · refine r_iconst (v := 1) hX dX4_isDate_15 (by decide) ?_
      refine r_goto (tgt := 20) hX dX4_isDate_16 (by decide) ?_
      refine r_iload_n hX dX4_isDate_20 rfl rfl ?_
      refine r_i2l hX dX4_isDate_21 ?_
      refine r_lconst (v := 0) hX dX4_isDate_22 (by decide) ?_
      refine r_ldc2 hX kc_X4_36 dX4_isDate_23 ?_
      refine r_callS hX (c_X4_isIn _ _ _ _ _) ks_X4_38 rfl rfl (Nat.le_of_ble_eq_true rfl) ⟨(Nat.le_of_ble_eq_true rfl), (Nat.le_of_ble_eq_true rfl)⟩ ⟨(Nat.le_of_ble_eq_true rfl), (Nat.le_of_ble_eq_true rfl)⟩ dX4_isDate_26 (fun _ _ z => False.elim z) (fun v9 ws9 h48 => ?_)
      obtain ⟨rfl, hw9⟩ := h48
      subst ws9
      dsimp only [mPush]
      refine r_if_ne (tgt := 36) hX dX4_isDate_29 (by decide) (fun c50 => ?_) (fun c50 => ?_)
      · obtain ⟨i51, li51, hhi51, rfl⟩ := fwin 0 3 (by decide) (by decide) (by decide) (by decide) c50
        refine r_iconst (v := 0) hX dX4_isDate_36 (by decide) ?_
        refine r_callV hX (c_X4_isStopped _ _ _ _ _ _ _ _) kv_X4_68 14 rfl rfl rfl rfl (Nat.le_of_ble_eq_true rfl) ⟨(Nat.le_of_ble_eq_true rfl), (Nat.le_of_ble_eq_true rfl)⟩ ⟨(Nat.le_of_ble_eq_true rfl), (Nat.le_of_ble_eq_true rfl)⟩ dX4_isDate_37 (fun _ _ z => False.elim z) (fun v9 ws9 h52 => ?_)
        obtain ⟨r54, J55, nr54, etJ55, erJ55, eJ55, rfl, hw9⟩ := h52
        subst ws9
        dsimp only [mPush]
        refine r_if_ne (tgt := 57) hX dX4_isDate_40 (by decide) (fun c56 => ?_) (fun c56 => ?_)
        · refine r_iconst (v := 0) hX dX4_isDate_57 (by decide) ?_
          exact r_zret hX hE dX4_isDate_58 (mB_n (Or.inl rfl)) (Nat.le_of_ble_eq_true rfl) (Nat.le_of_ble_eq_true rfl) ⟨_, J55, (Or.inl rfl), (mWF2 eJ55 hJ), ((congrArg Prod.fst eJ55).trans rfl), rfl, rfl⟩
        · have hs57 := mnone0 nr54 (by first | exact c56 | exact Classical.not_not.mp c56)
          exact absurd hs57.1 (by decide)
      · refine r_iconst (v := 1) hX dX4_isDate_32 (by decide) ?_
        refine r_goto (tgt := 37) hX dX4_isDate_33 (by decide) ?_
        refine r_callV hX (c_X4_isStopped _ _ _ _ _ _ _ _) kv_X4_68 14 rfl rfl rfl rfl (Nat.le_of_ble_eq_true rfl) ⟨(Nat.le_of_ble_eq_true rfl), (Nat.le_of_ble_eq_true rfl)⟩ ⟨(Nat.le_of_ble_eq_true rfl), (Nat.le_of_ble_eq_true rfl)⟩ dX4_isDate_37 (fun _ _ z => False.elim z) (fun v9 ws9 h58 => ?_)
        obtain ⟨r60, J61, nr60, etJ61, erJ61, eJ61, rfl, hw9⟩ := h58
        subst ws9
        dsimp only [mPush]
        refine r_if_ne (tgt := 57) hX dX4_isDate_40 (by decide) (fun c62 => ?_) (fun c62 => ?_)
        · refine r_iconst (v := 0) hX dX4_isDate_57 (by decide) ?_
          exact r_zret hX hE dX4_isDate_58 (mB_n (Or.inl rfl)) (Nat.le_of_ble_eq_true rfl) (Nat.le_of_ble_eq_true rfl) ⟨_, J61, (Or.inl rfl), (mWF2 eJ61 hJ), ((congrArg Prod.fst eJ61).trans rfl), rfl, rfl⟩
        · have hs63 := mnone0 nr60 (by first | exact c62 | exact Classical.not_not.mp c62)
          exact absurd hs63.1 (by decide)
theorem dX4_ofSecond_0 : decode cX4_ofSecond 0 = .ok (.aload_n 0, 1) := by decide +kernel
theorem dX4_ofSecond_1 : decode cX4_ofSecond 1 = .ok (.getfield 20, 3) := by decide +kernel
theorem dX4_ofSecond_4 : decode cX4_ofSecond 4 = .ok (.iconst 4, 1) := by decide +kernel
theorem dX4_ofSecond_5 : decode cX4_ofSecond 5 = .ok (.iload_n 1, 1) := by decide +kernel
theorem dX4_ofSecond_6 : decode cX4_ofSecond 6 = .ok (.iadd, 1) := by decide +kernel
theorem dX4_ofSecond_7 : decode cX4_ofSecond 7 = .ok (.iaload, 1) := by decide +kernel
theorem dX4_ofSecond_8 : decode cX4_ofSecond 8 = .ok (.aload_n 0, 1) := by decide +kernel
theorem dX4_ofSecond_9 : decode cX4_ofSecond 9 = .ok (.getfield 26, 3) := by decide +kernel
theorem dX4_ofSecond_12 : decode cX4_ofSecond 12 = .ok (.iconst 4, 1) := by decide +kernel
theorem dX4_ofSecond_13 : decode cX4_ofSecond 13 = .ok (.iload_n 1, 1) := by decide +kernel
theorem dX4_ofSecond_14 : decode cX4_ofSecond 14 = .ok (.iadd, 1) := by decide +kernel
theorem dX4_ofSecond_15 : decode cX4_ofSecond 15 = .ok (.iaload, 1) := by decide +kernel
theorem dX4_ofSecond_16 : decode cX4_ofSecond 16 = .ok (.isub, 1) := by decide +kernel
theorem dX4_ofSecond_17 : decode cX4_ofSecond 17 = .ok (.ireturn, 1) := by decide +kernel
set_option maxHeartbeats 4000000 in
set_option maxRecDepth 20000 in
theorem c_X4_ofSecond (ad ae : Nat → Nat) (cs : ClassId × ClassId × ClassId) (K : mK) (J : mJ) (rest : va_W) (hJ : mWF J) (j0 : Nat) (hj0 : j0 < 3) : mCt (mTy cs) yX4_ofSecond cX4_ofSecond 2 (some .int) ⟨0, 0, 0, 0⟩ [.ref (ae 0), .int (nI j0)] (mRw ad ae cs K J rest) (mZi ad ae cs K J rest) mNo := by
  refine mCt.of (by decide +kernel) (Nat.le_of_ble_eq_true rfl) (fun X hX hE => ?_)
  have hX : mOK X RX4 cX4_ofSecond 2 ⟨0, 0, 0, 0⟩ [] (mTy cs) := hX
  refine r_aload_n hX dX4_ofSecond_0 rfl rfl ?_
  refine r_get hX kf_X4_20 14 rfl rfl dX4_ofSecond_1 ?_
  refine r_iconst (v := 4) hX dX4_ofSecond_4 (by decide) ?_
  refine r_iload_n hX dX4_ofSecond_5 rfl rfl ?_
  refine r_iadd hX dX4_ofSecond_6 ?_
  rw [show (4 : Int32) + nI j0 = nI (4 + j0) from nI_add 4 j0]
  refine r_iald hX 18 0 rfl rfl (vp_in_nI (by omega) (by decide)) dX4_ofSecond_7 ?_
  refine r_aload_n hX dX4_ofSecond_8 rfl rfl ?_
  refine r_get hX kf_X4_26 14 rfl rfl dX4_ofSecond_9 ?_
  refine r_iconst (v := 4) hX dX4_ofSecond_12 (by decide) ?_
  refine r_iload_n hX dX4_ofSecond_13 rfl rfl ?_
  refine r_iadd hX dX4_ofSecond_14 ?_
  rw [show (4 : Int32) + nI j0 = nI (4 + j0) from nI_add 4 j0]
  refine r_iald hX 20 0 rfl rfl (vp_in_nI (by omega) (by decide)) dX4_ofSecond_15 ?_
  refine r_isub hX dX4_ofSecond_16 ?_
  exact r_iret hX hE dX4_ofSecond_17 (Nat.le_of_ble_eq_true rfl) (Nat.le_of_ble_eq_true rfl) ⟨_, J, hJ, rfl, rfl, rfl⟩
theorem dX4_turn_0 : decode cX4_turn 0 = .ok (.aload_n 0, 1) := by decide +kernel
theorem dX4_turn_1 : decode cX4_turn 1 = .ok (.iconst 4, 1) := by decide +kernel
theorem dX4_turn_2 : decode cX4_turn 2 = .ok (.iload_n 1, 1) := by decide +kernel
theorem dX4_turn_3 : decode cX4_turn 3 = .ok (.iadd, 1) := by decide +kernel
theorem dX4_turn_4 : decode cX4_turn 4 = .ok (.iconst 0, 1) := by decide +kernel
theorem dX4_turn_5 : decode cX4_turn 5 = .ok (.lload_n 2, 1) := by decide +kernel
theorem dX4_turn_6 : decode cX4_turn 6 = .ok (.ldc2_w 113, 3) := by decide +kernel
theorem dX4_turn_9 : decode cX4_turn 9 = .ok (.invokestatic 102, 3) := by decide +kernel
theorem dX4_turn_12 : decode cX4_turn 12 = .ok (.iload 4, 2) := by decide +kernel
theorem dX4_turn_14 : decode cX4_turn 14 = .ok (.iload 5, 2) := by decide +kernel
theorem dX4_turn_16 : decode cX4_turn 16 = .ok (.invokevirtual 139, 3) := by decide +kernel
theorem dX4_turn_19 : decode cX4_turn 19 = .ok (.pop, 1) := by decide +kernel
theorem dX4_turn_20 : decode cX4_turn 20 = .ok (.aload_n 0, 1) := by decide +kernel
theorem dX4_turn_21 : decode cX4_turn 21 = .ok (.iload_n 1, 1) := by decide +kernel
theorem dX4_turn_22 : decode cX4_turn 22 = .ok (.invokevirtual 202, 3) := by decide +kernel
theorem dX4_turn_25 : decode cX4_turn 25 = .ok (.ireturn, 1) := by decide +kernel
set_option maxHeartbeats 4000000 in
set_option maxRecDepth 20000 in
theorem c_X4_turn (ad ae : Nat → Nat) (cs : ClassId × ClassId × ClassId) (K : mK) (J : mJ) (rest : va_W) (hJ : mWF J) (j0 : Nat) (hj0 : j0 < 3) (p1 : Int64) (p2 : Int32) (p3 : Int32) : mCt (mTy cs) yX4_turn cX4_turn 6 (some .int) ⟨2, 0, 0, 46⟩ [.ref (ae 0), .int (nI j0), .long p1, .int p2, .int p3] (mRw ad ae cs K J rest) (mZi ad ae cs K J rest) mNo := by
  refine mCt.of (by decide +kernel) (Nat.le_of_ble_eq_true rfl) (fun X hX hE => ?_)
  have hX : mOK X RX4 cX4_turn 6 ⟨2, 0, 0, 46⟩ [] (mTy cs) := hX
  refine r_aload_n hX dX4_turn_0 rfl rfl ?_
  refine r_iconst (v := 4) hX dX4_turn_1 (by decide) ?_
  refine r_iload_n hX dX4_turn_2 rfl rfl ?_
  refine r_iadd hX dX4_turn_3 ?_
  rw [show (4 : Int32) + nI j0 = nI (4 + j0) from nI_add 4 j0]
  refine r_iconst (v := 0) hX dX4_turn_4 (by decide) ?_
  refine r_lload_n hX dX4_turn_5 rfl rfl ?_
  refine r_ldc2 hX kc_X4_113 dX4_turn_6 ?_
  refine r_callS hX (c_X4_rest _ _ _ _ (by decide)) ks_X4_102 rfl rfl (Nat.le_of_ble_eq_true rfl) ⟨(Nat.le_of_ble_eq_true rfl), (Nat.le_of_ble_eq_true rfl)⟩ ⟨(Nat.le_of_ble_eq_true rfl), (Nat.le_of_ble_eq_true rfl)⟩ dX4_turn_9 (fun _ _ z => False.elim z) (fun v9 ws9 h1 => ?_)
  obtain ⟨r3, rfl, hw9⟩ := h1
  subst ws9
  dsimp only [mPush]
  refine r_iload hX dX4_turn_12 rfl ?_
  refine r_iload hX dX4_turn_14 rfl ?_
  refine r_callV hX (c_X4_put _ _ _ _ J _ hJ (4 + j0) (by omega) _ _ _ _ ⟨0, by decide, by decide, by decide⟩) kv_X4_139 14 rfl rfl rfl rfl (Nat.le_of_ble_eq_true rfl) ⟨(Nat.le_of_ble_eq_true rfl), (Nat.le_of_ble_eq_true rfl)⟩ ⟨(Nat.le_of_ble_eq_true rfl), (Nat.le_of_ble_eq_true rfl)⟩ dX4_turn_16 (fun _ _ z => False.elim z) (fun v9 ws9 h4 => ?_)
  obtain ⟨r6, J7, hJ7, oJ7, rfl, hw9⟩ := h4
  subst ws9
  dsimp only [mPush]
  refine r_pop hX dX4_turn_19 rfl ?_
  refine r_aload_n hX dX4_turn_20 rfl rfl ?_
  refine r_iload_n hX dX4_turn_21 rfl rfl ?_
  refine r_callV hX (c_X4_ofSecond _ _ _ _ J7 _ hJ7 j0 hj0) kv_X4_202 14 rfl rfl rfl rfl (Nat.le_of_ble_eq_true rfl) ⟨(Nat.le_of_ble_eq_true rfl), (Nat.le_of_ble_eq_true rfl)⟩ ⟨(Nat.le_of_ble_eq_true rfl), (Nat.le_of_ble_eq_true rfl)⟩ dX4_turn_22 (fun _ _ z => False.elim z) (fun v9 ws9 h8 => ?_)
  obtain ⟨r10, J11, hJ11, oJ11, rfl, hw9⟩ := h8
  subst ws9
  dsimp only [mPush]
  exact r_iret hX hE dX4_turn_25 (Nat.le_of_ble_eq_true rfl) (Nat.le_of_ble_eq_true rfl) ⟨_, J11, hJ11, (oJ11.trans (oJ7.trans rfl)), rfl, rfl⟩
theorem dX4_clock_0 : decode cX4_clock 0 = .ok (.aload_n 0, 1) := by decide +kernel
theorem dX4_clock_1 : decode cX4_clock 1 = .ok (.iload_n 1, 1) := by decide +kernel
theorem dX4_clock_2 : decode cX4_clock 2 = .ok (.invokestatic 205, 3) := by decide +kernel
theorem dX4_clock_5 : decode cX4_clock 5 = .ok (.ifCond .ne 11, 3) := by decide +kernel
theorem dX4_clock_8 : decode cX4_clock 8 = .ok (.iload 4, 2) := by decide +kernel
theorem dX4_clock_10 : decode cX4_clock 10 = .ok (.invokestatic 61, 3) := by decide +kernel
theorem dX4_clock_13 : decode cX4_clock 13 = .ok (.ifCond .eq 7, 3) := by decide +kernel
theorem dX4_clock_16 : decode cX4_clock 16 = .ok (.iconst 1, 1) := by decide +kernel
theorem dX4_clock_17 : decode cX4_clock 17 = .ok (.goto 4, 3) := by decide +kernel
theorem dX4_clock_20 : decode cX4_clock 20 = .ok (.iconst 0, 1) := by decide +kernel
theorem dX4_clock_21 : decode cX4_clock 21 = .ok (.iload_n 2, 1) := by decide +kernel
theorem dX4_clock_22 : decode cX4_clock 22 = .ok (.iload_n 3, 1) := by decide +kernel
theorem dX4_clock_23 : decode cX4_clock 23 = .ok (.invokestatic 155, 3) := by decide +kernel
theorem dX4_clock_26 : decode cX4_clock 26 = .ok (.ifCond .ne 7, 3) := by decide +kernel
theorem dX4_clock_29 : decode cX4_clock 29 = .ok (.iconst 1, 1) := by decide +kernel
theorem dX4_clock_30 : decode cX4_clock 30 = .ok (.goto 4, 3) := by decide +kernel
theorem dX4_clock_33 : decode cX4_clock 33 = .ok (.iconst 0, 1) := by decide +kernel
theorem dX4_clock_34 : decode cX4_clock 34 = .ok (.invokevirtual 68, 3) := by decide +kernel
theorem dX4_clock_37 : decode cX4_clock 37 = .ok (.ifCond .eq 7, 3) := by decide +kernel
theorem dX4_clock_40 : decode cX4_clock 40 = .ok (.iconst 0, 1) := by decide +kernel
theorem dX4_clock_41 : decode cX4_clock 41 = .ok (.goto 18, 3) := by decide +kernel
theorem dX4_clock_44 : decode cX4_clock 44 = .ok (.aload_n 0, 1) := by decide +kernel
theorem dX4_clock_45 : decode cX4_clock 45 = .ok (.iload_n 1, 1) := by decide +kernel
theorem dX4_clock_46 : decode cX4_clock 46 = .ok (.iload_n 2, 1) := by decide +kernel
theorem dX4_clock_47 : decode cX4_clock 47 = .ok (.i2l, 1) := by decide +kernel
theorem dX4_clock_48 : decode cX4_clock 48 = .ok (.iload_n 3, 1) := by decide +kernel
theorem dX4_clock_49 : decode cX4_clock 49 = .ok (.aload_n 0, 1) := by decide +kernel
theorem dX4_clock_50 : decode cX4_clock 50 = .ok (.getfield 7, 3) := by decide +kernel
theorem dX4_clock_53 : decode cX4_clock 53 = .ok (.iload 4, 2) := by decide +kernel
theorem dX4_clock_55 : decode cX4_clock 55 = .ok (.iaload, 1) := by decide +kernel
theorem dX4_clock_56 : decode cX4_clock 56 = .ok (.invokevirtual 208, 3) := by decide +kernel
theorem dX4_clock_59 : decode cX4_clock 59 = .ok (.ireturn, 1) := by decide +kernel
set_option maxHeartbeats 4000000 in
set_option maxRecDepth 20000 in
theorem c_X4_clock (ad ae : Nat → Nat) (cs : ClassId × ClassId × ClassId) (K : mK) (J : mJ) (rest : va_W) (hJ : mWF J) (p0 : Int32) (p1 : Int32) (p2 : Int32) (p3 : Int32) : mCt (mTy cs) yX4_clock cX4_clock 5 (some .int) ⟨3, 0, 0, 71⟩ [.ref (ae 0), .int p0, .int p1, .int p2, .int p3] (mRw ad ae cs K J rest) (mZi ad ae cs K J rest) mNo := by
  refine mCt.of (by decide +kernel) (Nat.le_of_ble_eq_true rfl) (fun X hX hE => ?_)
  have hX : mOK X RX4 cX4_clock 5 ⟨3, 0, 0, 71⟩ [] (mTy cs) := hX
  refine r_aload_n hX dX4_clock_0 rfl rfl ?_
  refine r_iload_n hX dX4_clock_1 rfl rfl ?_
  refine r_callS hX (c_X4_isNoClock _ _ _) ks_X4_205 rfl rfl (Nat.le_of_ble_eq_true rfl) ⟨(Nat.le_of_ble_eq_true rfl), (Nat.le_of_ble_eq_true rfl)⟩ ⟨(Nat.le_of_ble_eq_true rfl), (Nat.le_of_ble_eq_true rfl)⟩ dX4_clock_2 (fun _ _ z => False.elim z) (fun v9 ws9 h1 => ?_)
  obtain ⟨r3, nr3, rfl, hw9⟩ := h1
  subst ws9
  dsimp only [mPush]
  refine r_if_ne (tgt := 16) hX dX4_clock_5 (by decide) (fun c4 => ?_) (fun c4 => ?_)
  · refine r_iconst (v := 1) hX dX4_clock_16 (by decide) ?_
    refine r_goto (tgt := 21) hX dX4_clock_17 (by decide) ?_
    refine r_iload_n hX dX4_clock_21 rfl rfl ?_
    refine r_iload_n hX dX4_clock_22 rfl rfl ?_
    refine r_callS hX (c_X4_isTime _ _ _ _) ks_X4_155 rfl rfl (Nat.le_of_ble_eq_true rfl) ⟨(Nat.le_of_ble_eq_true rfl), (Nat.le_of_ble_eq_true rfl)⟩ ⟨(Nat.le_of_ble_eq_true rfl), (Nat.le_of_ble_eq_true rfl)⟩ dX4_clock_23 (fun _ _ z => False.elim z) (fun v9 ws9 h5 => ?_)
    obtain ⟨r7, br7, rfl, hw9⟩ := h5
    subst ws9
    dsimp only [mPush]
    refine r_if_ne (tgt := 33) hX dX4_clock_26 (by decide) (fun c8 => ?_) (fun c8 => ?_)
    · refine r_iconst (v := 0) hX dX4_clock_33 (by decide) ?_
      refine r_callV hX (c_X4_isStopped _ _ _ _ _ _ _ _) kv_X4_68 14 rfl rfl rfl rfl (Nat.le_of_ble_eq_true rfl) ⟨(Nat.le_of_ble_eq_true rfl), (Nat.le_of_ble_eq_true rfl)⟩ ⟨(Nat.le_of_ble_eq_true rfl), (Nat.le_of_ble_eq_true rfl)⟩ dX4_clock_34 (fun _ _ z => False.elim z) (fun v9 ws9 h9 => ?_)
      obtain ⟨r11, J12, nr11, etJ12, erJ12, eJ12, rfl, hw9⟩ := h9
      subst ws9
      dsimp only [mPush]
      refine r_if_eq (tgt := 44) hX dX4_clock_37 (by decide) (fun c13 => ?_) (fun c13 => ?_)
      · have hs14 := mnone0 nr11 (by first | exact c13 | exact Classical.not_not.mp c13)
        exact absurd hs14.1 (by decide)
      · refine r_iconst (v := 0) hX dX4_clock_40 (by decide) ?_
        refine r_goto (tgt := 59) hX dX4_clock_41 (by decide) ?_
        exact r_iret hX hE dX4_clock_59 (Nat.le_of_ble_eq_true rfl) (Nat.le_of_ble_eq_true rfl) ⟨_, J12, (mWF2 eJ12 hJ), ((congrArg Prod.fst eJ12).trans rfl), rfl, rfl⟩
    · refine r_iconst (v := 1) hX dX4_clock_29 (by decide) ?_
      refine r_goto (tgt := 34) hX dX4_clock_30 (by decide) ?_
      refine r_callV hX (c_X4_isStopped _ _ _ _ _ _ _ _) kv_X4_68 14 rfl rfl rfl rfl (Nat.le_of_ble_eq_true rfl) ⟨(Nat.le_of_ble_eq_true rfl), (Nat.le_of_ble_eq_true rfl)⟩ ⟨(Nat.le_of_ble_eq_true rfl), (Nat.le_of_ble_eq_true rfl)⟩ dX4_clock_34 (fun _ _ z => False.elim z) (fun v9 ws9 h15 => ?_)
      obtain ⟨r17, J18, nr17, etJ18, erJ18, eJ18, rfl, hw9⟩ := h15
      subst ws9
      dsimp only [mPush]
      refine r_if_eq (tgt := 44) hX dX4_clock_37 (by decide) (fun c19 => ?_) (fun c19 => ?_)
      · have hs20 := mnone0 nr17 (by first | exact c19 | exact Classical.not_not.mp c19)
        exact absurd hs20.1 (by decide)
      · refine r_iconst (v := 0) hX dX4_clock_40 (by decide) ?_
        refine r_goto (tgt := 59) hX dX4_clock_41 (by decide) ?_
        exact r_iret hX hE dX4_clock_59 (Nat.le_of_ble_eq_true rfl) (Nat.le_of_ble_eq_true rfl) ⟨_, J18, (mWF2 eJ18 hJ), ((congrArg Prod.fst eJ18).trans rfl), rfl, rfl⟩
  · obtain ⟨i21, hhi21, rfl⟩ := mnone0 nr3 (by first | exact c4 | exact Classical.not_not.mp c4)
    refine r_iload hX dX4_clock_8 rfl ?_
    refine r_callS hX (c_X4_isNone _ _ _) ks_X4_61 rfl rfl (Nat.le_of_ble_eq_true rfl) ⟨(Nat.le_of_ble_eq_true rfl), (Nat.le_of_ble_eq_true rfl)⟩ ⟨(Nat.le_of_ble_eq_true rfl), (Nat.le_of_ble_eq_true rfl)⟩ dX4_clock_10 (fun _ _ z => False.elim z) (fun v9 ws9 h22 => ?_)
    obtain ⟨r24, nr24, rfl, hw9⟩ := h22
    subst ws9
    dsimp only [mPush]
    refine r_if_eq (tgt := 20) hX dX4_clock_13 (by decide) (fun c25 => ?_) (fun c25 => ?_)
    · obtain ⟨i26, hhi26, rfl⟩ := mnone0 nr24 (by first | exact c25 | exact Classical.not_not.mp c25)
      refine r_iconst (v := 0) hX dX4_clock_20 (by decide) ?_
      refine r_iload_n hX dX4_clock_21 rfl rfl ?_
      refine r_iload_n hX dX4_clock_22 rfl rfl ?_
      refine r_callS hX (c_X4_isTime _ _ _ _) ks_X4_155 rfl rfl (Nat.le_of_ble_eq_true rfl) ⟨(Nat.le_of_ble_eq_true rfl), (Nat.le_of_ble_eq_true rfl)⟩ ⟨(Nat.le_of_ble_eq_true rfl), (Nat.le_of_ble_eq_true rfl)⟩ dX4_clock_23 (fun _ _ z => False.elim z) (fun v9 ws9 h27 => ?_)
      obtain ⟨r29, br29, rfl, hw9⟩ := h27
      subst ws9
      dsimp only [mPush]
      refine r_if_ne (tgt := 33) hX dX4_clock_26 (by decide) (fun c30 => ?_) (fun c30 => ?_)
      · refine r_iconst (v := 0) hX dX4_clock_33 (by decide) ?_
        refine r_callV hX (c_X4_isStopped _ _ _ _ _ _ _ _) kv_X4_68 14 rfl rfl rfl rfl (Nat.le_of_ble_eq_true rfl) ⟨(Nat.le_of_ble_eq_true rfl), (Nat.le_of_ble_eq_true rfl)⟩ ⟨(Nat.le_of_ble_eq_true rfl), (Nat.le_of_ble_eq_true rfl)⟩ dX4_clock_34 (fun _ _ z => False.elim z) (fun v9 ws9 h31 => ?_)
        obtain ⟨r33, J34, nr33, etJ34, erJ34, eJ34, rfl, hw9⟩ := h31
        subst ws9
        dsimp only [mPush]
        refine r_if_eq (tgt := 44) hX dX4_clock_37 (by decide) (fun c35 => ?_) (fun c35 => ?_)
        · have hs36 := mnone0 nr33 (by first | exact c35 | exact Classical.not_not.mp c35)
          refine r_aload_n hX dX4_clock_44 rfl rfl ?_
          refine r_iload_n hX dX4_clock_45 rfl rfl ?_
          refine r_iload_n hX dX4_clock_46 rfl rfl ?_
          refine r_i2l hX dX4_clock_47 ?_
          refine r_iload_n hX dX4_clock_48 rfl rfl ?_
          refine r_aload_n hX dX4_clock_49 rfl rfl ?_
          refine r_get hX kf_X4_7 14 rfl rfl dX4_clock_50 ?_
          refine r_iload hX dX4_clock_53 rfl ?_
          refine r_iald hX 15 0 rfl rfl (vp_in_nI hhi26 (by decide)) dX4_clock_55 ?_
          refine r_callV hX (c_X4_turn _ _ _ _ J34 _ (mWF2 eJ34 hJ) i21 hhi21 _ _ _) kv_X4_208 14 rfl rfl rfl rfl (Nat.le_of_ble_eq_true rfl) ⟨(Nat.le_of_ble_eq_true rfl), (Nat.le_of_ble_eq_true rfl)⟩ ⟨(Nat.le_of_ble_eq_true rfl), (Nat.le_of_ble_eq_true rfl)⟩ dX4_clock_56 (fun _ _ z => False.elim z) (fun v9 ws9 h37 => ?_)
          obtain ⟨r39, J40, hJ40, oJ40, rfl, hw9⟩ := h37
          subst ws9
          dsimp only [mPush]
          exact r_iret hX hE dX4_clock_59 (Nat.le_of_ble_eq_true rfl) (Nat.le_of_ble_eq_true rfl) ⟨_, J40, hJ40, (oJ40.trans ((congrArg Prod.fst eJ34).trans rfl)), rfl, rfl⟩
        · refine r_iconst (v := 0) hX dX4_clock_40 (by decide) ?_
          refine r_goto (tgt := 59) hX dX4_clock_41 (by decide) ?_
          exact r_iret hX hE dX4_clock_59 (Nat.le_of_ble_eq_true rfl) (Nat.le_of_ble_eq_true rfl) ⟨_, J34, (mWF2 eJ34 hJ), ((congrArg Prod.fst eJ34).trans rfl), rfl, rfl⟩
      · refine r_iconst (v := 1) hX dX4_clock_29 (by decide) ?_
        refine r_goto (tgt := 34) hX dX4_clock_30 (by decide) ?_
        refine r_callV hX (c_X4_isStopped _ _ _ _ _ _ _ _) kv_X4_68 14 rfl rfl rfl rfl (Nat.le_of_ble_eq_true rfl) ⟨(Nat.le_of_ble_eq_true rfl), (Nat.le_of_ble_eq_true rfl)⟩ ⟨(Nat.le_of_ble_eq_true rfl), (Nat.le_of_ble_eq_true rfl)⟩ dX4_clock_34 (fun _ _ z => False.elim z) (fun v9 ws9 h41 => ?_)
        obtain ⟨r43, J44, nr43, etJ44, erJ44, eJ44, rfl, hw9⟩ := h41
        subst ws9
        dsimp only [mPush]
        refine r_if_eq (tgt := 44) hX dX4_clock_37 (by decide) (fun c45 => ?_) (fun c45 => ?_)
        · have hs46 := mnone0 nr43 (by first | exact c45 | exact Classical.not_not.mp c45)
          exact absurd hs46.2 (by decide)
        · refine r_iconst (v := 0) hX dX4_clock_40 (by decide) ?_
          refine r_goto (tgt := 59) hX dX4_clock_41 (by decide) ?_
          exact r_iret hX hE dX4_clock_59 (Nat.le_of_ble_eq_true rfl) (Nat.le_of_ble_eq_true rfl) ⟨_, J44, (mWF2 eJ44 hJ), ((congrArg Prod.fst eJ44).trans rfl), rfl, rfl⟩
    · refine r_iconst (v := 1) hX dX4_clock_16 (by decide) ?_
      refine r_goto (tgt := 21) hX dX4_clock_17 (by decide) ?_
      refine r_iload_n hX dX4_clock_21 rfl rfl ?_
      refine r_iload_n hX dX4_clock_22 rfl rfl ?_
      refine r_callS hX (c_X4_isTime _ _ _ _) ks_X4_155 rfl rfl (Nat.le_of_ble_eq_true rfl) ⟨(Nat.le_of_ble_eq_true rfl), (Nat.le_of_ble_eq_true rfl)⟩ ⟨(Nat.le_of_ble_eq_true rfl), (Nat.le_of_ble_eq_true rfl)⟩ dX4_clock_23 (fun _ _ z => False.elim z) (fun v9 ws9 h47 => ?_)
      obtain ⟨r49, br49, rfl, hw9⟩ := h47
      subst ws9
      dsimp only [mPush]
      refine r_if_ne (tgt := 33) hX dX4_clock_26 (by decide) (fun c50 => ?_) (fun c50 => ?_)
      · refine r_iconst (v := 0) hX dX4_clock_33 (by decide) ?_
        refine r_callV hX (c_X4_isStopped _ _ _ _ _ _ _ _) kv_X4_68 14 rfl rfl rfl rfl (Nat.le_of_ble_eq_true rfl) ⟨(Nat.le_of_ble_eq_true rfl), (Nat.le_of_ble_eq_true rfl)⟩ ⟨(Nat.le_of_ble_eq_true rfl), (Nat.le_of_ble_eq_true rfl)⟩ dX4_clock_34 (fun _ _ z => False.elim z) (fun v9 ws9 h51 => ?_)
        obtain ⟨r53, J54, nr53, etJ54, erJ54, eJ54, rfl, hw9⟩ := h51
        subst ws9
        dsimp only [mPush]
        refine r_if_eq (tgt := 44) hX dX4_clock_37 (by decide) (fun c55 => ?_) (fun c55 => ?_)
        · have hs56 := mnone0 nr53 (by first | exact c55 | exact Classical.not_not.mp c55)
          exact absurd hs56.1 (by decide)
        · refine r_iconst (v := 0) hX dX4_clock_40 (by decide) ?_
          refine r_goto (tgt := 59) hX dX4_clock_41 (by decide) ?_
          exact r_iret hX hE dX4_clock_59 (Nat.le_of_ble_eq_true rfl) (Nat.le_of_ble_eq_true rfl) ⟨_, J54, (mWF2 eJ54 hJ), ((congrArg Prod.fst eJ54).trans rfl), rfl, rfl⟩
      · refine r_iconst (v := 1) hX dX4_clock_29 (by decide) ?_
        refine r_goto (tgt := 34) hX dX4_clock_30 (by decide) ?_
        refine r_callV hX (c_X4_isStopped _ _ _ _ _ _ _ _) kv_X4_68 14 rfl rfl rfl rfl (Nat.le_of_ble_eq_true rfl) ⟨(Nat.le_of_ble_eq_true rfl), (Nat.le_of_ble_eq_true rfl)⟩ ⟨(Nat.le_of_ble_eq_true rfl), (Nat.le_of_ble_eq_true rfl)⟩ dX4_clock_34 (fun _ _ z => False.elim z) (fun v9 ws9 h57 => ?_)
        obtain ⟨r59, J60, nr59, etJ60, erJ60, eJ60, rfl, hw9⟩ := h57
        subst ws9
        dsimp only [mPush]
        refine r_if_eq (tgt := 44) hX dX4_clock_37 (by decide) (fun c61 => ?_) (fun c61 => ?_)
        · have hs62 := mnone0 nr59 (by first | exact c61 | exact Classical.not_not.mp c61)
          exact absurd hs62.1 (by decide)
        · refine r_iconst (v := 0) hX dX4_clock_40 (by decide) ?_
          refine r_goto (tgt := 59) hX dX4_clock_41 (by decide) ?_
          exact r_iret hX hE dX4_clock_59 (Nat.le_of_ble_eq_true rfl) (Nat.le_of_ble_eq_true rfl) ⟨_, J60, (mWF2 eJ60 hJ), ((congrArg Prod.fst eJ60).trans rfl), rfl, rfl⟩
theorem dX4_clockOf_0 : decode cX4_clockOf 0 = .ok (.aload_n 0, 1) := by decide +kernel
theorem dX4_clockOf_1 : decode cX4_clockOf 1 = .ok (.iload_n 1, 1) := by decide +kernel
theorem dX4_clockOf_2 : decode cX4_clockOf 2 = .ok (.invokestatic 205, 3) := by decide +kernel
theorem dX4_clockOf_5 : decode cX4_clockOf 5 = .ok (.ifCond .ne 10, 3) := by decide +kernel
theorem dX4_clockOf_8 : decode cX4_clockOf 8 = .ok (.iload_n 2, 1) := by decide +kernel
theorem dX4_clockOf_9 : decode cX4_clockOf 9 = .ok (.invokestatic 61, 3) := by decide +kernel
theorem dX4_clockOf_12 : decode cX4_clockOf 12 = .ok (.ifCond .eq 7, 3) := by decide +kernel
theorem dX4_clockOf_15 : decode cX4_clockOf 15 = .ok (.iconst 1, 1) := by decide +kernel
theorem dX4_clockOf_16 : decode cX4_clockOf 16 = .ok (.goto 4, 3) := by decide +kernel
theorem dX4_clockOf_19 : decode cX4_clockOf 19 = .ok (.iconst 0, 1) := by decide +kernel
theorem dX4_clockOf_20 : decode cX4_clockOf 20 = .ok (.iconst 0, 1) := by decide +kernel
theorem dX4_clockOf_21 : decode cX4_clockOf 21 = .ok (.invokevirtual 68, 3) := by decide +kernel
theorem dX4_clockOf_24 : decode cX4_clockOf 24 = .ok (.ifCond .eq 7, 3) := by decide +kernel
theorem dX4_clockOf_27 : decode cX4_clockOf 27 = .ok (.iconst 0, 1) := by decide +kernel
theorem dX4_clockOf_28 : decode cX4_clockOf 28 = .ok (.goto 27, 3) := by decide +kernel
theorem dX4_clockOf_31 : decode cX4_clockOf 31 = .ok (.aload_n 0, 1) := by decide +kernel
theorem dX4_clockOf_32 : decode cX4_clockOf 32 = .ok (.iload_n 1, 1) := by decide +kernel
theorem dX4_clockOf_33 : decode cX4_clockOf 33 = .ok (.aload_n 0, 1) := by decide +kernel
theorem dX4_clockOf_34 : decode cX4_clockOf 34 = .ok (.getfield 20, 3) := by decide +kernel
theorem dX4_clockOf_37 : decode cX4_clockOf 37 = .ok (.iload_n 2, 1) := by decide +kernel
theorem dX4_clockOf_38 : decode cX4_clockOf 38 = .ok (.iaload, 1) := by decide +kernel
theorem dX4_clockOf_39 : decode cX4_clockOf 39 = .ok (.i2l, 1) := by decide +kernel
theorem dX4_clockOf_40 : decode cX4_clockOf 40 = .ok (.aload_n 0, 1) := by decide +kernel
theorem dX4_clockOf_41 : decode cX4_clockOf 41 = .ok (.getfield 23, 3) := by decide +kernel
theorem dX4_clockOf_44 : decode cX4_clockOf 44 = .ok (.iload_n 2, 1) := by decide +kernel
theorem dX4_clockOf_45 : decode cX4_clockOf 45 = .ok (.iaload, 1) := by decide +kernel
theorem dX4_clockOf_46 : decode cX4_clockOf 46 = .ok (.aload_n 0, 1) := by decide +kernel
theorem dX4_clockOf_47 : decode cX4_clockOf 47 = .ok (.getfield 26, 3) := by decide +kernel
theorem dX4_clockOf_50 : decode cX4_clockOf 50 = .ok (.iload_n 2, 1) := by decide +kernel
theorem dX4_clockOf_51 : decode cX4_clockOf 51 = .ok (.iaload, 1) := by decide +kernel
theorem dX4_clockOf_52 : decode cX4_clockOf 52 = .ok (.invokevirtual 208, 3) := by decide +kernel
theorem dX4_clockOf_55 : decode cX4_clockOf 55 = .ok (.ireturn, 1) := by decide +kernel
set_option maxHeartbeats 4000000 in
set_option maxRecDepth 20000 in
theorem c_X4_clockOf (ad ae : Nat → Nat) (cs : ClassId × ClassId × ClassId) (K : mK) (J : mJ) (rest : va_W) (hJ : mWF J) (p0 : Int32) (p1 : Int32) : mCt (mTy cs) yX4_clockOf cX4_clockOf 3 (some .int) ⟨3, 0, 0, 71⟩ [.ref (ae 0), .int p0, .int p1] (mRw ad ae cs K J rest) (mZi ad ae cs K J rest) mNo := by
  refine mCt.of (by decide +kernel) (Nat.le_of_ble_eq_true rfl) (fun X hX hE => ?_)
  have hX : mOK X RX4 cX4_clockOf 3 ⟨3, 0, 0, 71⟩ [] (mTy cs) := hX
  refine r_aload_n hX dX4_clockOf_0 rfl rfl ?_
  refine r_iload_n hX dX4_clockOf_1 rfl rfl ?_
  refine r_callS hX (c_X4_isNoClock _ _ _) ks_X4_205 rfl rfl (Nat.le_of_ble_eq_true rfl) ⟨(Nat.le_of_ble_eq_true rfl), (Nat.le_of_ble_eq_true rfl)⟩ ⟨(Nat.le_of_ble_eq_true rfl), (Nat.le_of_ble_eq_true rfl)⟩ dX4_clockOf_2 (fun _ _ z => False.elim z) (fun v9 ws9 h1 => ?_)
  obtain ⟨r3, nr3, rfl, hw9⟩ := h1
  subst ws9
  dsimp only [mPush]
  refine r_if_ne (tgt := 15) hX dX4_clockOf_5 (by decide) (fun c4 => ?_) (fun c4 => ?_)
  · refine r_iconst (v := 1) hX dX4_clockOf_15 (by decide) ?_
    refine r_goto (tgt := 20) hX dX4_clockOf_16 (by decide) ?_
    refine r_iconst (v := 0) hX dX4_clockOf_20 (by decide) ?_
    refine r_callV hX (c_X4_isStopped _ _ _ _ _ _ _ _) kv_X4_68 14 rfl rfl rfl rfl (Nat.le_of_ble_eq_true rfl) ⟨(Nat.le_of_ble_eq_true rfl), (Nat.le_of_ble_eq_true rfl)⟩ ⟨(Nat.le_of_ble_eq_true rfl), (Nat.le_of_ble_eq_true rfl)⟩ dX4_clockOf_21 (fun _ _ z => False.elim z) (fun v9 ws9 h5 => ?_)
    obtain ⟨r7, J8, nr7, etJ8, erJ8, eJ8, rfl, hw9⟩ := h5
    subst ws9
    dsimp only [mPush]
    refine r_if_eq (tgt := 31) hX dX4_clockOf_24 (by decide) (fun c9 => ?_) (fun c9 => ?_)
    · have hs10 := mnone0 nr7 (by first | exact c9 | exact Classical.not_not.mp c9)
      exact absurd hs10.1 (by decide)
    · refine r_iconst (v := 0) hX dX4_clockOf_27 (by decide) ?_
      refine r_goto (tgt := 55) hX dX4_clockOf_28 (by decide) ?_
      exact r_iret hX hE dX4_clockOf_55 (Nat.le_of_ble_eq_true rfl) (Nat.le_of_ble_eq_true rfl) ⟨_, J8, (mWF2 eJ8 hJ), ((congrArg Prod.fst eJ8).trans rfl), rfl, rfl⟩
  · obtain ⟨i11, hhi11, rfl⟩ := mnone0 nr3 (by first | exact c4 | exact Classical.not_not.mp c4)
    refine r_iload_n hX dX4_clockOf_8 rfl rfl ?_
    refine r_callS hX (c_X4_isNone _ _ _) ks_X4_61 rfl rfl (Nat.le_of_ble_eq_true rfl) ⟨(Nat.le_of_ble_eq_true rfl), (Nat.le_of_ble_eq_true rfl)⟩ ⟨(Nat.le_of_ble_eq_true rfl), (Nat.le_of_ble_eq_true rfl)⟩ dX4_clockOf_9 (fun _ _ z => False.elim z) (fun v9 ws9 h12 => ?_)
    obtain ⟨r14, nr14, rfl, hw9⟩ := h12
    subst ws9
    dsimp only [mPush]
    refine r_if_eq (tgt := 19) hX dX4_clockOf_12 (by decide) (fun c15 => ?_) (fun c15 => ?_)
    · obtain ⟨i16, hhi16, rfl⟩ := mnone0 nr14 (by first | exact c15 | exact Classical.not_not.mp c15)
      refine r_iconst (v := 0) hX dX4_clockOf_19 (by decide) ?_
      refine r_iconst (v := 0) hX dX4_clockOf_20 (by decide) ?_
      refine r_callV hX (c_X4_isStopped _ _ _ _ _ _ _ _) kv_X4_68 14 rfl rfl rfl rfl (Nat.le_of_ble_eq_true rfl) ⟨(Nat.le_of_ble_eq_true rfl), (Nat.le_of_ble_eq_true rfl)⟩ ⟨(Nat.le_of_ble_eq_true rfl), (Nat.le_of_ble_eq_true rfl)⟩ dX4_clockOf_21 (fun _ _ z => False.elim z) (fun v9 ws9 h17 => ?_)
      obtain ⟨r19, J20, nr19, etJ20, erJ20, eJ20, rfl, hw9⟩ := h17
      subst ws9
      dsimp only [mPush]
      refine r_if_eq (tgt := 31) hX dX4_clockOf_24 (by decide) (fun c21 => ?_) (fun c21 => ?_)
      · have hs22 := mnone0 nr19 (by first | exact c21 | exact Classical.not_not.mp c21)
        refine r_aload_n hX dX4_clockOf_31 rfl rfl ?_
        refine r_iload_n hX dX4_clockOf_32 rfl rfl ?_
        refine r_aload_n hX dX4_clockOf_33 rfl rfl ?_
        refine r_get hX kf_X4_20 14 rfl rfl dX4_clockOf_34 ?_
        refine r_iload_n hX dX4_clockOf_37 rfl rfl ?_
        refine r_iald hX 18 0 rfl rfl (vp_in_nI (Nat.lt_of_lt_of_le hhi16 (by decide)) (by decide)) dX4_clockOf_38 ?_
        refine r_i2l hX dX4_clockOf_39 ?_
        refine r_aload_n hX dX4_clockOf_40 rfl rfl ?_
        refine r_get hX kf_X4_23 14 rfl rfl dX4_clockOf_41 ?_
        refine r_iload_n hX dX4_clockOf_44 rfl rfl ?_
        refine r_iald hX 19 0 rfl rfl (vp_in_nI (Nat.lt_of_lt_of_le hhi16 (by decide)) (by decide)) dX4_clockOf_45 ?_
        refine r_aload_n hX dX4_clockOf_46 rfl rfl ?_
        refine r_get hX kf_X4_26 14 rfl rfl dX4_clockOf_47 ?_
        refine r_iload_n hX dX4_clockOf_50 rfl rfl ?_
        refine r_iald hX 20 0 rfl rfl (vp_in_nI (Nat.lt_of_lt_of_le hhi16 (by decide)) (by decide)) dX4_clockOf_51 ?_
        refine r_callV hX (c_X4_turn _ _ _ _ J20 _ (mWF2 eJ20 hJ) i11 hhi11 _ _ _) kv_X4_208 14 rfl rfl rfl rfl (Nat.le_of_ble_eq_true rfl) ⟨(Nat.le_of_ble_eq_true rfl), (Nat.le_of_ble_eq_true rfl)⟩ ⟨(Nat.le_of_ble_eq_true rfl), (Nat.le_of_ble_eq_true rfl)⟩ dX4_clockOf_52 (fun _ _ z => False.elim z) (fun v9 ws9 h23 => ?_)
        obtain ⟨r25, J26, hJ26, oJ26, rfl, hw9⟩ := h23
        subst ws9
        dsimp only [mPush]
        exact r_iret hX hE dX4_clockOf_55 (Nat.le_of_ble_eq_true rfl) (Nat.le_of_ble_eq_true rfl) ⟨_, J26, hJ26, (oJ26.trans ((congrArg Prod.fst eJ20).trans rfl)), rfl, rfl⟩
      · refine r_iconst (v := 0) hX dX4_clockOf_27 (by decide) ?_
        refine r_goto (tgt := 55) hX dX4_clockOf_28 (by decide) ?_
        exact r_iret hX hE dX4_clockOf_55 (Nat.le_of_ble_eq_true rfl) (Nat.le_of_ble_eq_true rfl) ⟨_, J20, (mWF2 eJ20 hJ), ((congrArg Prod.fst eJ20).trans rfl), rfl, rfl⟩
    · refine r_iconst (v := 1) hX dX4_clockOf_15 (by decide) ?_
      refine r_goto (tgt := 20) hX dX4_clockOf_16 (by decide) ?_
      refine r_iconst (v := 0) hX dX4_clockOf_20 (by decide) ?_
      refine r_callV hX (c_X4_isStopped _ _ _ _ _ _ _ _) kv_X4_68 14 rfl rfl rfl rfl (Nat.le_of_ble_eq_true rfl) ⟨(Nat.le_of_ble_eq_true rfl), (Nat.le_of_ble_eq_true rfl)⟩ ⟨(Nat.le_of_ble_eq_true rfl), (Nat.le_of_ble_eq_true rfl)⟩ dX4_clockOf_21 (fun _ _ z => False.elim z) (fun v9 ws9 h27 => ?_)
      obtain ⟨r29, J30, nr29, etJ30, erJ30, eJ30, rfl, hw9⟩ := h27
      subst ws9
      dsimp only [mPush]
      refine r_if_eq (tgt := 31) hX dX4_clockOf_24 (by decide) (fun c31 => ?_) (fun c31 => ?_)
      · have hs32 := mnone0 nr29 (by first | exact c31 | exact Classical.not_not.mp c31)
        exact absurd hs32.1 (by decide)
      · refine r_iconst (v := 0) hX dX4_clockOf_27 (by decide) ?_
        refine r_goto (tgt := 55) hX dX4_clockOf_28 (by decide) ?_
        exact r_iret hX hE dX4_clockOf_55 (Nat.le_of_ble_eq_true rfl) (Nat.le_of_ble_eq_true rfl) ⟨_, J30, (mWF2 eJ30 hJ), ((congrArg Prod.fst eJ30).trans rfl), rfl, rfl⟩
theorem dX4_copyClock_0 : decode cX4_copyClock 0 = .ok (.aload_n 0, 1) := by decide +kernel
theorem dX4_copyClock_1 : decode cX4_copyClock 1 = .ok (.iload_n 1, 1) := by decide +kernel
theorem dX4_copyClock_2 : decode cX4_copyClock 2 = .ok (.invokestatic 205, 3) := by decide +kernel
theorem dX4_copyClock_5 : decode cX4_copyClock 5 = .ok (.ifCond .ne 10, 3) := by decide +kernel
theorem dX4_copyClock_8 : decode cX4_copyClock 8 = .ok (.iload_n 2, 1) := by decide +kernel
theorem dX4_copyClock_9 : decode cX4_copyClock 9 = .ok (.invokestatic 205, 3) := by decide +kernel
theorem dX4_copyClock_12 : decode cX4_copyClock 12 = .ok (.ifCond .eq 7, 3) := by decide +kernel
theorem dX4_copyClock_15 : decode cX4_copyClock 15 = .ok (.iconst 1, 1) := by decide +kernel
theorem dX4_copyClock_16 : decode cX4_copyClock 16 = .ok (.goto 4, 3) := by decide +kernel
theorem dX4_copyClock_19 : decode cX4_copyClock 19 = .ok (.iconst 0, 1) := by decide +kernel
theorem dX4_copyClock_20 : decode cX4_copyClock 20 = .ok (.iconst 0, 1) := by decide +kernel
theorem dX4_copyClock_21 : decode cX4_copyClock 21 = .ok (.invokevirtual 68, 3) := by decide +kernel
theorem dX4_copyClock_24 : decode cX4_copyClock 24 = .ok (.ifCond .eq 7, 3) := by decide +kernel
theorem dX4_copyClock_27 : decode cX4_copyClock 27 = .ok (.iconst 0, 1) := by decide +kernel
theorem dX4_copyClock_28 : decode cX4_copyClock 28 = .ok (.goto 33, 3) := by decide +kernel
theorem dX4_copyClock_31 : decode cX4_copyClock 31 = .ok (.aload_n 0, 1) := by decide +kernel
theorem dX4_copyClock_32 : decode cX4_copyClock 32 = .ok (.iload_n 1, 1) := by decide +kernel
theorem dX4_copyClock_33 : decode cX4_copyClock 33 = .ok (.aload_n 0, 1) := by decide +kernel
theorem dX4_copyClock_34 : decode cX4_copyClock 34 = .ok (.getfield 20, 3) := by decide +kernel
theorem dX4_copyClock_37 : decode cX4_copyClock 37 = .ok (.iconst 4, 1) := by decide +kernel
theorem dX4_copyClock_38 : decode cX4_copyClock 38 = .ok (.iload_n 2, 1) := by decide +kernel
theorem dX4_copyClock_39 : decode cX4_copyClock 39 = .ok (.iadd, 1) := by decide +kernel
theorem dX4_copyClock_40 : decode cX4_copyClock 40 = .ok (.iaload, 1) := by decide +kernel
theorem dX4_copyClock_41 : decode cX4_copyClock 41 = .ok (.i2l, 1) := by decide +kernel
theorem dX4_copyClock_42 : decode cX4_copyClock 42 = .ok (.aload_n 0, 1) := by decide +kernel
theorem dX4_copyClock_43 : decode cX4_copyClock 43 = .ok (.getfield 23, 3) := by decide +kernel
theorem dX4_copyClock_46 : decode cX4_copyClock 46 = .ok (.iconst 4, 1) := by decide +kernel
theorem dX4_copyClock_47 : decode cX4_copyClock 47 = .ok (.iload_n 2, 1) := by decide +kernel
theorem dX4_copyClock_48 : decode cX4_copyClock 48 = .ok (.iadd, 1) := by decide +kernel
theorem dX4_copyClock_49 : decode cX4_copyClock 49 = .ok (.iaload, 1) := by decide +kernel
theorem dX4_copyClock_50 : decode cX4_copyClock 50 = .ok (.aload_n 0, 1) := by decide +kernel
theorem dX4_copyClock_51 : decode cX4_copyClock 51 = .ok (.getfield 26, 3) := by decide +kernel
theorem dX4_copyClock_54 : decode cX4_copyClock 54 = .ok (.iconst 4, 1) := by decide +kernel
theorem dX4_copyClock_55 : decode cX4_copyClock 55 = .ok (.iload_n 2, 1) := by decide +kernel
theorem dX4_copyClock_56 : decode cX4_copyClock 56 = .ok (.iadd, 1) := by decide +kernel
theorem dX4_copyClock_57 : decode cX4_copyClock 57 = .ok (.iaload, 1) := by decide +kernel
theorem dX4_copyClock_58 : decode cX4_copyClock 58 = .ok (.invokevirtual 208, 3) := by decide +kernel
theorem dX4_copyClock_61 : decode cX4_copyClock 61 = .ok (.ireturn, 1) := by decide +kernel
set_option maxHeartbeats 4000000 in
set_option maxRecDepth 20000 in
theorem c_X4_copyClock (ad ae : Nat → Nat) (cs : ClassId × ClassId × ClassId) (K : mK) (J : mJ) (rest : va_W) (hJ : mWF J) (p0 : Int32) (p1 : Int32) : mCt (mTy cs) yX4_copyClock cX4_copyClock 3 (some .int) ⟨3, 0, 0, 71⟩ [.ref (ae 0), .int p0, .int p1] (mRw ad ae cs K J rest) (mZi ad ae cs K J rest) mNo := by
  refine mCt.of (by decide +kernel) (Nat.le_of_ble_eq_true rfl) (fun X hX hE => ?_)
  have hX : mOK X RX4 cX4_copyClock 3 ⟨3, 0, 0, 71⟩ [] (mTy cs) := hX
  refine r_aload_n hX dX4_copyClock_0 rfl rfl ?_
  refine r_iload_n hX dX4_copyClock_1 rfl rfl ?_
  refine r_callS hX (c_X4_isNoClock _ _ _) ks_X4_205 rfl rfl (Nat.le_of_ble_eq_true rfl) ⟨(Nat.le_of_ble_eq_true rfl), (Nat.le_of_ble_eq_true rfl)⟩ ⟨(Nat.le_of_ble_eq_true rfl), (Nat.le_of_ble_eq_true rfl)⟩ dX4_copyClock_2 (fun _ _ z => False.elim z) (fun v9 ws9 h1 => ?_)
  obtain ⟨r3, nr3, rfl, hw9⟩ := h1
  subst ws9
  dsimp only [mPush]
  refine r_if_ne (tgt := 15) hX dX4_copyClock_5 (by decide) (fun c4 => ?_) (fun c4 => ?_)
  · refine r_iconst (v := 1) hX dX4_copyClock_15 (by decide) ?_
    refine r_goto (tgt := 20) hX dX4_copyClock_16 (by decide) ?_
    refine r_iconst (v := 0) hX dX4_copyClock_20 (by decide) ?_
    refine r_callV hX (c_X4_isStopped _ _ _ _ _ _ _ _) kv_X4_68 14 rfl rfl rfl rfl (Nat.le_of_ble_eq_true rfl) ⟨(Nat.le_of_ble_eq_true rfl), (Nat.le_of_ble_eq_true rfl)⟩ ⟨(Nat.le_of_ble_eq_true rfl), (Nat.le_of_ble_eq_true rfl)⟩ dX4_copyClock_21 (fun _ _ z => False.elim z) (fun v9 ws9 h5 => ?_)
    obtain ⟨r7, J8, nr7, etJ8, erJ8, eJ8, rfl, hw9⟩ := h5
    subst ws9
    dsimp only [mPush]
    refine r_if_eq (tgt := 31) hX dX4_copyClock_24 (by decide) (fun c9 => ?_) (fun c9 => ?_)
    · have hs10 := mnone0 nr7 (by first | exact c9 | exact Classical.not_not.mp c9)
      exact absurd hs10.1 (by decide)
    · refine r_iconst (v := 0) hX dX4_copyClock_27 (by decide) ?_
      refine r_goto (tgt := 61) hX dX4_copyClock_28 (by decide) ?_
      exact r_iret hX hE dX4_copyClock_61 (Nat.le_of_ble_eq_true rfl) (Nat.le_of_ble_eq_true rfl) ⟨_, J8, (mWF2 eJ8 hJ), ((congrArg Prod.fst eJ8).trans rfl), rfl, rfl⟩
  · obtain ⟨i11, hhi11, rfl⟩ := mnone0 nr3 (by first | exact c4 | exact Classical.not_not.mp c4)
    refine r_iload_n hX dX4_copyClock_8 rfl rfl ?_
    refine r_callS hX (c_X4_isNoClock _ _ _) ks_X4_205 rfl rfl (Nat.le_of_ble_eq_true rfl) ⟨(Nat.le_of_ble_eq_true rfl), (Nat.le_of_ble_eq_true rfl)⟩ ⟨(Nat.le_of_ble_eq_true rfl), (Nat.le_of_ble_eq_true rfl)⟩ dX4_copyClock_9 (fun _ _ z => False.elim z) (fun v9 ws9 h12 => ?_)
    obtain ⟨r14, nr14, rfl, hw9⟩ := h12
    subst ws9
    dsimp only [mPush]
    refine r_if_eq (tgt := 19) hX dX4_copyClock_12 (by decide) (fun c15 => ?_) (fun c15 => ?_)
    · obtain ⟨i16, hhi16, rfl⟩ := mnone0 nr14 (by first | exact c15 | exact Classical.not_not.mp c15)
      refine r_iconst (v := 0) hX dX4_copyClock_19 (by decide) ?_
      refine r_iconst (v := 0) hX dX4_copyClock_20 (by decide) ?_
      refine r_callV hX (c_X4_isStopped _ _ _ _ _ _ _ _) kv_X4_68 14 rfl rfl rfl rfl (Nat.le_of_ble_eq_true rfl) ⟨(Nat.le_of_ble_eq_true rfl), (Nat.le_of_ble_eq_true rfl)⟩ ⟨(Nat.le_of_ble_eq_true rfl), (Nat.le_of_ble_eq_true rfl)⟩ dX4_copyClock_21 (fun _ _ z => False.elim z) (fun v9 ws9 h17 => ?_)
      obtain ⟨r19, J20, nr19, etJ20, erJ20, eJ20, rfl, hw9⟩ := h17
      subst ws9
      dsimp only [mPush]
      refine r_if_eq (tgt := 31) hX dX4_copyClock_24 (by decide) (fun c21 => ?_) (fun c21 => ?_)
      · have hs22 := mnone0 nr19 (by first | exact c21 | exact Classical.not_not.mp c21)
        refine r_aload_n hX dX4_copyClock_31 rfl rfl ?_
        refine r_iload_n hX dX4_copyClock_32 rfl rfl ?_
        refine r_aload_n hX dX4_copyClock_33 rfl rfl ?_
        refine r_get hX kf_X4_20 14 rfl rfl dX4_copyClock_34 ?_
        refine r_iconst (v := 4) hX dX4_copyClock_37 (by decide) ?_
        refine r_iload_n hX dX4_copyClock_38 rfl rfl ?_
        refine r_iadd hX dX4_copyClock_39 ?_
        rw [show (4 : Int32) + nI i16 = nI (4 + i16) from nI_add 4 i16]
        refine r_iald hX 18 0 rfl rfl (vp_in_nI (by omega) (by decide)) dX4_copyClock_40 ?_
        refine r_i2l hX dX4_copyClock_41 ?_
        refine r_aload_n hX dX4_copyClock_42 rfl rfl ?_
        refine r_get hX kf_X4_23 14 rfl rfl dX4_copyClock_43 ?_
        refine r_iconst (v := 4) hX dX4_copyClock_46 (by decide) ?_
        refine r_iload_n hX dX4_copyClock_47 rfl rfl ?_
        refine r_iadd hX dX4_copyClock_48 ?_
        rw [show (4 : Int32) + nI i16 = nI (4 + i16) from nI_add 4 i16]
        refine r_iald hX 19 0 rfl rfl (vp_in_nI (by omega) (by decide)) dX4_copyClock_49 ?_
        refine r_aload_n hX dX4_copyClock_50 rfl rfl ?_
        refine r_get hX kf_X4_26 14 rfl rfl dX4_copyClock_51 ?_
        refine r_iconst (v := 4) hX dX4_copyClock_54 (by decide) ?_
        refine r_iload_n hX dX4_copyClock_55 rfl rfl ?_
        refine r_iadd hX dX4_copyClock_56 ?_
        rw [show (4 : Int32) + nI i16 = nI (4 + i16) from nI_add 4 i16]
        refine r_iald hX 20 0 rfl rfl (vp_in_nI (by omega) (by decide)) dX4_copyClock_57 ?_
        refine r_callV hX (c_X4_turn _ _ _ _ J20 _ (mWF2 eJ20 hJ) i11 hhi11 _ _ _) kv_X4_208 14 rfl rfl rfl rfl (Nat.le_of_ble_eq_true rfl) ⟨(Nat.le_of_ble_eq_true rfl), (Nat.le_of_ble_eq_true rfl)⟩ ⟨(Nat.le_of_ble_eq_true rfl), (Nat.le_of_ble_eq_true rfl)⟩ dX4_copyClock_58 (fun _ _ z => False.elim z) (fun v9 ws9 h23 => ?_)
        obtain ⟨r25, J26, hJ26, oJ26, rfl, hw9⟩ := h23
        subst ws9
        dsimp only [mPush]
        exact r_iret hX hE dX4_copyClock_61 (Nat.le_of_ble_eq_true rfl) (Nat.le_of_ble_eq_true rfl) ⟨_, J26, hJ26, (oJ26.trans ((congrArg Prod.fst eJ20).trans rfl)), rfl, rfl⟩
      · refine r_iconst (v := 0) hX dX4_copyClock_27 (by decide) ?_
        refine r_goto (tgt := 61) hX dX4_copyClock_28 (by decide) ?_
        exact r_iret hX hE dX4_copyClock_61 (Nat.le_of_ble_eq_true rfl) (Nat.le_of_ble_eq_true rfl) ⟨_, J20, (mWF2 eJ20 hJ), ((congrArg Prod.fst eJ20).trans rfl), rfl, rfl⟩
    · refine r_iconst (v := 1) hX dX4_copyClock_15 (by decide) ?_
      refine r_goto (tgt := 20) hX dX4_copyClock_16 (by decide) ?_
      refine r_iconst (v := 0) hX dX4_copyClock_20 (by decide) ?_
      refine r_callV hX (c_X4_isStopped _ _ _ _ _ _ _ _) kv_X4_68 14 rfl rfl rfl rfl (Nat.le_of_ble_eq_true rfl) ⟨(Nat.le_of_ble_eq_true rfl), (Nat.le_of_ble_eq_true rfl)⟩ ⟨(Nat.le_of_ble_eq_true rfl), (Nat.le_of_ble_eq_true rfl)⟩ dX4_copyClock_21 (fun _ _ z => False.elim z) (fun v9 ws9 h27 => ?_)
      obtain ⟨r29, J30, nr29, etJ30, erJ30, eJ30, rfl, hw9⟩ := h27
      subst ws9
      dsimp only [mPush]
      refine r_if_eq (tgt := 31) hX dX4_copyClock_24 (by decide) (fun c31 => ?_) (fun c31 => ?_)
      · have hs32 := mnone0 nr29 (by first | exact c31 | exact Classical.not_not.mp c31)
        exact absurd hs32.1 (by decide)
      · refine r_iconst (v := 0) hX dX4_copyClock_27 (by decide) ?_
        refine r_goto (tgt := 61) hX dX4_copyClock_28 (by decide) ?_
        exact r_iret hX hE dX4_copyClock_61 (Nat.le_of_ble_eq_true rfl) (Nat.le_of_ble_eq_true rfl) ⟨_, J30, (mWF2 eJ30 hJ), ((congrArg Prod.fst eJ30).trans rfl), rfl, rfl⟩
theorem dX4_strike_0 : decode cX4_strike 0 = .ok (.aload_n 0, 1) := by decide +kernel
theorem dX4_strike_1 : decode cX4_strike 1 = .ok (.iload_n 1, 1) := by decide +kernel
theorem dX4_strike_2 : decode cX4_strike 2 = .ok (.invokestatic 61, 3) := by decide +kernel
theorem dX4_strike_5 : decode cX4_strike 5 = .ok (.ifCond .ne 10, 3) := by decide +kernel
theorem dX4_strike_8 : decode cX4_strike 8 = .ok (.iload_n 2, 1) := by decide +kernel
theorem dX4_strike_9 : decode cX4_strike 9 = .ok (.invokestatic 205, 3) := by decide +kernel
theorem dX4_strike_12 : decode cX4_strike 12 = .ok (.ifCond .eq 7, 3) := by decide +kernel
theorem dX4_strike_15 : decode cX4_strike 15 = .ok (.iconst 1, 1) := by decide +kernel
theorem dX4_strike_16 : decode cX4_strike 16 = .ok (.goto 4, 3) := by decide +kernel
theorem dX4_strike_19 : decode cX4_strike 19 = .ok (.iconst 0, 1) := by decide +kernel
theorem dX4_strike_20 : decode cX4_strike 20 = .ok (.iconst 0, 1) := by decide +kernel
theorem dX4_strike_21 : decode cX4_strike 21 = .ok (.invokevirtual 68, 3) := by decide +kernel
theorem dX4_strike_24 : decode cX4_strike 24 = .ok (.ifCond .eq 7, 3) := by decide +kernel
theorem dX4_strike_27 : decode cX4_strike 27 = .ok (.iconst 0, 1) := by decide +kernel
theorem dX4_strike_28 : decode cX4_strike 28 = .ok (.goto 38, 3) := by decide +kernel
theorem dX4_strike_31 : decode cX4_strike 31 = .ok (.aload_n 0, 1) := by decide +kernel
theorem dX4_strike_32 : decode cX4_strike 32 = .ok (.iload_n 1, 1) := by decide +kernel
theorem dX4_strike_33 : decode cX4_strike 33 = .ok (.aload_n 0, 1) := by decide +kernel
theorem dX4_strike_34 : decode cX4_strike 34 = .ok (.getfield 17, 3) := by decide +kernel
theorem dX4_strike_37 : decode cX4_strike 37 = .ok (.iload_n 1, 1) := by decide +kernel
theorem dX4_strike_38 : decode cX4_strike 38 = .ok (.iaload, 1) := by decide +kernel
theorem dX4_strike_39 : decode cX4_strike 39 = .ok (.aload_n 0, 1) := by decide +kernel
theorem dX4_strike_40 : decode cX4_strike 40 = .ok (.getfield 20, 3) := by decide +kernel
theorem dX4_strike_43 : decode cX4_strike 43 = .ok (.iconst 4, 1) := by decide +kernel
theorem dX4_strike_44 : decode cX4_strike 44 = .ok (.iload_n 2, 1) := by decide +kernel
theorem dX4_strike_45 : decode cX4_strike 45 = .ok (.iadd, 1) := by decide +kernel
theorem dX4_strike_46 : decode cX4_strike 46 = .ok (.iaload, 1) := by decide +kernel
theorem dX4_strike_47 : decode cX4_strike 47 = .ok (.aload_n 0, 1) := by decide +kernel
theorem dX4_strike_48 : decode cX4_strike 48 = .ok (.getfield 23, 3) := by decide +kernel
theorem dX4_strike_51 : decode cX4_strike 51 = .ok (.iconst 4, 1) := by decide +kernel
theorem dX4_strike_52 : decode cX4_strike 52 = .ok (.iload_n 2, 1) := by decide +kernel
theorem dX4_strike_53 : decode cX4_strike 53 = .ok (.iadd, 1) := by decide +kernel
theorem dX4_strike_54 : decode cX4_strike 54 = .ok (.iaload, 1) := by decide +kernel
theorem dX4_strike_55 : decode cX4_strike 55 = .ok (.aload_n 0, 1) := by decide +kernel
theorem dX4_strike_56 : decode cX4_strike 56 = .ok (.getfield 26, 3) := by decide +kernel
theorem dX4_strike_59 : decode cX4_strike 59 = .ok (.iconst 4, 1) := by decide +kernel
theorem dX4_strike_60 : decode cX4_strike 60 = .ok (.iload_n 2, 1) := by decide +kernel
theorem dX4_strike_61 : decode cX4_strike 61 = .ok (.iadd, 1) := by decide +kernel
theorem dX4_strike_62 : decode cX4_strike 62 = .ok (.iaload, 1) := by decide +kernel
theorem dX4_strike_63 : decode cX4_strike 63 = .ok (.invokevirtual 139, 3) := by decide +kernel
theorem dX4_strike_66 : decode cX4_strike 66 = .ok (.ireturn, 1) := by decide +kernel
set_option maxHeartbeats 4000000 in
set_option maxRecDepth 20000 in
theorem c_X4_strike (ad ae : Nat → Nat) (cs : ClassId × ClassId × ClassId) (K : mK) (J : mJ) (rest : va_W) (hJ : mWF J) (p0 : Int32) (p1 : Int32) : mCt (mTy cs) yX4_strike cX4_strike 3 (some .int) ⟨2, 0, 0, 45⟩ [.ref (ae 0), .int p0, .int p1] (mRw ad ae cs K J rest) (mZi ad ae cs K J rest) mNo := by
  refine mCt.of (by decide +kernel) (Nat.le_of_ble_eq_true rfl) (fun X hX hE => ?_)
  have hX : mOK X RX4 cX4_strike 3 ⟨2, 0, 0, 45⟩ [] (mTy cs) := hX
  refine r_aload_n hX dX4_strike_0 rfl rfl ?_
  refine r_iload_n hX dX4_strike_1 rfl rfl ?_
  refine r_callS hX (c_X4_isNone _ _ _) ks_X4_61 rfl rfl (Nat.le_of_ble_eq_true rfl) ⟨(Nat.le_of_ble_eq_true rfl), (Nat.le_of_ble_eq_true rfl)⟩ ⟨(Nat.le_of_ble_eq_true rfl), (Nat.le_of_ble_eq_true rfl)⟩ dX4_strike_2 (fun _ _ z => False.elim z) (fun v9 ws9 h1 => ?_)
  obtain ⟨r3, nr3, rfl, hw9⟩ := h1
  subst ws9
  dsimp only [mPush]
  refine r_if_ne (tgt := 15) hX dX4_strike_5 (by decide) (fun c4 => ?_) (fun c4 => ?_)
  · refine r_iconst (v := 1) hX dX4_strike_15 (by decide) ?_
    refine r_goto (tgt := 20) hX dX4_strike_16 (by decide) ?_
    refine r_iconst (v := 0) hX dX4_strike_20 (by decide) ?_
    refine r_callV hX (c_X4_isStopped _ _ _ _ _ _ _ _) kv_X4_68 14 rfl rfl rfl rfl (Nat.le_of_ble_eq_true rfl) ⟨(Nat.le_of_ble_eq_true rfl), (Nat.le_of_ble_eq_true rfl)⟩ ⟨(Nat.le_of_ble_eq_true rfl), (Nat.le_of_ble_eq_true rfl)⟩ dX4_strike_21 (fun _ _ z => False.elim z) (fun v9 ws9 h5 => ?_)
    obtain ⟨r7, J8, nr7, etJ8, erJ8, eJ8, rfl, hw9⟩ := h5
    subst ws9
    dsimp only [mPush]
    refine r_if_eq (tgt := 31) hX dX4_strike_24 (by decide) (fun c9 => ?_) (fun c9 => ?_)
    · have hs10 := mnone0 nr7 (by first | exact c9 | exact Classical.not_not.mp c9)
      exact absurd hs10.1 (by decide)
    · refine r_iconst (v := 0) hX dX4_strike_27 (by decide) ?_
      refine r_goto (tgt := 66) hX dX4_strike_28 (by decide) ?_
      exact r_iret hX hE dX4_strike_66 (Nat.le_of_ble_eq_true rfl) (Nat.le_of_ble_eq_true rfl) ⟨_, J8, (mWF2 eJ8 hJ), ((congrArg Prod.fst eJ8).trans rfl), rfl, rfl⟩
  · obtain ⟨i11, hhi11, rfl⟩ := mnone0 nr3 (by first | exact c4 | exact Classical.not_not.mp c4)
    refine r_iload_n hX dX4_strike_8 rfl rfl ?_
    refine r_callS hX (c_X4_isNoClock _ _ _) ks_X4_205 rfl rfl (Nat.le_of_ble_eq_true rfl) ⟨(Nat.le_of_ble_eq_true rfl), (Nat.le_of_ble_eq_true rfl)⟩ ⟨(Nat.le_of_ble_eq_true rfl), (Nat.le_of_ble_eq_true rfl)⟩ dX4_strike_9 (fun _ _ z => False.elim z) (fun v9 ws9 h12 => ?_)
    obtain ⟨r14, nr14, rfl, hw9⟩ := h12
    subst ws9
    dsimp only [mPush]
    refine r_if_eq (tgt := 19) hX dX4_strike_12 (by decide) (fun c15 => ?_) (fun c15 => ?_)
    · obtain ⟨i16, hhi16, rfl⟩ := mnone0 nr14 (by first | exact c15 | exact Classical.not_not.mp c15)
      refine r_iconst (v := 0) hX dX4_strike_19 (by decide) ?_
      refine r_iconst (v := 0) hX dX4_strike_20 (by decide) ?_
      refine r_callV hX (c_X4_isStopped _ _ _ _ _ _ _ _) kv_X4_68 14 rfl rfl rfl rfl (Nat.le_of_ble_eq_true rfl) ⟨(Nat.le_of_ble_eq_true rfl), (Nat.le_of_ble_eq_true rfl)⟩ ⟨(Nat.le_of_ble_eq_true rfl), (Nat.le_of_ble_eq_true rfl)⟩ dX4_strike_21 (fun _ _ z => False.elim z) (fun v9 ws9 h17 => ?_)
      obtain ⟨r19, J20, nr19, etJ20, erJ20, eJ20, rfl, hw9⟩ := h17
      subst ws9
      dsimp only [mPush]
      refine r_if_eq (tgt := 31) hX dX4_strike_24 (by decide) (fun c21 => ?_) (fun c21 => ?_)
      · have hs22 := mnone0 nr19 (by first | exact c21 | exact Classical.not_not.mp c21)
        refine r_aload_n hX dX4_strike_31 rfl rfl ?_
        refine r_iload_n hX dX4_strike_32 rfl rfl ?_
        refine r_aload_n hX dX4_strike_33 rfl rfl ?_
        refine r_get hX kf_X4_17 14 rfl rfl dX4_strike_34 ?_
        refine r_iload_n hX dX4_strike_37 rfl rfl ?_
        refine r_iald hX 17 0 rfl rfl (vp_in_nI (Nat.lt_of_lt_of_le hhi11 (by decide)) (by decide)) dX4_strike_38 ?_
        refine r_aload_n hX dX4_strike_39 rfl rfl ?_
        refine r_get hX kf_X4_20 14 rfl rfl dX4_strike_40 ?_
        refine r_iconst (v := 4) hX dX4_strike_43 (by decide) ?_
        refine r_iload_n hX dX4_strike_44 rfl rfl ?_
        refine r_iadd hX dX4_strike_45 ?_
        rw [show (4 : Int32) + nI i16 = nI (4 + i16) from nI_add 4 i16]
        refine r_iald hX 18 0 rfl rfl (vp_in_nI (by omega) (by decide)) dX4_strike_46 ?_
        refine r_aload_n hX dX4_strike_47 rfl rfl ?_
        refine r_get hX kf_X4_23 14 rfl rfl dX4_strike_48 ?_
        refine r_iconst (v := 4) hX dX4_strike_51 (by decide) ?_
        refine r_iload_n hX dX4_strike_52 rfl rfl ?_
        refine r_iadd hX dX4_strike_53 ?_
        rw [show (4 : Int32) + nI i16 = nI (4 + i16) from nI_add 4 i16]
        refine r_iald hX 19 0 rfl rfl (vp_in_nI (by omega) (by decide)) dX4_strike_54 ?_
        refine r_aload_n hX dX4_strike_55 rfl rfl ?_
        refine r_get hX kf_X4_26 14 rfl rfl dX4_strike_56 ?_
        refine r_iconst (v := 4) hX dX4_strike_59 (by decide) ?_
        refine r_iload_n hX dX4_strike_60 rfl rfl ?_
        refine r_iadd hX dX4_strike_61 ?_
        rw [show (4 : Int32) + nI i16 = nI (4 + i16) from nI_add 4 i16]
        refine r_iald hX 20 0 rfl rfl (vp_in_nI (by omega) (by decide)) dX4_strike_62 ?_
        refine r_callV hX (c_X4_put _ _ _ _ J20 _ (mWF2 eJ20 hJ) i11 (Nat.lt_of_lt_of_le hhi11 (by decide)) _ _ _ _ (mday (mWF2 eJ20 hJ) (Nat.lt_of_lt_of_le hhi11 (by decide)))) kv_X4_139 14 rfl rfl rfl rfl (Nat.le_of_ble_eq_true rfl) ⟨(Nat.le_of_ble_eq_true rfl), (Nat.le_of_ble_eq_true rfl)⟩ ⟨(Nat.le_of_ble_eq_true rfl), (Nat.le_of_ble_eq_true rfl)⟩ dX4_strike_63 (fun _ _ z => False.elim z) (fun v9 ws9 h23 => ?_)
        obtain ⟨r25, J26, hJ26, oJ26, rfl, hw9⟩ := h23
        subst ws9
        dsimp only [mPush]
        exact r_iret hX hE dX4_strike_66 (Nat.le_of_ble_eq_true rfl) (Nat.le_of_ble_eq_true rfl) ⟨_, J26, hJ26, (oJ26.trans ((congrArg Prod.fst eJ20).trans rfl)), rfl, rfl⟩
      · refine r_iconst (v := 0) hX dX4_strike_27 (by decide) ?_
        refine r_goto (tgt := 66) hX dX4_strike_28 (by decide) ?_
        exact r_iret hX hE dX4_strike_66 (Nat.le_of_ble_eq_true rfl) (Nat.le_of_ble_eq_true rfl) ⟨_, J20, (mWF2 eJ20 hJ), ((congrArg Prod.fst eJ20).trans rfl), rfl, rfl⟩
    · refine r_iconst (v := 1) hX dX4_strike_15 (by decide) ?_
      refine r_goto (tgt := 20) hX dX4_strike_16 (by decide) ?_
      refine r_iconst (v := 0) hX dX4_strike_20 (by decide) ?_
      refine r_callV hX (c_X4_isStopped _ _ _ _ _ _ _ _) kv_X4_68 14 rfl rfl rfl rfl (Nat.le_of_ble_eq_true rfl) ⟨(Nat.le_of_ble_eq_true rfl), (Nat.le_of_ble_eq_true rfl)⟩ ⟨(Nat.le_of_ble_eq_true rfl), (Nat.le_of_ble_eq_true rfl)⟩ dX4_strike_21 (fun _ _ z => False.elim z) (fun v9 ws9 h27 => ?_)
      obtain ⟨r29, J30, nr29, etJ30, erJ30, eJ30, rfl, hw9⟩ := h27
      subst ws9
      dsimp only [mPush]
      refine r_if_eq (tgt := 31) hX dX4_strike_24 (by decide) (fun c31 => ?_) (fun c31 => ?_)
      · have hs32 := mnone0 nr29 (by first | exact c31 | exact Classical.not_not.mp c31)
        exact absurd hs32.1 (by decide)
      · refine r_iconst (v := 0) hX dX4_strike_27 (by decide) ?_
        refine r_goto (tgt := 66) hX dX4_strike_28 (by decide) ?_
        exact r_iret hX hE dX4_strike_66 (Nat.le_of_ble_eq_true rfl) (Nat.le_of_ble_eq_true rfl) ⟨_, J30, (mWF2 eJ30 hJ), ((congrArg Prod.fst eJ30).trans rfl), rfl, rfl⟩
theorem dX4_moveClock_0 : decode cX4_moveClock 0 = .ok (.aload_n 0, 1) := by decide +kernel
theorem dX4_moveClock_1 : decode cX4_moveClock 1 = .ok (.iload_n 1, 1) := by decide +kernel
theorem dX4_moveClock_2 : decode cX4_moveClock 2 = .ok (.invokestatic 205, 3) := by decide +kernel
theorem dX4_moveClock_5 : decode cX4_moveClock 5 = .ok (.iload_n 2, 1) := by decide +kernel
theorem dX4_moveClock_6 : decode cX4_moveClock 6 = .ok (.i2l, 1) := by decide +kernel
theorem dX4_moveClock_7 : decode cX4_moveClock 7 = .ok (.ldc2_w 212, 3) := by decide +kernel
theorem dX4_moveClock_10 : decode cX4_moveClock 10 = .ok (.ldc2_w 183, 3) := by decide +kernel
theorem dX4_moveClock_13 : decode cX4_moveClock 13 = .ok (.invokestatic 38, 3) := by decide +kernel
theorem dX4_moveClock_16 : decode cX4_moveClock 16 = .ok (.ifCond .ne 7, 3) := by decide +kernel
theorem dX4_moveClock_19 : decode cX4_moveClock 19 = .ok (.iconst 1, 1) := by decide +kernel
theorem dX4_moveClock_20 : decode cX4_moveClock 20 = .ok (.goto 4, 3) := by decide +kernel
theorem dX4_moveClock_23 : decode cX4_moveClock 23 = .ok (.iconst 0, 1) := by decide +kernel
theorem dX4_moveClock_24 : decode cX4_moveClock 24 = .ok (.invokevirtual 68, 3) := by decide +kernel
theorem dX4_moveClock_27 : decode cX4_moveClock 27 = .ok (.ifCond .eq 5, 3) := by decide +kernel
theorem dX4_moveClock_30 : decode cX4_moveClock 30 = .ok (.iconst 0, 1) := by decide +kernel
theorem dX4_moveClock_31 : decode cX4_moveClock 31 = .ok (.ireturn, 1) := by decide +kernel
theorem dX4_moveClock_32 : decode cX4_moveClock 32 = .ok (.iload 4, 2) := by decide +kernel
theorem dX4_moveClock_34 : decode cX4_moveClock 34 = .ok (.ifCond .eq 9, 3) := by decide +kernel
theorem dX4_moveClock_37 : decode cX4_moveClock 37 = .ok (.iload_n 3, 1) := by decide +kernel
theorem dX4_moveClock_38 : decode cX4_moveClock 38 = .ok (.i2l, 1) := by decide +kernel
theorem dX4_moveClock_39 : decode cX4_moveClock 39 = .ok (.lneg, 1) := by decide +kernel
theorem dX4_moveClock_40 : decode cX4_moveClock 40 = .ok (.goto 5, 3) := by decide +kernel
theorem dX4_moveClock_43 : decode cX4_moveClock 43 = .ok (.iload_n 3, 1) := by decide +kernel
theorem dX4_moveClock_44 : decode cX4_moveClock 44 = .ok (.i2l, 1) := by decide +kernel
theorem dX4_moveClock_45 : decode cX4_moveClock 45 = .ok (.lstore 5, 2) := by decide +kernel
theorem dX4_moveClock_47 : decode cX4_moveClock 47 = .ok (.aload_n 0, 1) := by decide +kernel
theorem dX4_moveClock_48 : decode cX4_moveClock 48 = .ok (.getfield 23, 3) := by decide +kernel
theorem dX4_moveClock_51 : decode cX4_moveClock 51 = .ok (.iconst 4, 1) := by decide +kernel
theorem dX4_moveClock_52 : decode cX4_moveClock 52 = .ok (.iload_n 1, 1) := by decide +kernel
theorem dX4_moveClock_53 : decode cX4_moveClock 53 = .ok (.iadd, 1) := by decide +kernel
theorem dX4_moveClock_54 : decode cX4_moveClock 54 = .ok (.iaload, 1) := by decide +kernel
theorem dX4_moveClock_55 : decode cX4_moveClock 55 = .ok (.i2l, 1) := by decide +kernel
theorem dX4_moveClock_56 : decode cX4_moveClock 56 = .ok (.iload_n 2, 1) := by decide +kernel
theorem dX4_moveClock_57 : decode cX4_moveClock 57 = .ok (.bipush 7, 2) := by decide +kernel
theorem dX4_moveClock_59 : decode cX4_moveClock 59 = .ok (.if_icmp .ne 8, 3) := by decide +kernel
theorem dX4_moveClock_62 : decode cX4_moveClock 62 = .ok (.lload 5, 2) := by decide +kernel
theorem dX4_moveClock_64 : decode cX4_moveClock 64 = .ok (.goto 4, 3) := by decide +kernel
theorem dX4_moveClock_67 : decode cX4_moveClock 67 = .ok (.lconst 0, 1) := by decide +kernel
theorem dX4_moveClock_68 : decode cX4_moveClock 68 = .ok (.ladd, 1) := by decide +kernel
theorem dX4_moveClock_69 : decode cX4_moveClock 69 = .ok (.lstore 7, 2) := by decide +kernel
theorem dX4_moveClock_71 : decode cX4_moveClock 71 = .ok (.aload_n 0, 1) := by decide +kernel
theorem dX4_moveClock_72 : decode cX4_moveClock 72 = .ok (.iload_n 1, 1) := by decide +kernel
theorem dX4_moveClock_73 : decode cX4_moveClock 73 = .ok (.aload_n 0, 1) := by decide +kernel
theorem dX4_moveClock_74 : decode cX4_moveClock 74 = .ok (.getfield 20, 3) := by decide +kernel
theorem dX4_moveClock_77 : decode cX4_moveClock 77 = .ok (.iconst 4, 1) := by decide +kernel
theorem dX4_moveClock_78 : decode cX4_moveClock 78 = .ok (.iload_n 1, 1) := by decide +kernel
theorem dX4_moveClock_79 : decode cX4_moveClock 79 = .ok (.iadd, 1) := by decide +kernel
theorem dX4_moveClock_80 : decode cX4_moveClock 80 = .ok (.iaload, 1) := by decide +kernel
theorem dX4_moveClock_81 : decode cX4_moveClock 81 = .ok (.i2l, 1) := by decide +kernel
theorem dX4_moveClock_82 : decode cX4_moveClock 82 = .ok (.lload 5, 2) := by decide +kernel
theorem dX4_moveClock_84 : decode cX4_moveClock 84 = .ok (.iload_n 2, 1) := by decide +kernel
theorem dX4_moveClock_85 : decode cX4_moveClock 85 = .ok (.invokestatic 188, 3) := by decide +kernel
theorem dX4_moveClock_88 : decode cX4_moveClock 88 = .ok (.i2l, 1) := by decide +kernel
theorem dX4_moveClock_89 : decode cX4_moveClock 89 = .ok (.lmul, 1) := by decide +kernel
theorem dX4_moveClock_90 : decode cX4_moveClock 90 = .ok (.ladd, 1) := by decide +kernel
theorem dX4_moveClock_91 : decode cX4_moveClock 91 = .ok (.lload 7, 2) := by decide +kernel
theorem dX4_moveClock_93 : decode cX4_moveClock 93 = .ok (.ldc2_w 96, 3) := by decide +kernel
theorem dX4_moveClock_96 : decode cX4_moveClock 96 = .ok (.invokestatic 92, 3) := by decide +kernel
theorem dX4_moveClock_99 : decode cX4_moveClock 99 = .ok (.ladd, 1) := by decide +kernel
theorem dX4_moveClock_100 : decode cX4_moveClock 100 = .ok (.lload 7, 2) := by decide +kernel
theorem dX4_moveClock_102 : decode cX4_moveClock 102 = .ok (.ldc2_w 96, 3) := by decide +kernel
theorem dX4_moveClock_105 : decode cX4_moveClock 105 = .ok (.invokestatic 102, 3) := by decide +kernel
theorem dX4_moveClock_108 : decode cX4_moveClock 108 = .ok (.aload_n 0, 1) := by decide +kernel
theorem dX4_moveClock_109 : decode cX4_moveClock 109 = .ok (.getfield 26, 3) := by decide +kernel
theorem dX4_moveClock_112 : decode cX4_moveClock 112 = .ok (.iconst 4, 1) := by decide +kernel
theorem dX4_moveClock_113 : decode cX4_moveClock 113 = .ok (.iload_n 1, 1) := by decide +kernel
theorem dX4_moveClock_114 : decode cX4_moveClock 114 = .ok (.iadd, 1) := by decide +kernel
theorem dX4_moveClock_115 : decode cX4_moveClock 115 = .ok (.iaload, 1) := by decide +kernel
theorem dX4_moveClock_116 : decode cX4_moveClock 116 = .ok (.invokevirtual 208, 3) := by decide +kernel
theorem dX4_moveClock_119 : decode cX4_moveClock 119 = .ok (.ireturn, 1) := by decide +kernel
set_option maxHeartbeats 4000000 in
set_option maxRecDepth 20000 in
theorem c_X4_moveClock (ad ae : Nat → Nat) (cs : ClassId × ClassId × ClassId) (K : mK) (J : mJ) (rest : va_W) (hJ : mWF J) (p0 : Int32) (p1 : Int32) (p2 : Int32) (p3 : Int32) : mCt (mTy cs) yX4_moveClock cX4_moveClock 9 (some .int) ⟨3, 0, 0, 71⟩ [.ref (ae 0), .int p0, .int p1, .int p2, .int p3] (mRw ad ae cs K J rest) (mZi ad ae cs K J rest) mNo := by
  refine mCt.of (by decide +kernel) (Nat.le_of_ble_eq_true rfl) (fun X hX hE => ?_)
  have hX : mOK X RX4 cX4_moveClock 9 ⟨3, 0, 0, 71⟩ [] (mTy cs) := hX
  refine r_aload_n hX dX4_moveClock_0 rfl rfl ?_
  refine r_iload_n hX dX4_moveClock_1 rfl rfl ?_
  refine r_callS hX (c_X4_isNoClock _ _ _) ks_X4_205 rfl rfl (Nat.le_of_ble_eq_true rfl) ⟨(Nat.le_of_ble_eq_true rfl), (Nat.le_of_ble_eq_true rfl)⟩ ⟨(Nat.le_of_ble_eq_true rfl), (Nat.le_of_ble_eq_true rfl)⟩ dX4_moveClock_2 (fun _ _ z => False.elim z) (fun v9 ws9 h1 => ?_)
  obtain ⟨r3, nr3, rfl, hw9⟩ := h1
  subst ws9
  dsimp only [mPush]
  refine r_iload_n hX dX4_moveClock_5 rfl rfl ?_
  refine r_i2l hX dX4_moveClock_6 ?_
  refine r_ldc2 hX kc_X4_212 dX4_moveClock_7 ?_
  refine r_ldc2 hX kc_X4_183 dX4_moveClock_10 ?_
  refine r_callS hX (c_X4_isIn _ _ _ _ _) ks_X4_38 rfl rfl (Nat.le_of_ble_eq_true rfl) ⟨(Nat.le_of_ble_eq_true rfl), (Nat.le_of_ble_eq_true rfl)⟩ ⟨(Nat.le_of_ble_eq_true rfl), (Nat.le_of_ble_eq_true rfl)⟩ dX4_moveClock_13 (fun _ _ z => False.elim z) (fun v9 ws9 h4 => ?_)
  obtain ⟨rfl, hw9⟩ := h4
  subst ws9
  dsimp only [mPush]
  refine r_if_ne (tgt := 23) hX dX4_moveClock_16 (by decide) (fun c6 => ?_) (fun c6 => ?_)
  · obtain ⟨i7, li7, hhi7, rfl⟩ := fwin 4 7 (by decide) (by decide) (by decide) (by decide) c6
    refine r_iconst (v := 0) hX dX4_moveClock_23 (by decide) ?_
    refine r_callV hX (c_X4_isStopped _ _ _ _ _ _ _ _) kv_X4_68 14 rfl rfl rfl rfl (Nat.le_of_ble_eq_true rfl) ⟨(Nat.le_of_ble_eq_true rfl), (Nat.le_of_ble_eq_true rfl)⟩ ⟨(Nat.le_of_ble_eq_true rfl), (Nat.le_of_ble_eq_true rfl)⟩ dX4_moveClock_24 (fun _ _ z => False.elim z) (fun v9 ws9 h8 => ?_)
    obtain ⟨r10, J11, nr10, etJ11, erJ11, eJ11, rfl, hw9⟩ := h8
    subst ws9
    dsimp only [mPush]
    refine r_if_eq (tgt := 32) hX dX4_moveClock_27 (by decide) (fun c12 => ?_) (fun c12 => ?_)
    · have hs13 := mnone0 nr10 (by first | exact c12 | exact Classical.not_not.mp c12)
      obtain ⟨i14, hhi14, rfl⟩ := mnone0 nr3 hs13.1
      refine r_iload hX dX4_moveClock_32 rfl ?_
      refine r_if_eq (tgt := 43) hX dX4_moveClock_34 (by decide) (fun c15 => ?_) (fun c15 => ?_)
      · refine r_iload_n hX dX4_moveClock_43 rfl rfl ?_
        refine r_i2l hX dX4_moveClock_44 ?_
        refine r_lstore hX dX4_moveClock_45 (by decide) rfl ?_
        refine r_aload_n hX dX4_moveClock_47 rfl rfl ?_
        refine r_get hX kf_X4_23 14 rfl rfl dX4_moveClock_48 ?_
        refine r_iconst (v := 4) hX dX4_moveClock_51 (by decide) ?_
        refine r_iload_n hX dX4_moveClock_52 rfl rfl ?_
        refine r_iadd hX dX4_moveClock_53 ?_
        rw [show (4 : Int32) + nI i14 = nI (4 + i14) from nI_add 4 i14]
        refine r_iald hX 19 0 rfl rfl (vp_in_nI (by omega) (by decide)) dX4_moveClock_54 ?_
        refine r_i2l hX dX4_moveClock_55 ?_
        refine r_iload_n hX dX4_moveClock_56 rfl rfl ?_
        refine r_bipush (v := 7) hX dX4_moveClock_57 (by decide) ?_
        refine r_icmp_ne (tgt := 67) hX dX4_moveClock_59 (by decide) (fun c16 => ?_) (fun c16 => ?_)
        · refine r_lconst (v := 0) hX dX4_moveClock_67 (by decide) ?_
          refine r_ladd hX dX4_moveClock_68 ?_
          refine r_lstore hX dX4_moveClock_69 (by decide) rfl ?_
          refine r_aload_n hX dX4_moveClock_71 rfl rfl ?_
          refine r_iload_n hX dX4_moveClock_72 rfl rfl ?_
          refine r_aload_n hX dX4_moveClock_73 rfl rfl ?_
          refine r_get hX kf_X4_20 14 rfl rfl dX4_moveClock_74 ?_
          refine r_iconst (v := 4) hX dX4_moveClock_77 (by decide) ?_
          refine r_iload_n hX dX4_moveClock_78 rfl rfl ?_
          refine r_iadd hX dX4_moveClock_79 ?_
          rw [show (4 : Int32) + nI i14 = nI (4 + i14) from nI_add 4 i14]
          refine r_iald hX 18 0 rfl rfl (vp_in_nI (by omega) (by decide)) dX4_moveClock_80 ?_
          refine r_i2l hX dX4_moveClock_81 ?_
          refine r_lload hX dX4_moveClock_82 rfl ?_
          refine r_iload_n hX dX4_moveClock_84 rfl rfl ?_
          refine r_callS hX (c_X4_secondsOf _ _ _) ks_X4_188 rfl rfl (Nat.le_of_ble_eq_true rfl) ⟨(Nat.le_of_ble_eq_true rfl), (Nat.le_of_ble_eq_true rfl)⟩ ⟨(Nat.le_of_ble_eq_true rfl), (Nat.le_of_ble_eq_true rfl)⟩ dX4_moveClock_85 (fun _ _ z => False.elim z) (fun v9 ws9 h17 => ?_)
          obtain ⟨r19, rfl, hw9⟩ := h17
          subst ws9
          dsimp only [mPush]
          refine r_i2l hX dX4_moveClock_88 ?_
          refine r_lmul hX dX4_moveClock_89 ?_
          refine r_ladd hX dX4_moveClock_90 ?_
          refine r_lload hX dX4_moveClock_91 rfl ?_
          refine r_ldc2 hX kc_X4_96 dX4_moveClock_93 ?_
          refine r_callS hX (c_X4_whole _ _ _ _ (by decide)) ks_X4_92 rfl rfl (Nat.le_of_ble_eq_true rfl) ⟨(Nat.le_of_ble_eq_true rfl), (Nat.le_of_ble_eq_true rfl)⟩ ⟨(Nat.le_of_ble_eq_true rfl), (Nat.le_of_ble_eq_true rfl)⟩ dX4_moveClock_96 (fun _ _ z => False.elim z) (fun v9 ws9 h20 => ?_)
          obtain ⟨r22, rfl, hw9⟩ := h20
          subst ws9
          dsimp only [mPush]
          refine r_ladd hX dX4_moveClock_99 ?_
          refine r_lload hX dX4_moveClock_100 rfl ?_
          refine r_ldc2 hX kc_X4_96 dX4_moveClock_102 ?_
          refine r_callS hX (c_X4_rest _ _ _ _ (by decide)) ks_X4_102 rfl rfl (Nat.le_of_ble_eq_true rfl) ⟨(Nat.le_of_ble_eq_true rfl), (Nat.le_of_ble_eq_true rfl)⟩ ⟨(Nat.le_of_ble_eq_true rfl), (Nat.le_of_ble_eq_true rfl)⟩ dX4_moveClock_105 (fun _ _ z => False.elim z) (fun v9 ws9 h23 => ?_)
          obtain ⟨r25, rfl, hw9⟩ := h23
          subst ws9
          dsimp only [mPush]
          refine r_aload_n hX dX4_moveClock_108 rfl rfl ?_
          refine r_get hX kf_X4_26 14 rfl rfl dX4_moveClock_109 ?_
          refine r_iconst (v := 4) hX dX4_moveClock_112 (by decide) ?_
          refine r_iload_n hX dX4_moveClock_113 rfl rfl ?_
          refine r_iadd hX dX4_moveClock_114 ?_
          rw [show (4 : Int32) + nI i14 = nI (4 + i14) from nI_add 4 i14]
          refine r_iald hX 20 0 rfl rfl (vp_in_nI (by omega) (by decide)) dX4_moveClock_115 ?_
          refine r_callV hX (c_X4_turn _ _ _ _ J11 _ (mWF2 eJ11 hJ) i14 hhi14 _ _ _) kv_X4_208 14 rfl rfl rfl rfl (Nat.le_of_ble_eq_true rfl) ⟨(Nat.le_of_ble_eq_true rfl), (Nat.le_of_ble_eq_true rfl)⟩ ⟨(Nat.le_of_ble_eq_true rfl), (Nat.le_of_ble_eq_true rfl)⟩ dX4_moveClock_116 (fun _ _ z => False.elim z) (fun v9 ws9 h26 => ?_)
          obtain ⟨r28, J29, hJ29, oJ29, rfl, hw9⟩ := h26
          subst ws9
          dsimp only [mPush]
          exact r_iret hX hE dX4_moveClock_119 (Nat.le_of_ble_eq_true rfl) (Nat.le_of_ble_eq_true rfl) ⟨_, J29, hJ29, (oJ29.trans ((congrArg Prod.fst eJ11).trans rfl)), rfl, rfl⟩
        · refine r_lload hX dX4_moveClock_62 rfl ?_
          refine r_goto (tgt := 68) hX dX4_moveClock_64 (by decide) ?_
          refine r_ladd hX dX4_moveClock_68 ?_
          refine r_lstore hX dX4_moveClock_69 (by decide) rfl ?_
          refine r_aload_n hX dX4_moveClock_71 rfl rfl ?_
          refine r_iload_n hX dX4_moveClock_72 rfl rfl ?_
          refine r_aload_n hX dX4_moveClock_73 rfl rfl ?_
          refine r_get hX kf_X4_20 14 rfl rfl dX4_moveClock_74 ?_
          refine r_iconst (v := 4) hX dX4_moveClock_77 (by decide) ?_
          refine r_iload_n hX dX4_moveClock_78 rfl rfl ?_
          refine r_iadd hX dX4_moveClock_79 ?_
          rw [show (4 : Int32) + nI i14 = nI (4 + i14) from nI_add 4 i14]
          refine r_iald hX 18 0 rfl rfl (vp_in_nI (by omega) (by decide)) dX4_moveClock_80 ?_
          refine r_i2l hX dX4_moveClock_81 ?_
          refine r_lload hX dX4_moveClock_82 rfl ?_
          refine r_iload_n hX dX4_moveClock_84 rfl rfl ?_
          refine r_callS hX (c_X4_secondsOf _ _ _) ks_X4_188 rfl rfl (Nat.le_of_ble_eq_true rfl) ⟨(Nat.le_of_ble_eq_true rfl), (Nat.le_of_ble_eq_true rfl)⟩ ⟨(Nat.le_of_ble_eq_true rfl), (Nat.le_of_ble_eq_true rfl)⟩ dX4_moveClock_85 (fun _ _ z => False.elim z) (fun v9 ws9 h30 => ?_)
          obtain ⟨r32, rfl, hw9⟩ := h30
          subst ws9
          dsimp only [mPush]
          refine r_i2l hX dX4_moveClock_88 ?_
          refine r_lmul hX dX4_moveClock_89 ?_
          refine r_ladd hX dX4_moveClock_90 ?_
          refine r_lload hX dX4_moveClock_91 rfl ?_
          refine r_ldc2 hX kc_X4_96 dX4_moveClock_93 ?_
          refine r_callS hX (c_X4_whole _ _ _ _ (by decide)) ks_X4_92 rfl rfl (Nat.le_of_ble_eq_true rfl) ⟨(Nat.le_of_ble_eq_true rfl), (Nat.le_of_ble_eq_true rfl)⟩ ⟨(Nat.le_of_ble_eq_true rfl), (Nat.le_of_ble_eq_true rfl)⟩ dX4_moveClock_96 (fun _ _ z => False.elim z) (fun v9 ws9 h33 => ?_)
          obtain ⟨r35, rfl, hw9⟩ := h33
          subst ws9
          dsimp only [mPush]
          refine r_ladd hX dX4_moveClock_99 ?_
          refine r_lload hX dX4_moveClock_100 rfl ?_
          refine r_ldc2 hX kc_X4_96 dX4_moveClock_102 ?_
          refine r_callS hX (c_X4_rest _ _ _ _ (by decide)) ks_X4_102 rfl rfl (Nat.le_of_ble_eq_true rfl) ⟨(Nat.le_of_ble_eq_true rfl), (Nat.le_of_ble_eq_true rfl)⟩ ⟨(Nat.le_of_ble_eq_true rfl), (Nat.le_of_ble_eq_true rfl)⟩ dX4_moveClock_105 (fun _ _ z => False.elim z) (fun v9 ws9 h36 => ?_)
          obtain ⟨r38, rfl, hw9⟩ := h36
          subst ws9
          dsimp only [mPush]
          refine r_aload_n hX dX4_moveClock_108 rfl rfl ?_
          refine r_get hX kf_X4_26 14 rfl rfl dX4_moveClock_109 ?_
          refine r_iconst (v := 4) hX dX4_moveClock_112 (by decide) ?_
          refine r_iload_n hX dX4_moveClock_113 rfl rfl ?_
          refine r_iadd hX dX4_moveClock_114 ?_
          rw [show (4 : Int32) + nI i14 = nI (4 + i14) from nI_add 4 i14]
          refine r_iald hX 20 0 rfl rfl (vp_in_nI (by omega) (by decide)) dX4_moveClock_115 ?_
          refine r_callV hX (c_X4_turn _ _ _ _ J11 _ (mWF2 eJ11 hJ) i14 hhi14 _ _ _) kv_X4_208 14 rfl rfl rfl rfl (Nat.le_of_ble_eq_true rfl) ⟨(Nat.le_of_ble_eq_true rfl), (Nat.le_of_ble_eq_true rfl)⟩ ⟨(Nat.le_of_ble_eq_true rfl), (Nat.le_of_ble_eq_true rfl)⟩ dX4_moveClock_116 (fun _ _ z => False.elim z) (fun v9 ws9 h39 => ?_)
          obtain ⟨r41, J42, hJ42, oJ42, rfl, hw9⟩ := h39
          subst ws9
          dsimp only [mPush]
          exact r_iret hX hE dX4_moveClock_119 (Nat.le_of_ble_eq_true rfl) (Nat.le_of_ble_eq_true rfl) ⟨_, J42, hJ42, (oJ42.trans ((congrArg Prod.fst eJ11).trans rfl)), rfl, rfl⟩
      · refine r_iload_n hX dX4_moveClock_37 rfl rfl ?_
        refine r_i2l hX dX4_moveClock_38 ?_
        refine r_lneg hX dX4_moveClock_39 ?_
        refine r_goto (tgt := 45) hX dX4_moveClock_40 (by decide) ?_
        refine r_lstore hX dX4_moveClock_45 (by decide) rfl ?_
        refine r_aload_n hX dX4_moveClock_47 rfl rfl ?_
        refine r_get hX kf_X4_23 14 rfl rfl dX4_moveClock_48 ?_
        refine r_iconst (v := 4) hX dX4_moveClock_51 (by decide) ?_
        refine r_iload_n hX dX4_moveClock_52 rfl rfl ?_
        refine r_iadd hX dX4_moveClock_53 ?_
        rw [show (4 : Int32) + nI i14 = nI (4 + i14) from nI_add 4 i14]
        refine r_iald hX 19 0 rfl rfl (vp_in_nI (by omega) (by decide)) dX4_moveClock_54 ?_
        refine r_i2l hX dX4_moveClock_55 ?_
        refine r_iload_n hX dX4_moveClock_56 rfl rfl ?_
        refine r_bipush (v := 7) hX dX4_moveClock_57 (by decide) ?_
        refine r_icmp_ne (tgt := 67) hX dX4_moveClock_59 (by decide) (fun c43 => ?_) (fun c43 => ?_)
        · refine r_lconst (v := 0) hX dX4_moveClock_67 (by decide) ?_
          refine r_ladd hX dX4_moveClock_68 ?_
          refine r_lstore hX dX4_moveClock_69 (by decide) rfl ?_
          refine r_aload_n hX dX4_moveClock_71 rfl rfl ?_
          refine r_iload_n hX dX4_moveClock_72 rfl rfl ?_
          refine r_aload_n hX dX4_moveClock_73 rfl rfl ?_
          refine r_get hX kf_X4_20 14 rfl rfl dX4_moveClock_74 ?_
          refine r_iconst (v := 4) hX dX4_moveClock_77 (by decide) ?_
          refine r_iload_n hX dX4_moveClock_78 rfl rfl ?_
          refine r_iadd hX dX4_moveClock_79 ?_
          rw [show (4 : Int32) + nI i14 = nI (4 + i14) from nI_add 4 i14]
          refine r_iald hX 18 0 rfl rfl (vp_in_nI (by omega) (by decide)) dX4_moveClock_80 ?_
          refine r_i2l hX dX4_moveClock_81 ?_
          refine r_lload hX dX4_moveClock_82 rfl ?_
          refine r_iload_n hX dX4_moveClock_84 rfl rfl ?_
          refine r_callS hX (c_X4_secondsOf _ _ _) ks_X4_188 rfl rfl (Nat.le_of_ble_eq_true rfl) ⟨(Nat.le_of_ble_eq_true rfl), (Nat.le_of_ble_eq_true rfl)⟩ ⟨(Nat.le_of_ble_eq_true rfl), (Nat.le_of_ble_eq_true rfl)⟩ dX4_moveClock_85 (fun _ _ z => False.elim z) (fun v9 ws9 h44 => ?_)
          obtain ⟨r46, rfl, hw9⟩ := h44
          subst ws9
          dsimp only [mPush]
          refine r_i2l hX dX4_moveClock_88 ?_
          refine r_lmul hX dX4_moveClock_89 ?_
          refine r_ladd hX dX4_moveClock_90 ?_
          refine r_lload hX dX4_moveClock_91 rfl ?_
          refine r_ldc2 hX kc_X4_96 dX4_moveClock_93 ?_
          refine r_callS hX (c_X4_whole _ _ _ _ (by decide)) ks_X4_92 rfl rfl (Nat.le_of_ble_eq_true rfl) ⟨(Nat.le_of_ble_eq_true rfl), (Nat.le_of_ble_eq_true rfl)⟩ ⟨(Nat.le_of_ble_eq_true rfl), (Nat.le_of_ble_eq_true rfl)⟩ dX4_moveClock_96 (fun _ _ z => False.elim z) (fun v9 ws9 h47 => ?_)
          obtain ⟨r49, rfl, hw9⟩ := h47
          subst ws9
          dsimp only [mPush]
          refine r_ladd hX dX4_moveClock_99 ?_
          refine r_lload hX dX4_moveClock_100 rfl ?_
          refine r_ldc2 hX kc_X4_96 dX4_moveClock_102 ?_
          refine r_callS hX (c_X4_rest _ _ _ _ (by decide)) ks_X4_102 rfl rfl (Nat.le_of_ble_eq_true rfl) ⟨(Nat.le_of_ble_eq_true rfl), (Nat.le_of_ble_eq_true rfl)⟩ ⟨(Nat.le_of_ble_eq_true rfl), (Nat.le_of_ble_eq_true rfl)⟩ dX4_moveClock_105 (fun _ _ z => False.elim z) (fun v9 ws9 h50 => ?_)
          obtain ⟨r52, rfl, hw9⟩ := h50
          subst ws9
          dsimp only [mPush]
          refine r_aload_n hX dX4_moveClock_108 rfl rfl ?_
          refine r_get hX kf_X4_26 14 rfl rfl dX4_moveClock_109 ?_
          refine r_iconst (v := 4) hX dX4_moveClock_112 (by decide) ?_
          refine r_iload_n hX dX4_moveClock_113 rfl rfl ?_
          refine r_iadd hX dX4_moveClock_114 ?_
          rw [show (4 : Int32) + nI i14 = nI (4 + i14) from nI_add 4 i14]
          refine r_iald hX 20 0 rfl rfl (vp_in_nI (by omega) (by decide)) dX4_moveClock_115 ?_
          refine r_callV hX (c_X4_turn _ _ _ _ J11 _ (mWF2 eJ11 hJ) i14 hhi14 _ _ _) kv_X4_208 14 rfl rfl rfl rfl (Nat.le_of_ble_eq_true rfl) ⟨(Nat.le_of_ble_eq_true rfl), (Nat.le_of_ble_eq_true rfl)⟩ ⟨(Nat.le_of_ble_eq_true rfl), (Nat.le_of_ble_eq_true rfl)⟩ dX4_moveClock_116 (fun _ _ z => False.elim z) (fun v9 ws9 h53 => ?_)
          obtain ⟨r55, J56, hJ56, oJ56, rfl, hw9⟩ := h53
          subst ws9
          dsimp only [mPush]
          exact r_iret hX hE dX4_moveClock_119 (Nat.le_of_ble_eq_true rfl) (Nat.le_of_ble_eq_true rfl) ⟨_, J56, hJ56, (oJ56.trans ((congrArg Prod.fst eJ11).trans rfl)), rfl, rfl⟩
        · refine r_lload hX dX4_moveClock_62 rfl ?_
          refine r_goto (tgt := 68) hX dX4_moveClock_64 (by decide) ?_
          refine r_ladd hX dX4_moveClock_68 ?_
          refine r_lstore hX dX4_moveClock_69 (by decide) rfl ?_
          refine r_aload_n hX dX4_moveClock_71 rfl rfl ?_
          refine r_iload_n hX dX4_moveClock_72 rfl rfl ?_
          refine r_aload_n hX dX4_moveClock_73 rfl rfl ?_
          refine r_get hX kf_X4_20 14 rfl rfl dX4_moveClock_74 ?_
          refine r_iconst (v := 4) hX dX4_moveClock_77 (by decide) ?_
          refine r_iload_n hX dX4_moveClock_78 rfl rfl ?_
          refine r_iadd hX dX4_moveClock_79 ?_
          rw [show (4 : Int32) + nI i14 = nI (4 + i14) from nI_add 4 i14]
          refine r_iald hX 18 0 rfl rfl (vp_in_nI (by omega) (by decide)) dX4_moveClock_80 ?_
          refine r_i2l hX dX4_moveClock_81 ?_
          refine r_lload hX dX4_moveClock_82 rfl ?_
          refine r_iload_n hX dX4_moveClock_84 rfl rfl ?_
          refine r_callS hX (c_X4_secondsOf _ _ _) ks_X4_188 rfl rfl (Nat.le_of_ble_eq_true rfl) ⟨(Nat.le_of_ble_eq_true rfl), (Nat.le_of_ble_eq_true rfl)⟩ ⟨(Nat.le_of_ble_eq_true rfl), (Nat.le_of_ble_eq_true rfl)⟩ dX4_moveClock_85 (fun _ _ z => False.elim z) (fun v9 ws9 h57 => ?_)
          obtain ⟨r59, rfl, hw9⟩ := h57
          subst ws9
          dsimp only [mPush]
          refine r_i2l hX dX4_moveClock_88 ?_
          refine r_lmul hX dX4_moveClock_89 ?_
          refine r_ladd hX dX4_moveClock_90 ?_
          refine r_lload hX dX4_moveClock_91 rfl ?_
          refine r_ldc2 hX kc_X4_96 dX4_moveClock_93 ?_
          refine r_callS hX (c_X4_whole _ _ _ _ (by decide)) ks_X4_92 rfl rfl (Nat.le_of_ble_eq_true rfl) ⟨(Nat.le_of_ble_eq_true rfl), (Nat.le_of_ble_eq_true rfl)⟩ ⟨(Nat.le_of_ble_eq_true rfl), (Nat.le_of_ble_eq_true rfl)⟩ dX4_moveClock_96 (fun _ _ z => False.elim z) (fun v9 ws9 h60 => ?_)
          obtain ⟨r62, rfl, hw9⟩ := h60
          subst ws9
          dsimp only [mPush]
          refine r_ladd hX dX4_moveClock_99 ?_
          refine r_lload hX dX4_moveClock_100 rfl ?_
          refine r_ldc2 hX kc_X4_96 dX4_moveClock_102 ?_
          refine r_callS hX (c_X4_rest _ _ _ _ (by decide)) ks_X4_102 rfl rfl (Nat.le_of_ble_eq_true rfl) ⟨(Nat.le_of_ble_eq_true rfl), (Nat.le_of_ble_eq_true rfl)⟩ ⟨(Nat.le_of_ble_eq_true rfl), (Nat.le_of_ble_eq_true rfl)⟩ dX4_moveClock_105 (fun _ _ z => False.elim z) (fun v9 ws9 h63 => ?_)
          obtain ⟨r65, rfl, hw9⟩ := h63
          subst ws9
          dsimp only [mPush]
          refine r_aload_n hX dX4_moveClock_108 rfl rfl ?_
          refine r_get hX kf_X4_26 14 rfl rfl dX4_moveClock_109 ?_
          refine r_iconst (v := 4) hX dX4_moveClock_112 (by decide) ?_
          refine r_iload_n hX dX4_moveClock_113 rfl rfl ?_
          refine r_iadd hX dX4_moveClock_114 ?_
          rw [show (4 : Int32) + nI i14 = nI (4 + i14) from nI_add 4 i14]
          refine r_iald hX 20 0 rfl rfl (vp_in_nI (by omega) (by decide)) dX4_moveClock_115 ?_
          refine r_callV hX (c_X4_turn _ _ _ _ J11 _ (mWF2 eJ11 hJ) i14 hhi14 _ _ _) kv_X4_208 14 rfl rfl rfl rfl (Nat.le_of_ble_eq_true rfl) ⟨(Nat.le_of_ble_eq_true rfl), (Nat.le_of_ble_eq_true rfl)⟩ ⟨(Nat.le_of_ble_eq_true rfl), (Nat.le_of_ble_eq_true rfl)⟩ dX4_moveClock_116 (fun _ _ z => False.elim z) (fun v9 ws9 h66 => ?_)
          obtain ⟨r68, J69, hJ69, oJ69, rfl, hw9⟩ := h66
          subst ws9
          dsimp only [mPush]
          exact r_iret hX hE dX4_moveClock_119 (Nat.le_of_ble_eq_true rfl) (Nat.le_of_ble_eq_true rfl) ⟨_, J69, hJ69, (oJ69.trans ((congrArg Prod.fst eJ11).trans rfl)), rfl, rfl⟩
    · refine r_iconst (v := 0) hX dX4_moveClock_30 (by decide) ?_
      exact r_iret hX hE dX4_moveClock_31 (Nat.le_of_ble_eq_true rfl) (Nat.le_of_ble_eq_true rfl) ⟨_, J11, (mWF2 eJ11 hJ), ((congrArg Prod.fst eJ11).trans rfl), rfl, rfl⟩
  · refine r_iconst (v := 1) hX dX4_moveClock_19 (by decide) ?_
    refine r_goto (tgt := 24) hX dX4_moveClock_20 (by decide) ?_
    refine r_callV hX (c_X4_isStopped _ _ _ _ _ _ _ _) kv_X4_68 14 rfl rfl rfl rfl (Nat.le_of_ble_eq_true rfl) ⟨(Nat.le_of_ble_eq_true rfl), (Nat.le_of_ble_eq_true rfl)⟩ ⟨(Nat.le_of_ble_eq_true rfl), (Nat.le_of_ble_eq_true rfl)⟩ dX4_moveClock_24 (fun _ _ z => False.elim z) (fun v9 ws9 h70 => ?_)
    obtain ⟨r72, J73, nr72, etJ73, erJ73, eJ73, rfl, hw9⟩ := h70
    subst ws9
    dsimp only [mPush]
    refine r_if_eq (tgt := 32) hX dX4_moveClock_27 (by decide) (fun c74 => ?_) (fun c74 => ?_)
    · have hs75 := mnone0 nr72 (by first | exact c74 | exact Classical.not_not.mp c74)
      exact absurd hs75.2 (by decide)
    · refine r_iconst (v := 0) hX dX4_moveClock_30 (by decide) ?_
      exact r_iret hX hE dX4_moveClock_31 (Nat.le_of_ble_eq_true rfl) (Nat.le_of_ble_eq_true rfl) ⟨_, J73, (mWF2 eJ73 hJ), ((congrArg Prod.fst eJ73).trans rfl), rfl, rfl⟩
theorem dX4_anewClock_0 : decode cX4_anewClock 0 = .ok (.aload_n 0, 1) := by decide +kernel
theorem dX4_anewClock_1 : decode cX4_anewClock 1 = .ok (.iload_n 1, 1) := by decide +kernel
theorem dX4_anewClock_2 : decode cX4_anewClock 2 = .ok (.invokestatic 205, 3) := by decide +kernel
theorem dX4_anewClock_5 : decode cX4_anewClock 5 = .ok (.ifCond .ne 10, 3) := by decide +kernel
theorem dX4_anewClock_8 : decode cX4_anewClock 8 = .ok (.iload_n 2, 1) := by decide +kernel
theorem dX4_anewClock_9 : decode cX4_anewClock 9 = .ok (.invokestatic 61, 3) := by decide +kernel
theorem dX4_anewClock_12 : decode cX4_anewClock 12 = .ok (.ifCond .eq 7, 3) := by decide +kernel
theorem dX4_anewClock_15 : decode cX4_anewClock 15 = .ok (.iconst 1, 1) := by decide +kernel
theorem dX4_anewClock_16 : decode cX4_anewClock 16 = .ok (.goto 4, 3) := by decide +kernel
theorem dX4_anewClock_19 : decode cX4_anewClock 19 = .ok (.iconst 0, 1) := by decide +kernel
theorem dX4_anewClock_20 : decode cX4_anewClock 20 = .ok (.iconst 0, 1) := by decide +kernel
theorem dX4_anewClock_21 : decode cX4_anewClock 21 = .ok (.invokevirtual 68, 3) := by decide +kernel
theorem dX4_anewClock_24 : decode cX4_anewClock 24 = .ok (.ifCond .eq 5, 3) := by decide +kernel
theorem dX4_anewClock_27 : decode cX4_anewClock 27 = .ok (.iconst 0, 1) := by decide +kernel
theorem dX4_anewClock_28 : decode cX4_anewClock 28 = .ok (.ireturn, 1) := by decide +kernel
theorem dX4_anewClock_29 : decode cX4_anewClock 29 = .ok (.iload_n 3, 1) := by decide +kernel
theorem dX4_anewClock_30 : decode cX4_anewClock 30 = .ok (.ifCond .eq 7, 3) := by decide +kernel
theorem dX4_anewClock_33 : decode cX4_anewClock 33 = .ok (.iconst 0, 1) := by decide +kernel
theorem dX4_anewClock_34 : decode cX4_anewClock 34 = .ok (.goto 18, 3) := by decide +kernel
theorem dX4_anewClock_37 : decode cX4_anewClock 37 = .ok (.aload_n 0, 1) := by decide +kernel
theorem dX4_anewClock_38 : decode cX4_anewClock 38 = .ok (.getfield 7, 3) := by decide +kernel
theorem dX4_anewClock_41 : decode cX4_anewClock 41 = .ok (.iload_n 2, 1) := by decide +kernel
theorem dX4_anewClock_42 : decode cX4_anewClock 42 = .ok (.iaload, 1) := by decide +kernel
theorem dX4_anewClock_43 : decode cX4_anewClock 43 = .ok (.aload_n 0, 1) := by decide +kernel
theorem dX4_anewClock_44 : decode cX4_anewClock 44 = .ok (.getfield 26, 3) := by decide +kernel
theorem dX4_anewClock_47 : decode cX4_anewClock 47 = .ok (.iconst 4, 1) := by decide +kernel
theorem dX4_anewClock_48 : decode cX4_anewClock 48 = .ok (.iload_n 1, 1) := by decide +kernel
theorem dX4_anewClock_49 : decode cX4_anewClock 49 = .ok (.iadd, 1) := by decide +kernel
theorem dX4_anewClock_50 : decode cX4_anewClock 50 = .ok (.iaload, 1) := by decide +kernel
theorem dX4_anewClock_51 : decode cX4_anewClock 51 = .ok (.isub, 1) := by decide +kernel
theorem dX4_anewClock_52 : decode cX4_anewClock 52 = .ok (.istore 4, 2) := by decide +kernel
theorem dX4_anewClock_54 : decode cX4_anewClock 54 = .ok (.aload_n 0, 1) := by decide +kernel
theorem dX4_anewClock_55 : decode cX4_anewClock 55 = .ok (.iload_n 1, 1) := by decide +kernel
theorem dX4_anewClock_56 : decode cX4_anewClock 56 = .ok (.aload_n 0, 1) := by decide +kernel
theorem dX4_anewClock_57 : decode cX4_anewClock 57 = .ok (.getfield 20, 3) := by decide +kernel
theorem dX4_anewClock_60 : decode cX4_anewClock 60 = .ok (.iconst 4, 1) := by decide +kernel
theorem dX4_anewClock_61 : decode cX4_anewClock 61 = .ok (.iload_n 1, 1) := by decide +kernel
theorem dX4_anewClock_62 : decode cX4_anewClock 62 = .ok (.iadd, 1) := by decide +kernel
theorem dX4_anewClock_63 : decode cX4_anewClock 63 = .ok (.iaload, 1) := by decide +kernel
theorem dX4_anewClock_64 : decode cX4_anewClock 64 = .ok (.iload 4, 2) := by decide +kernel
theorem dX4_anewClock_66 : decode cX4_anewClock 66 = .ok (.iadd, 1) := by decide +kernel
theorem dX4_anewClock_67 : decode cX4_anewClock 67 = .ok (.i2l, 1) := by decide +kernel
theorem dX4_anewClock_68 : decode cX4_anewClock 68 = .ok (.aload_n 0, 1) := by decide +kernel
theorem dX4_anewClock_69 : decode cX4_anewClock 69 = .ok (.getfield 23, 3) := by decide +kernel
theorem dX4_anewClock_72 : decode cX4_anewClock 72 = .ok (.iconst 4, 1) := by decide +kernel
theorem dX4_anewClock_73 : decode cX4_anewClock 73 = .ok (.iload_n 1, 1) := by decide +kernel
theorem dX4_anewClock_74 : decode cX4_anewClock 74 = .ok (.iadd, 1) := by decide +kernel
theorem dX4_anewClock_75 : decode cX4_anewClock 75 = .ok (.iaload, 1) := by decide +kernel
theorem dX4_anewClock_76 : decode cX4_anewClock 76 = .ok (.aload_n 0, 1) := by decide +kernel
theorem dX4_anewClock_77 : decode cX4_anewClock 77 = .ok (.getfield 7, 3) := by decide +kernel
theorem dX4_anewClock_80 : decode cX4_anewClock 80 = .ok (.iload_n 2, 1) := by decide +kernel
theorem dX4_anewClock_81 : decode cX4_anewClock 81 = .ok (.iaload, 1) := by decide +kernel
theorem dX4_anewClock_82 : decode cX4_anewClock 82 = .ok (.invokevirtual 208, 3) := by decide +kernel
theorem dX4_anewClock_85 : decode cX4_anewClock 85 = .ok (.ireturn, 1) := by decide +kernel
set_option maxHeartbeats 4000000 in
set_option maxRecDepth 20000 in
theorem c_X4_anewClock (ad ae : Nat → Nat) (cs : ClassId × ClassId × ClassId) (K : mK) (J : mJ) (rest : va_W) (hJ : mWF J) (p0 : Int32) (p1 : Int32) (p2 : Int32) : mCt (mTy cs) yX4_anewClock cX4_anewClock 5 (some .int) ⟨3, 0, 0, 71⟩ [.ref (ae 0), .int p0, .int p1, .int p2] (mRw ad ae cs K J rest) (mZi ad ae cs K J rest) mNo := by
  refine mCt.of (by decide +kernel) (Nat.le_of_ble_eq_true rfl) (fun X hX hE => ?_)
  have hX : mOK X RX4 cX4_anewClock 5 ⟨3, 0, 0, 71⟩ [] (mTy cs) := hX
  refine r_aload_n hX dX4_anewClock_0 rfl rfl ?_
  refine r_iload_n hX dX4_anewClock_1 rfl rfl ?_
  refine r_callS hX (c_X4_isNoClock _ _ _) ks_X4_205 rfl rfl (Nat.le_of_ble_eq_true rfl) ⟨(Nat.le_of_ble_eq_true rfl), (Nat.le_of_ble_eq_true rfl)⟩ ⟨(Nat.le_of_ble_eq_true rfl), (Nat.le_of_ble_eq_true rfl)⟩ dX4_anewClock_2 (fun _ _ z => False.elim z) (fun v9 ws9 h1 => ?_)
  obtain ⟨r3, nr3, rfl, hw9⟩ := h1
  subst ws9
  dsimp only [mPush]
  refine r_if_ne (tgt := 15) hX dX4_anewClock_5 (by decide) (fun c4 => ?_) (fun c4 => ?_)
  · refine r_iconst (v := 1) hX dX4_anewClock_15 (by decide) ?_
    refine r_goto (tgt := 20) hX dX4_anewClock_16 (by decide) ?_
    refine r_iconst (v := 0) hX dX4_anewClock_20 (by decide) ?_
    refine r_callV hX (c_X4_isStopped _ _ _ _ _ _ _ _) kv_X4_68 14 rfl rfl rfl rfl (Nat.le_of_ble_eq_true rfl) ⟨(Nat.le_of_ble_eq_true rfl), (Nat.le_of_ble_eq_true rfl)⟩ ⟨(Nat.le_of_ble_eq_true rfl), (Nat.le_of_ble_eq_true rfl)⟩ dX4_anewClock_21 (fun _ _ z => False.elim z) (fun v9 ws9 h5 => ?_)
    obtain ⟨r7, J8, nr7, etJ8, erJ8, eJ8, rfl, hw9⟩ := h5
    subst ws9
    dsimp only [mPush]
    refine r_if_eq (tgt := 29) hX dX4_anewClock_24 (by decide) (fun c9 => ?_) (fun c9 => ?_)
    · have hs10 := mnone0 nr7 (by first | exact c9 | exact Classical.not_not.mp c9)
      exact absurd hs10.1 (by decide)
    · refine r_iconst (v := 0) hX dX4_anewClock_27 (by decide) ?_
      exact r_iret hX hE dX4_anewClock_28 (Nat.le_of_ble_eq_true rfl) (Nat.le_of_ble_eq_true rfl) ⟨_, J8, (mWF2 eJ8 hJ), ((congrArg Prod.fst eJ8).trans rfl), rfl, rfl⟩
  · obtain ⟨i11, hhi11, rfl⟩ := mnone0 nr3 (by first | exact c4 | exact Classical.not_not.mp c4)
    refine r_iload_n hX dX4_anewClock_8 rfl rfl ?_
    refine r_callS hX (c_X4_isNone _ _ _) ks_X4_61 rfl rfl (Nat.le_of_ble_eq_true rfl) ⟨(Nat.le_of_ble_eq_true rfl), (Nat.le_of_ble_eq_true rfl)⟩ ⟨(Nat.le_of_ble_eq_true rfl), (Nat.le_of_ble_eq_true rfl)⟩ dX4_anewClock_9 (fun _ _ z => False.elim z) (fun v9 ws9 h12 => ?_)
    obtain ⟨r14, nr14, rfl, hw9⟩ := h12
    subst ws9
    dsimp only [mPush]
    refine r_if_eq (tgt := 19) hX dX4_anewClock_12 (by decide) (fun c15 => ?_) (fun c15 => ?_)
    · obtain ⟨i16, hhi16, rfl⟩ := mnone0 nr14 (by first | exact c15 | exact Classical.not_not.mp c15)
      refine r_iconst (v := 0) hX dX4_anewClock_19 (by decide) ?_
      refine r_iconst (v := 0) hX dX4_anewClock_20 (by decide) ?_
      refine r_callV hX (c_X4_isStopped _ _ _ _ _ _ _ _) kv_X4_68 14 rfl rfl rfl rfl (Nat.le_of_ble_eq_true rfl) ⟨(Nat.le_of_ble_eq_true rfl), (Nat.le_of_ble_eq_true rfl)⟩ ⟨(Nat.le_of_ble_eq_true rfl), (Nat.le_of_ble_eq_true rfl)⟩ dX4_anewClock_21 (fun _ _ z => False.elim z) (fun v9 ws9 h17 => ?_)
      obtain ⟨r19, J20, nr19, etJ20, erJ20, eJ20, rfl, hw9⟩ := h17
      subst ws9
      dsimp only [mPush]
      refine r_if_eq (tgt := 29) hX dX4_anewClock_24 (by decide) (fun c21 => ?_) (fun c21 => ?_)
      · have hs22 := mnone0 nr19 (by first | exact c21 | exact Classical.not_not.mp c21)
        refine r_iload_n hX dX4_anewClock_29 rfl rfl ?_
        refine r_if_eq (tgt := 37) hX dX4_anewClock_30 (by decide) (fun c23 => ?_) (fun c23 => ?_)
        · refine r_aload_n hX dX4_anewClock_37 rfl rfl ?_
          refine r_get hX kf_X4_7 14 rfl rfl dX4_anewClock_38 ?_
          refine r_iload_n hX dX4_anewClock_41 rfl rfl ?_
          refine r_iald hX 15 0 rfl rfl (vp_in_nI hhi16 (by decide)) dX4_anewClock_42 ?_
          refine r_aload_n hX dX4_anewClock_43 rfl rfl ?_
          refine r_get hX kf_X4_26 14 rfl rfl dX4_anewClock_44 ?_
          refine r_iconst (v := 4) hX dX4_anewClock_47 (by decide) ?_
          refine r_iload_n hX dX4_anewClock_48 rfl rfl ?_
          refine r_iadd hX dX4_anewClock_49 ?_
          rw [show (4 : Int32) + nI i11 = nI (4 + i11) from nI_add 4 i11]
          refine r_iald hX 20 0 rfl rfl (vp_in_nI (by omega) (by decide)) dX4_anewClock_50 ?_
          refine r_isub hX dX4_anewClock_51 ?_
          refine r_istore hX dX4_anewClock_52 (by decide) rfl ?_
          refine r_aload_n hX dX4_anewClock_54 rfl rfl ?_
          refine r_iload_n hX dX4_anewClock_55 rfl rfl ?_
          refine r_aload_n hX dX4_anewClock_56 rfl rfl ?_
          refine r_get hX kf_X4_20 14 rfl rfl dX4_anewClock_57 ?_
          refine r_iconst (v := 4) hX dX4_anewClock_60 (by decide) ?_
          refine r_iload_n hX dX4_anewClock_61 rfl rfl ?_
          refine r_iadd hX dX4_anewClock_62 ?_
          rw [show (4 : Int32) + nI i11 = nI (4 + i11) from nI_add 4 i11]
          refine r_iald hX 18 0 rfl rfl (vp_in_nI (by omega) (by decide)) dX4_anewClock_63 ?_
          refine r_iload hX dX4_anewClock_64 rfl ?_
          refine r_iadd hX dX4_anewClock_66 ?_
          refine r_i2l hX dX4_anewClock_67 ?_
          refine r_aload_n hX dX4_anewClock_68 rfl rfl ?_
          refine r_get hX kf_X4_23 14 rfl rfl dX4_anewClock_69 ?_
          refine r_iconst (v := 4) hX dX4_anewClock_72 (by decide) ?_
          refine r_iload_n hX dX4_anewClock_73 rfl rfl ?_
          refine r_iadd hX dX4_anewClock_74 ?_
          rw [show (4 : Int32) + nI i11 = nI (4 + i11) from nI_add 4 i11]
          refine r_iald hX 19 0 rfl rfl (vp_in_nI (by omega) (by decide)) dX4_anewClock_75 ?_
          refine r_aload_n hX dX4_anewClock_76 rfl rfl ?_
          refine r_get hX kf_X4_7 14 rfl rfl dX4_anewClock_77 ?_
          refine r_iload_n hX dX4_anewClock_80 rfl rfl ?_
          refine r_iald hX 15 0 rfl rfl (vp_in_nI hhi16 (by decide)) dX4_anewClock_81 ?_
          refine r_callV hX (c_X4_turn _ _ _ _ J20 _ (mWF2 eJ20 hJ) i11 hhi11 _ _ _) kv_X4_208 14 rfl rfl rfl rfl (Nat.le_of_ble_eq_true rfl) ⟨(Nat.le_of_ble_eq_true rfl), (Nat.le_of_ble_eq_true rfl)⟩ ⟨(Nat.le_of_ble_eq_true rfl), (Nat.le_of_ble_eq_true rfl)⟩ dX4_anewClock_82 (fun _ _ z => False.elim z) (fun v9 ws9 h24 => ?_)
          obtain ⟨r26, J27, hJ27, oJ27, rfl, hw9⟩ := h24
          subst ws9
          dsimp only [mPush]
          exact r_iret hX hE dX4_anewClock_85 (Nat.le_of_ble_eq_true rfl) (Nat.le_of_ble_eq_true rfl) ⟨_, J27, hJ27, (oJ27.trans ((congrArg Prod.fst eJ20).trans rfl)), rfl, rfl⟩
        · refine r_iconst (v := 0) hX dX4_anewClock_33 (by decide) ?_
          refine r_goto (tgt := 52) hX dX4_anewClock_34 (by decide) ?_
          refine r_istore hX dX4_anewClock_52 (by decide) rfl ?_
          refine r_aload_n hX dX4_anewClock_54 rfl rfl ?_
          refine r_iload_n hX dX4_anewClock_55 rfl rfl ?_
          refine r_aload_n hX dX4_anewClock_56 rfl rfl ?_
          refine r_get hX kf_X4_20 14 rfl rfl dX4_anewClock_57 ?_
          refine r_iconst (v := 4) hX dX4_anewClock_60 (by decide) ?_
          refine r_iload_n hX dX4_anewClock_61 rfl rfl ?_
          refine r_iadd hX dX4_anewClock_62 ?_
          rw [show (4 : Int32) + nI i11 = nI (4 + i11) from nI_add 4 i11]
          refine r_iald hX 18 0 rfl rfl (vp_in_nI (by omega) (by decide)) dX4_anewClock_63 ?_
          refine r_iload hX dX4_anewClock_64 rfl ?_
          refine r_iadd hX dX4_anewClock_66 ?_
          refine r_i2l hX dX4_anewClock_67 ?_
          refine r_aload_n hX dX4_anewClock_68 rfl rfl ?_
          refine r_get hX kf_X4_23 14 rfl rfl dX4_anewClock_69 ?_
          refine r_iconst (v := 4) hX dX4_anewClock_72 (by decide) ?_
          refine r_iload_n hX dX4_anewClock_73 rfl rfl ?_
          refine r_iadd hX dX4_anewClock_74 ?_
          rw [show (4 : Int32) + nI i11 = nI (4 + i11) from nI_add 4 i11]
          refine r_iald hX 19 0 rfl rfl (vp_in_nI (by omega) (by decide)) dX4_anewClock_75 ?_
          refine r_aload_n hX dX4_anewClock_76 rfl rfl ?_
          refine r_get hX kf_X4_7 14 rfl rfl dX4_anewClock_77 ?_
          refine r_iload_n hX dX4_anewClock_80 rfl rfl ?_
          refine r_iald hX 15 0 rfl rfl (vp_in_nI hhi16 (by decide)) dX4_anewClock_81 ?_
          refine r_callV hX (c_X4_turn _ _ _ _ J20 _ (mWF2 eJ20 hJ) i11 hhi11 _ _ _) kv_X4_208 14 rfl rfl rfl rfl (Nat.le_of_ble_eq_true rfl) ⟨(Nat.le_of_ble_eq_true rfl), (Nat.le_of_ble_eq_true rfl)⟩ ⟨(Nat.le_of_ble_eq_true rfl), (Nat.le_of_ble_eq_true rfl)⟩ dX4_anewClock_82 (fun _ _ z => False.elim z) (fun v9 ws9 h28 => ?_)
          obtain ⟨r30, J31, hJ31, oJ31, rfl, hw9⟩ := h28
          subst ws9
          dsimp only [mPush]
          exact r_iret hX hE dX4_anewClock_85 (Nat.le_of_ble_eq_true rfl) (Nat.le_of_ble_eq_true rfl) ⟨_, J31, hJ31, (oJ31.trans ((congrArg Prod.fst eJ20).trans rfl)), rfl, rfl⟩
      · refine r_iconst (v := 0) hX dX4_anewClock_27 (by decide) ?_
        exact r_iret hX hE dX4_anewClock_28 (Nat.le_of_ble_eq_true rfl) (Nat.le_of_ble_eq_true rfl) ⟨_, J20, (mWF2 eJ20 hJ), ((congrArg Prod.fst eJ20).trans rfl), rfl, rfl⟩
    · refine r_iconst (v := 1) hX dX4_anewClock_15 (by decide) ?_
      refine r_goto (tgt := 20) hX dX4_anewClock_16 (by decide) ?_
      refine r_iconst (v := 0) hX dX4_anewClock_20 (by decide) ?_
      refine r_callV hX (c_X4_isStopped _ _ _ _ _ _ _ _) kv_X4_68 14 rfl rfl rfl rfl (Nat.le_of_ble_eq_true rfl) ⟨(Nat.le_of_ble_eq_true rfl), (Nat.le_of_ble_eq_true rfl)⟩ ⟨(Nat.le_of_ble_eq_true rfl), (Nat.le_of_ble_eq_true rfl)⟩ dX4_anewClock_21 (fun _ _ z => False.elim z) (fun v9 ws9 h32 => ?_)
      obtain ⟨r34, J35, nr34, etJ35, erJ35, eJ35, rfl, hw9⟩ := h32
      subst ws9
      dsimp only [mPush]
      refine r_if_eq (tgt := 29) hX dX4_anewClock_24 (by decide) (fun c36 => ?_) (fun c36 => ?_)
      · have hs37 := mnone0 nr34 (by first | exact c36 | exact Classical.not_not.mp c36)
        exact absurd hs37.1 (by decide)
      · refine r_iconst (v := 0) hX dX4_anewClock_27 (by decide) ?_
        exact r_iret hX hE dX4_anewClock_28 (Nat.le_of_ble_eq_true rfl) (Nat.le_of_ble_eq_true rfl) ⟨_, J35, (mWF2 eJ35 hJ), ((congrArg Prod.fst eJ35).trans rfl), rfl, rfl⟩
theorem dX4_clockTold_0 : decode cX4_clockTold 0 = .ok (.iload_n 2, 1) := by decide +kernel
theorem dX4_clockTold_1 : decode cX4_clockTold 1 = .ok (.iconst 4, 1) := by decide +kernel
theorem dX4_clockTold_2 : decode cX4_clockTold 2 = .ok (.if_icmp .ge 16, 3) := by decide +kernel
theorem dX4_clockTold_5 : decode cX4_clockTold 5 = .ok (.aload_n 0, 1) := by decide +kernel
theorem dX4_clockTold_6 : decode cX4_clockTold 6 = .ok (.iconst 4, 1) := by decide +kernel
theorem dX4_clockTold_7 : decode cX4_clockTold 7 = .ok (.iload_n 1, 1) := by decide +kernel
theorem dX4_clockTold_8 : decode cX4_clockTold 8 = .ok (.iadd, 1) := by decide +kernel
theorem dX4_clockTold_9 : decode cX4_clockTold 9 = .ok (.iconst 4, 1) := by decide +kernel
theorem dX4_clockTold_10 : decode cX4_clockTold 10 = .ok (.iload_n 2, 1) := by decide +kernel
theorem dX4_clockTold_11 : decode cX4_clockTold 11 = .ok (.iadd, 1) := by decide +kernel
theorem dX4_clockTold_12 : decode cX4_clockTold 12 = .ok (.invokevirtual 193, 3) := by decide +kernel
theorem dX4_clockTold_15 : decode cX4_clockTold 15 = .ok (.goto 27, 3) := by decide +kernel
theorem dX4_clockTold_18 : decode cX4_clockTold 18 = .ok (.iload_n 2, 1) := by decide +kernel
theorem dX4_clockTold_19 : decode cX4_clockTold 19 = .ok (.iconst 4, 1) := by decide +kernel
theorem dX4_clockTold_20 : decode cX4_clockTold 20 = .ok (.if_icmp .ne 14, 3) := by decide +kernel
theorem dX4_clockTold_23 : decode cX4_clockTold 23 = .ok (.aload_n 0, 1) := by decide +kernel
theorem dX4_clockTold_24 : decode cX4_clockTold 24 = .ok (.getfield 26, 3) := by decide +kernel
theorem dX4_clockTold_27 : decode cX4_clockTold 27 = .ok (.iconst 4, 1) := by decide +kernel
theorem dX4_clockTold_28 : decode cX4_clockTold 28 = .ok (.iload_n 1, 1) := by decide +kernel
theorem dX4_clockTold_29 : decode cX4_clockTold 29 = .ok (.iadd, 1) := by decide +kernel
theorem dX4_clockTold_30 : decode cX4_clockTold 30 = .ok (.iaload, 1) := by decide +kernel
theorem dX4_clockTold_31 : decode cX4_clockTold 31 = .ok (.goto 11, 3) := by decide +kernel
theorem dX4_clockTold_34 : decode cX4_clockTold 34 = .ok (.aload_n 0, 1) := by decide +kernel
theorem dX4_clockTold_35 : decode cX4_clockTold 35 = .ok (.getfield 20, 3) := by decide +kernel
theorem dX4_clockTold_38 : decode cX4_clockTold 38 = .ok (.iconst 4, 1) := by decide +kernel
theorem dX4_clockTold_39 : decode cX4_clockTold 39 = .ok (.iload_n 1, 1) := by decide +kernel
theorem dX4_clockTold_40 : decode cX4_clockTold 40 = .ok (.iadd, 1) := by decide +kernel
theorem dX4_clockTold_41 : decode cX4_clockTold 41 = .ok (.iaload, 1) := by decide +kernel
theorem dX4_clockTold_42 : decode cX4_clockTold 42 = .ok (.ireturn, 1) := by decide +kernel
set_option maxHeartbeats 4000000 in
set_option maxRecDepth 20000 in
theorem c_X4_clockTold (ad ae : Nat → Nat) (cs : ClassId × ClassId × ClassId) (K : mK) (J : mJ) (rest : va_W) (hJ : mWF J) (j0 : Nat) (hj0 : j0 < 3) (j1 : Nat) (hj1 : j1 < 6) : mCt (mTy cs) yX4_clockTold cX4_clockTold 3 (some .int) ⟨6, 1, 4, 142⟩ [.ref (ae 0), .int (nI j0), .int (nI j1)] (mRw ad ae cs K J rest) (mZi ad ae cs K J rest) mNo := by
  refine mCt.of (by decide +kernel) (Nat.le_of_ble_eq_true rfl) (fun X hX hE => ?_)
  have hX : mOK X RX4 cX4_clockTold 3 ⟨6, 1, 4, 142⟩ [] (mTy cs) := hX
  refine r_iload_n hX dX4_clockTold_0 rfl rfl ?_
  refine r_iconst (v := 4) hX dX4_clockTold_1 (by decide) ?_
  refine r_icmp_ge (tgt := 18) hX dX4_clockTold_2 (by decide) (fun c1 => ?_) (fun c1 => ?_)
  · refine r_iload_n hX dX4_clockTold_18 rfl rfl ?_
    refine r_iconst (v := 4) hX dX4_clockTold_19 (by decide) ?_
    refine r_icmp_ne (tgt := 34) hX dX4_clockTold_20 (by decide) (fun c2 => ?_) (fun c2 => ?_)
    · refine r_aload_n hX dX4_clockTold_34 rfl rfl ?_
      refine r_get hX kf_X4_20 14 rfl rfl dX4_clockTold_35 ?_
      refine r_iconst (v := 4) hX dX4_clockTold_38 (by decide) ?_
      refine r_iload_n hX dX4_clockTold_39 rfl rfl ?_
      refine r_iadd hX dX4_clockTold_40 ?_
      rw [show (4 : Int32) + nI j0 = nI (4 + j0) from nI_add 4 j0]
      refine r_iald hX 18 0 rfl rfl (vp_in_nI (by omega) (by decide)) dX4_clockTold_41 ?_
      exact r_iret hX hE dX4_clockTold_42 (Nat.le_of_ble_eq_true rfl) (Nat.le_of_ble_eq_true rfl) ⟨_, J, hJ, rfl, rfl, rfl⟩
    · refine r_aload_n hX dX4_clockTold_23 rfl rfl ?_
      refine r_get hX kf_X4_26 14 rfl rfl dX4_clockTold_24 ?_
      refine r_iconst (v := 4) hX dX4_clockTold_27 (by decide) ?_
      refine r_iload_n hX dX4_clockTold_28 rfl rfl ?_
      refine r_iadd hX dX4_clockTold_29 ?_
      rw [show (4 : Int32) + nI j0 = nI (4 + j0) from nI_add 4 j0]
      refine r_iald hX 20 0 rfl rfl (vp_in_nI (by omega) (by decide)) dX4_clockTold_30 ?_
      refine r_goto (tgt := 42) hX dX4_clockTold_31 (by decide) ?_
      exact r_iret hX hE dX4_clockTold_42 (Nat.le_of_ble_eq_true rfl) (Nat.le_of_ble_eq_true rfl) ⟨_, J, hJ, rfl, rfl, rfl⟩
  · have hb3 : j1 < 4 := mlt2 (by first | rfl | decide) (by decide) (by omega) c1
    refine r_aload_n hX dX4_clockTold_5 rfl rfl ?_
    refine r_iconst (v := 4) hX dX4_clockTold_6 (by decide) ?_
    refine r_iload_n hX dX4_clockTold_7 rfl rfl ?_
    refine r_iadd hX dX4_clockTold_8 ?_
    rw [show (4 : Int32) + nI j0 = nI (4 + j0) from nI_add 4 j0]
    refine r_iconst (v := 4) hX dX4_clockTold_9 (by decide) ?_
    refine r_iload_n hX dX4_clockTold_10 rfl rfl ?_
    refine r_iadd hX dX4_clockTold_11 ?_
    rw [show (4 : Int32) + nI j1 = nI (4 + j1) from nI_add 4 j1]
    refine r_callV hX (c_X4_told _ _ _ _ J _ hJ (4 + j0) (by omega) (4 + j1) (by omega)) kv_X4_193 14 rfl rfl rfl rfl (Nat.le_of_ble_eq_true rfl) ⟨(Nat.le_of_ble_eq_true rfl), (Nat.le_of_ble_eq_true rfl)⟩ ⟨(Nat.le_of_ble_eq_true rfl), (Nat.le_of_ble_eq_true rfl)⟩ dX4_clockTold_12 (fun _ _ z => False.elim z) (fun v9 ws9 h4 => ?_)
    obtain ⟨r6, J7, hJ7, oJ7, rfl, hw9⟩ := h4
    subst ws9
    dsimp only [mPush]
    refine r_goto (tgt := 42) hX dX4_clockTold_15 (by decide) ?_
    exact r_iret hX hE dX4_clockTold_42 (Nat.le_of_ble_eq_true rfl) (Nat.le_of_ble_eq_true rfl) ⟨_, J7, hJ7, (oJ7.trans rfl), rfl, rfl⟩
theorem dX4_ofClock_0 : decode cX4_ofClock 0 = .ok (.aload_n 0, 1) := by decide +kernel
theorem dX4_ofClock_1 : decode cX4_ofClock 1 = .ok (.iload_n 1, 1) := by decide +kernel
theorem dX4_ofClock_2 : decode cX4_ofClock 2 = .ok (.invokestatic 205, 3) := by decide +kernel
theorem dX4_ofClock_5 : decode cX4_ofClock 5 = .ok (.iload_n 2, 1) := by decide +kernel
theorem dX4_ofClock_6 : decode cX4_ofClock 6 = .ok (.i2l, 1) := by decide +kernel
theorem dX4_ofClock_7 : decode cX4_ofClock 7 = .ok (.lconst 0, 1) := by decide +kernel
theorem dX4_ofClock_8 : decode cX4_ofClock 8 = .ok (.ldc2_w 214, 3) := by decide +kernel
theorem dX4_ofClock_11 : decode cX4_ofClock 11 = .ok (.invokestatic 38, 3) := by decide +kernel
theorem dX4_ofClock_14 : decode cX4_ofClock 14 = .ok (.ifCond .ne 7, 3) := by decide +kernel
theorem dX4_ofClock_17 : decode cX4_ofClock 17 = .ok (.iconst 1, 1) := by decide +kernel
theorem dX4_ofClock_18 : decode cX4_ofClock 18 = .ok (.goto 4, 3) := by decide +kernel
theorem dX4_ofClock_21 : decode cX4_ofClock 21 = .ok (.iconst 0, 1) := by decide +kernel
theorem dX4_ofClock_22 : decode cX4_ofClock 22 = .ok (.invokevirtual 68, 3) := by decide +kernel
theorem dX4_ofClock_25 : decode cX4_ofClock 25 = .ok (.ifCond .eq 7, 3) := by decide +kernel
theorem dX4_ofClock_28 : decode cX4_ofClock 28 = .ok (.iconst 0, 1) := by decide +kernel
theorem dX4_ofClock_29 : decode cX4_ofClock 29 = .ok (.goto 9, 3) := by decide +kernel
theorem dX4_ofClock_32 : decode cX4_ofClock 32 = .ok (.aload_n 0, 1) := by decide +kernel
theorem dX4_ofClock_33 : decode cX4_ofClock 33 = .ok (.iload_n 1, 1) := by decide +kernel
theorem dX4_ofClock_34 : decode cX4_ofClock 34 = .ok (.iload_n 2, 1) := by decide +kernel
theorem dX4_ofClock_35 : decode cX4_ofClock 35 = .ok (.invokevirtual 216, 3) := by decide +kernel
theorem dX4_ofClock_38 : decode cX4_ofClock 38 = .ok (.ireturn, 1) := by decide +kernel
set_option maxHeartbeats 4000000 in
set_option maxRecDepth 20000 in
theorem c_X4_ofClock (ad ae : Nat → Nat) (cs : ClassId × ClassId × ClassId) (K : mK) (J : mJ) (rest : va_W) (hJ : mWF J) (p0 : Int32) (p1 : Int32) : mCt (mTy cs) yX4_ofClock cX4_ofClock 3 (some .int) ⟨7, 1, 4, 164⟩ [.ref (ae 0), .int p0, .int p1] (mRw ad ae cs K J rest) (mZi ad ae cs K J rest) mNo := by
  refine mCt.of (by decide +kernel) (Nat.le_of_ble_eq_true rfl) (fun X hX hE => ?_)
  have hX : mOK X RX4 cX4_ofClock 3 ⟨7, 1, 4, 164⟩ [] (mTy cs) := hX
  refine r_aload_n hX dX4_ofClock_0 rfl rfl ?_
  refine r_iload_n hX dX4_ofClock_1 rfl rfl ?_
  refine r_callS hX (c_X4_isNoClock _ _ _) ks_X4_205 rfl rfl (Nat.le_of_ble_eq_true rfl) ⟨(Nat.le_of_ble_eq_true rfl), (Nat.le_of_ble_eq_true rfl)⟩ ⟨(Nat.le_of_ble_eq_true rfl), (Nat.le_of_ble_eq_true rfl)⟩ dX4_ofClock_2 (fun _ _ z => False.elim z) (fun v9 ws9 h1 => ?_)
  obtain ⟨r3, nr3, rfl, hw9⟩ := h1
  subst ws9
  dsimp only [mPush]
  refine r_iload_n hX dX4_ofClock_5 rfl rfl ?_
  refine r_i2l hX dX4_ofClock_6 ?_
  refine r_lconst (v := 0) hX dX4_ofClock_7 (by decide) ?_
  refine r_ldc2 hX kc_X4_214 dX4_ofClock_8 ?_
  refine r_callS hX (c_X4_isIn _ _ _ _ _) ks_X4_38 rfl rfl (Nat.le_of_ble_eq_true rfl) ⟨(Nat.le_of_ble_eq_true rfl), (Nat.le_of_ble_eq_true rfl)⟩ ⟨(Nat.le_of_ble_eq_true rfl), (Nat.le_of_ble_eq_true rfl)⟩ dX4_ofClock_11 (fun _ _ z => False.elim z) (fun v9 ws9 h4 => ?_)
  obtain ⟨rfl, hw9⟩ := h4
  subst ws9
  dsimp only [mPush]
  refine r_if_ne (tgt := 21) hX dX4_ofClock_14 (by decide) (fun c6 => ?_) (fun c6 => ?_)
  · obtain ⟨i7, li7, hhi7, rfl⟩ := fwin 0 5 (by decide) (by decide) (by decide) (by decide) c6
    refine r_iconst (v := 0) hX dX4_ofClock_21 (by decide) ?_
    refine r_callV hX (c_X4_isStopped _ _ _ _ _ _ _ _) kv_X4_68 14 rfl rfl rfl rfl (Nat.le_of_ble_eq_true rfl) ⟨(Nat.le_of_ble_eq_true rfl), (Nat.le_of_ble_eq_true rfl)⟩ ⟨(Nat.le_of_ble_eq_true rfl), (Nat.le_of_ble_eq_true rfl)⟩ dX4_ofClock_22 (fun _ _ z => False.elim z) (fun v9 ws9 h8 => ?_)
    obtain ⟨r10, J11, nr10, etJ11, erJ11, eJ11, rfl, hw9⟩ := h8
    subst ws9
    dsimp only [mPush]
    refine r_if_eq (tgt := 32) hX dX4_ofClock_25 (by decide) (fun c12 => ?_) (fun c12 => ?_)
    · have hs13 := mnone0 nr10 (by first | exact c12 | exact Classical.not_not.mp c12)
      obtain ⟨i14, hhi14, rfl⟩ := mnone0 nr3 hs13.1
      refine r_aload_n hX dX4_ofClock_32 rfl rfl ?_
      refine r_iload_n hX dX4_ofClock_33 rfl rfl ?_
      refine r_iload_n hX dX4_ofClock_34 rfl rfl ?_
      refine r_callV hX (c_X4_clockTold _ _ _ _ J11 _ (mWF2 eJ11 hJ) i14 hhi14 i7 hhi7) kv_X4_216 14 rfl rfl rfl rfl (Nat.le_of_ble_eq_true rfl) ⟨(Nat.le_of_ble_eq_true rfl), (Nat.le_of_ble_eq_true rfl)⟩ ⟨(Nat.le_of_ble_eq_true rfl), (Nat.le_of_ble_eq_true rfl)⟩ dX4_ofClock_35 (fun _ _ z => False.elim z) (fun v9 ws9 h15 => ?_)
      obtain ⟨r17, J18, hJ18, oJ18, rfl, hw9⟩ := h15
      subst ws9
      dsimp only [mPush]
      exact r_iret hX hE dX4_ofClock_38 (Nat.le_of_ble_eq_true rfl) (Nat.le_of_ble_eq_true rfl) ⟨_, J18, hJ18, (oJ18.trans ((congrArg Prod.fst eJ11).trans rfl)), rfl, rfl⟩
    · refine r_iconst (v := 0) hX dX4_ofClock_28 (by decide) ?_
      refine r_goto (tgt := 38) hX dX4_ofClock_29 (by decide) ?_
      exact r_iret hX hE dX4_ofClock_38 (Nat.le_of_ble_eq_true rfl) (Nat.le_of_ble_eq_true rfl) ⟨_, J11, (mWF2 eJ11 hJ), ((congrArg Prod.fst eJ11).trans rfl), rfl, rfl⟩
  · refine r_iconst (v := 1) hX dX4_ofClock_17 (by decide) ?_
    refine r_goto (tgt := 22) hX dX4_ofClock_18 (by decide) ?_
    refine r_callV hX (c_X4_isStopped _ _ _ _ _ _ _ _) kv_X4_68 14 rfl rfl rfl rfl (Nat.le_of_ble_eq_true rfl) ⟨(Nat.le_of_ble_eq_true rfl), (Nat.le_of_ble_eq_true rfl)⟩ ⟨(Nat.le_of_ble_eq_true rfl), (Nat.le_of_ble_eq_true rfl)⟩ dX4_ofClock_22 (fun _ _ z => False.elim z) (fun v9 ws9 h19 => ?_)
    obtain ⟨r21, J22, nr21, etJ22, erJ22, eJ22, rfl, hw9⟩ := h19
    subst ws9
    dsimp only [mPush]
    refine r_if_eq (tgt := 32) hX dX4_ofClock_25 (by decide) (fun c23 => ?_) (fun c23 => ?_)
    · have hs24 := mnone0 nr21 (by first | exact c23 | exact Classical.not_not.mp c23)
      exact absurd hs24.2 (by decide)
    · refine r_iconst (v := 0) hX dX4_ofClock_28 (by decide) ?_
      refine r_goto (tgt := 38) hX dX4_ofClock_29 (by decide) ?_
      exact r_iret hX hE dX4_ofClock_38 (Nat.le_of_ble_eq_true rfl) (Nat.le_of_ble_eq_true rfl) ⟨_, J22, (mWF2 eJ22 hJ), ((congrArg Prod.fst eJ22).trans rfl), rfl, rfl⟩
theorem dX4_orderClock_0 : decode cX4_orderClock 0 = .ok (.aload_n 0, 1) := by decide +kernel
theorem dX4_orderClock_1 : decode cX4_orderClock 1 = .ok (.iload_n 1, 1) := by decide +kernel
theorem dX4_orderClock_2 : decode cX4_orderClock 2 = .ok (.invokestatic 205, 3) := by decide +kernel
theorem dX4_orderClock_5 : decode cX4_orderClock 5 = .ok (.ifCond .ne 10, 3) := by decide +kernel
theorem dX4_orderClock_8 : decode cX4_orderClock 8 = .ok (.iload_n 2, 1) := by decide +kernel
theorem dX4_orderClock_9 : decode cX4_orderClock 9 = .ok (.invokestatic 205, 3) := by decide +kernel
theorem dX4_orderClock_12 : decode cX4_orderClock 12 = .ok (.ifCond .eq 7, 3) := by decide +kernel
theorem dX4_orderClock_15 : decode cX4_orderClock 15 = .ok (.iconst 1, 1) := by decide +kernel
theorem dX4_orderClock_16 : decode cX4_orderClock 16 = .ok (.goto 4, 3) := by decide +kernel
theorem dX4_orderClock_19 : decode cX4_orderClock 19 = .ok (.iconst 0, 1) := by decide +kernel
theorem dX4_orderClock_20 : decode cX4_orderClock 20 = .ok (.iconst 0, 1) := by decide +kernel
theorem dX4_orderClock_21 : decode cX4_orderClock 21 = .ok (.invokevirtual 68, 3) := by decide +kernel
theorem dX4_orderClock_24 : decode cX4_orderClock 24 = .ok (.ifCond .eq 7, 3) := by decide +kernel
theorem dX4_orderClock_27 : decode cX4_orderClock 27 = .ok (.iconst 0, 1) := by decide +kernel
theorem dX4_orderClock_28 : decode cX4_orderClock 28 = .ok (.goto 13, 3) := by decide +kernel
theorem dX4_orderClock_31 : decode cX4_orderClock 31 = .ok (.aload_n 0, 1) := by decide +kernel
theorem dX4_orderClock_32 : decode cX4_orderClock 32 = .ok (.iconst 4, 1) := by decide +kernel
theorem dX4_orderClock_33 : decode cX4_orderClock 33 = .ok (.iload_n 1, 1) := by decide +kernel
theorem dX4_orderClock_34 : decode cX4_orderClock 34 = .ok (.iadd, 1) := by decide +kernel
theorem dX4_orderClock_35 : decode cX4_orderClock 35 = .ok (.iconst 4, 1) := by decide +kernel
theorem dX4_orderClock_36 : decode cX4_orderClock 36 = .ok (.iload_n 2, 1) := by decide +kernel
theorem dX4_orderClock_37 : decode cX4_orderClock 37 = .ok (.iadd, 1) := by decide +kernel
theorem dX4_orderClock_38 : decode cX4_orderClock 38 = .ok (.invokevirtual 196, 3) := by decide +kernel
theorem dX4_orderClock_41 : decode cX4_orderClock 41 = .ok (.ireturn, 1) := by decide +kernel
set_option maxHeartbeats 4000000 in
set_option maxRecDepth 20000 in
theorem c_X4_orderClock (ad ae : Nat → Nat) (cs : ClassId × ClassId × ClassId) (K : mK) (J : mJ) (rest : va_W) (hJ : mWF J) (p0 : Int32) (p1 : Int32) : mCt (mTy cs) yX4_orderClock cX4_orderClock 3 (some .int) ⟨3, 0, 0, 65⟩ [.ref (ae 0), .int p0, .int p1] (mRw ad ae cs K J rest) (mZi ad ae cs K J rest) mNo := by
  refine mCt.of (by decide +kernel) (Nat.le_of_ble_eq_true rfl) (fun X hX hE => ?_)
  have hX : mOK X RX4 cX4_orderClock 3 ⟨3, 0, 0, 65⟩ [] (mTy cs) := hX
  refine r_aload_n hX dX4_orderClock_0 rfl rfl ?_
  refine r_iload_n hX dX4_orderClock_1 rfl rfl ?_
  refine r_callS hX (c_X4_isNoClock _ _ _) ks_X4_205 rfl rfl (Nat.le_of_ble_eq_true rfl) ⟨(Nat.le_of_ble_eq_true rfl), (Nat.le_of_ble_eq_true rfl)⟩ ⟨(Nat.le_of_ble_eq_true rfl), (Nat.le_of_ble_eq_true rfl)⟩ dX4_orderClock_2 (fun _ _ z => False.elim z) (fun v9 ws9 h1 => ?_)
  obtain ⟨r3, nr3, rfl, hw9⟩ := h1
  subst ws9
  dsimp only [mPush]
  refine r_if_ne (tgt := 15) hX dX4_orderClock_5 (by decide) (fun c4 => ?_) (fun c4 => ?_)
  · refine r_iconst (v := 1) hX dX4_orderClock_15 (by decide) ?_
    refine r_goto (tgt := 20) hX dX4_orderClock_16 (by decide) ?_
    refine r_iconst (v := 0) hX dX4_orderClock_20 (by decide) ?_
    refine r_callV hX (c_X4_isStopped _ _ _ _ _ _ _ _) kv_X4_68 14 rfl rfl rfl rfl (Nat.le_of_ble_eq_true rfl) ⟨(Nat.le_of_ble_eq_true rfl), (Nat.le_of_ble_eq_true rfl)⟩ ⟨(Nat.le_of_ble_eq_true rfl), (Nat.le_of_ble_eq_true rfl)⟩ dX4_orderClock_21 (fun _ _ z => False.elim z) (fun v9 ws9 h5 => ?_)
    obtain ⟨r7, J8, nr7, etJ8, erJ8, eJ8, rfl, hw9⟩ := h5
    subst ws9
    dsimp only [mPush]
    refine r_if_eq (tgt := 31) hX dX4_orderClock_24 (by decide) (fun c9 => ?_) (fun c9 => ?_)
    · have hs10 := mnone0 nr7 (by first | exact c9 | exact Classical.not_not.mp c9)
      exact absurd hs10.1 (by decide)
    · refine r_iconst (v := 0) hX dX4_orderClock_27 (by decide) ?_
      refine r_goto (tgt := 41) hX dX4_orderClock_28 (by decide) ?_
      exact r_iret hX hE dX4_orderClock_41 (Nat.le_of_ble_eq_true rfl) (Nat.le_of_ble_eq_true rfl) ⟨_, J8, (mWF2 eJ8 hJ), ((congrArg Prod.fst eJ8).trans rfl), rfl, rfl⟩
  · obtain ⟨i11, hhi11, rfl⟩ := mnone0 nr3 (by first | exact c4 | exact Classical.not_not.mp c4)
    refine r_iload_n hX dX4_orderClock_8 rfl rfl ?_
    refine r_callS hX (c_X4_isNoClock _ _ _) ks_X4_205 rfl rfl (Nat.le_of_ble_eq_true rfl) ⟨(Nat.le_of_ble_eq_true rfl), (Nat.le_of_ble_eq_true rfl)⟩ ⟨(Nat.le_of_ble_eq_true rfl), (Nat.le_of_ble_eq_true rfl)⟩ dX4_orderClock_9 (fun _ _ z => False.elim z) (fun v9 ws9 h12 => ?_)
    obtain ⟨r14, nr14, rfl, hw9⟩ := h12
    subst ws9
    dsimp only [mPush]
    refine r_if_eq (tgt := 19) hX dX4_orderClock_12 (by decide) (fun c15 => ?_) (fun c15 => ?_)
    · obtain ⟨i16, hhi16, rfl⟩ := mnone0 nr14 (by first | exact c15 | exact Classical.not_not.mp c15)
      refine r_iconst (v := 0) hX dX4_orderClock_19 (by decide) ?_
      refine r_iconst (v := 0) hX dX4_orderClock_20 (by decide) ?_
      refine r_callV hX (c_X4_isStopped _ _ _ _ _ _ _ _) kv_X4_68 14 rfl rfl rfl rfl (Nat.le_of_ble_eq_true rfl) ⟨(Nat.le_of_ble_eq_true rfl), (Nat.le_of_ble_eq_true rfl)⟩ ⟨(Nat.le_of_ble_eq_true rfl), (Nat.le_of_ble_eq_true rfl)⟩ dX4_orderClock_21 (fun _ _ z => False.elim z) (fun v9 ws9 h17 => ?_)
      obtain ⟨r19, J20, nr19, etJ20, erJ20, eJ20, rfl, hw9⟩ := h17
      subst ws9
      dsimp only [mPush]
      refine r_if_eq (tgt := 31) hX dX4_orderClock_24 (by decide) (fun c21 => ?_) (fun c21 => ?_)
      · have hs22 := mnone0 nr19 (by first | exact c21 | exact Classical.not_not.mp c21)
        refine r_aload_n hX dX4_orderClock_31 rfl rfl ?_
        refine r_iconst (v := 4) hX dX4_orderClock_32 (by decide) ?_
        refine r_iload_n hX dX4_orderClock_33 rfl rfl ?_
        refine r_iadd hX dX4_orderClock_34 ?_
        rw [show (4 : Int32) + nI i11 = nI (4 + i11) from nI_add 4 i11]
        refine r_iconst (v := 4) hX dX4_orderClock_35 (by decide) ?_
        refine r_iload_n hX dX4_orderClock_36 rfl rfl ?_
        refine r_iadd hX dX4_orderClock_37 ?_
        rw [show (4 : Int32) + nI i16 = nI (4 + i16) from nI_add 4 i16]
        refine r_callV hX (c_X4_ordered _ _ _ _ J20 _ (mWF2 eJ20 hJ) (4 + i11) (by omega) (4 + i16) (by omega)) kv_X4_196 14 rfl rfl rfl rfl (Nat.le_of_ble_eq_true rfl) ⟨(Nat.le_of_ble_eq_true rfl), (Nat.le_of_ble_eq_true rfl)⟩ ⟨(Nat.le_of_ble_eq_true rfl), (Nat.le_of_ble_eq_true rfl)⟩ dX4_orderClock_38 (fun _ _ z => False.elim z) (fun v9 ws9 h23 => ?_)
        obtain ⟨r25, J26, hJ26, oJ26, rfl, hw9⟩ := h23
        subst ws9
        dsimp only [mPush]
        exact r_iret hX hE dX4_orderClock_41 (Nat.le_of_ble_eq_true rfl) (Nat.le_of_ble_eq_true rfl) ⟨_, J26, hJ26, (oJ26.trans ((congrArg Prod.fst eJ20).trans rfl)), rfl, rfl⟩
      · refine r_iconst (v := 0) hX dX4_orderClock_27 (by decide) ?_
        refine r_goto (tgt := 41) hX dX4_orderClock_28 (by decide) ?_
        exact r_iret hX hE dX4_orderClock_41 (Nat.le_of_ble_eq_true rfl) (Nat.le_of_ble_eq_true rfl) ⟨_, J20, (mWF2 eJ20 hJ), ((congrArg Prod.fst eJ20).trans rfl), rfl, rfl⟩
    · refine r_iconst (v := 1) hX dX4_orderClock_15 (by decide) ?_
      refine r_goto (tgt := 20) hX dX4_orderClock_16 (by decide) ?_
      refine r_iconst (v := 0) hX dX4_orderClock_20 (by decide) ?_
      refine r_callV hX (c_X4_isStopped _ _ _ _ _ _ _ _) kv_X4_68 14 rfl rfl rfl rfl (Nat.le_of_ble_eq_true rfl) ⟨(Nat.le_of_ble_eq_true rfl), (Nat.le_of_ble_eq_true rfl)⟩ ⟨(Nat.le_of_ble_eq_true rfl), (Nat.le_of_ble_eq_true rfl)⟩ dX4_orderClock_21 (fun _ _ z => False.elim z) (fun v9 ws9 h27 => ?_)
      obtain ⟨r29, J30, nr29, etJ30, erJ30, eJ30, rfl, hw9⟩ := h27
      subst ws9
      dsimp only [mPush]
      refine r_if_eq (tgt := 31) hX dX4_orderClock_24 (by decide) (fun c31 => ?_) (fun c31 => ?_)
      · have hs32 := mnone0 nr29 (by first | exact c31 | exact Classical.not_not.mp c31)
        exact absurd hs32.1 (by decide)
      · refine r_iconst (v := 0) hX dX4_orderClock_27 (by decide) ?_
        refine r_goto (tgt := 41) hX dX4_orderClock_28 (by decide) ?_
        exact r_iret hX hE dX4_orderClock_41 (Nat.le_of_ble_eq_true rfl) (Nat.le_of_ble_eq_true rfl) ⟨_, J30, (mWF2 eJ30 hJ), ((congrArg Prod.fst eJ30).trans rfl), rfl, rfl⟩
theorem dX4_isClock_0 : decode cX4_isClock 0 = .ok (.aload_n 0, 1) := by decide +kernel
theorem dX4_isClock_1 : decode cX4_isClock 1 = .ok (.iload_n 1, 1) := by decide +kernel
theorem dX4_isClock_2 : decode cX4_isClock 2 = .ok (.invokestatic 205, 3) := by decide +kernel
theorem dX4_isClock_5 : decode cX4_isClock 5 = .ok (.ifCond .ne 10, 3) := by decide +kernel
theorem dX4_isClock_8 : decode cX4_isClock 8 = .ok (.iload_n 2, 1) := by decide +kernel
theorem dX4_isClock_9 : decode cX4_isClock 9 = .ok (.invokestatic 205, 3) := by decide +kernel
theorem dX4_isClock_12 : decode cX4_isClock 12 = .ok (.ifCond .eq 7, 3) := by decide +kernel
theorem dX4_isClock_15 : decode cX4_isClock 15 = .ok (.iconst 1, 1) := by decide +kernel
theorem dX4_isClock_16 : decode cX4_isClock 16 = .ok (.goto 4, 3) := by decide +kernel
theorem dX4_isClock_19 : decode cX4_isClock 19 = .ok (.iconst 0, 1) := by decide +kernel
theorem dX4_isClock_20 : decode cX4_isClock 20 = .ok (.iload_n 3, 1) := by decide +kernel
theorem dX4_isClock_21 : decode cX4_isClock 21 = .ok (.i2l, 1) := by decide +kernel
theorem dX4_isClock_22 : decode cX4_isClock 22 = .ok (.lconst 0, 1) := by decide +kernel
theorem dX4_isClock_23 : decode cX4_isClock 23 = .ok (.ldc2_w 36, 3) := by decide +kernel
theorem dX4_isClock_26 : decode cX4_isClock 26 = .ok (.invokestatic 38, 3) := by decide +kernel
theorem dX4_isClock_29 : decode cX4_isClock 29 = .ok (.ifCond .ne 7, 3) := by decide +kernel
theorem dX4_isClock_32 : decode cX4_isClock 32 = .ok (.iconst 1, 1) := by decide +kernel
theorem dX4_isClock_33 : decode cX4_isClock 33 = .ok (.goto 4, 3) := by decide +kernel
theorem dX4_isClock_36 : decode cX4_isClock 36 = .ok (.iconst 0, 1) := by decide +kernel
theorem dX4_isClock_37 : decode cX4_isClock 37 = .ok (.invokevirtual 68, 3) := by decide +kernel
theorem dX4_isClock_40 : decode cX4_isClock 40 = .ok (.ifCond .ne 21, 3) := by decide +kernel
theorem dX4_isClock_43 : decode cX4_isClock 43 = .ok (.aload_n 0, 1) := by decide +kernel
theorem dX4_isClock_44 : decode cX4_isClock 44 = .ok (.iconst 4, 1) := by decide +kernel
theorem dX4_isClock_45 : decode cX4_isClock 45 = .ok (.iload_n 1, 1) := by decide +kernel
theorem dX4_isClock_46 : decode cX4_isClock 46 = .ok (.iadd, 1) := by decide +kernel
theorem dX4_isClock_47 : decode cX4_isClock 47 = .ok (.iconst 4, 1) := by decide +kernel
theorem dX4_isClock_48 : decode cX4_isClock 48 = .ok (.iload_n 2, 1) := by decide +kernel
theorem dX4_isClock_49 : decode cX4_isClock 49 = .ok (.iadd, 1) := by decide +kernel
theorem dX4_isClock_50 : decode cX4_isClock 50 = .ok (.iload_n 3, 1) := by decide +kernel
theorem dX4_isClock_51 : decode cX4_isClock 51 = .ok (.invokevirtual 199, 3) := by decide +kernel
theorem dX4_isClock_54 : decode cX4_isClock 54 = .ok (.ifCond .eq 7, 3) := by decide +kernel
theorem dX4_isClock_57 : decode cX4_isClock 57 = .ok (.iconst 1, 1) := by decide +kernel
theorem dX4_isClock_58 : decode cX4_isClock 58 = .ok (.goto 4, 3) := by decide +kernel
theorem dX4_isClock_61 : decode cX4_isClock 61 = .ok (.iconst 0, 1) := by decide +kernel
theorem dX4_isClock_62 : decode cX4_isClock 62 = .ok (.ireturn, 1) := by decide +kernel
set_option maxHeartbeats 4000000 in
set_option maxRecDepth 20000 in
theorem c_X4_isClock (ad ae : Nat → Nat) (cs : ClassId × ClassId × ClassId) (K : mK) (J : mJ) (rest : va_W) (hJ : mWF J) (p0 : Int32) (p1 : Int32) (p2 : Int32) : mCt (mTy cs) yX4_isClock cX4_isClock 4 (some .boolean) ⟨3, 0, 0, 66⟩ [.ref (ae 0), .int p0, .int p1, .int p2] (mRw ad ae cs K J rest) (mZb ad ae cs K J rest) mNo := by
  refine mCt.of (by decide +kernel) (Nat.le_of_ble_eq_true rfl) (fun X hX hE => ?_)
  have hX : mOK X RX4 cX4_isClock 4 ⟨3, 0, 0, 66⟩ [] (mTy cs) := hX
  refine r_aload_n hX dX4_isClock_0 rfl rfl ?_
  refine r_iload_n hX dX4_isClock_1 rfl rfl ?_
  refine r_callS hX (c_X4_isNoClock _ _ _) ks_X4_205 rfl rfl (Nat.le_of_ble_eq_true rfl) ⟨(Nat.le_of_ble_eq_true rfl), (Nat.le_of_ble_eq_true rfl)⟩ ⟨(Nat.le_of_ble_eq_true rfl), (Nat.le_of_ble_eq_true rfl)⟩ dX4_isClock_2 (fun _ _ z => False.elim z) (fun v9 ws9 h1 => ?_)
  obtain ⟨r3, nr3, rfl, hw9⟩ := h1
  subst ws9
  dsimp only [mPush]
  refine r_if_ne (tgt := 15) hX dX4_isClock_5 (by decide) (fun c4 => ?_) (fun c4 => ?_)
  · refine r_iconst (v := 1) hX dX4_isClock_15 (by decide) ?_
    refine r_goto (tgt := 20) hX dX4_isClock_16 (by decide) ?_
    refine r_iload_n hX dX4_isClock_20 rfl rfl ?_
    refine r_i2l hX dX4_isClock_21 ?_
    refine r_lconst (v := 0) hX dX4_isClock_22 (by decide) ?_
    refine r_ldc2 hX kc_X4_36 dX4_isClock_23 ?_
    refine r_callS hX (c_X4_isIn _ _ _ _ _) ks_X4_38 rfl rfl (Nat.le_of_ble_eq_true rfl) ⟨(Nat.le_of_ble_eq_true rfl), (Nat.le_of_ble_eq_true rfl)⟩ ⟨(Nat.le_of_ble_eq_true rfl), (Nat.le_of_ble_eq_true rfl)⟩ dX4_isClock_26 (fun _ _ z => False.elim z) (fun v9 ws9 h5 => ?_)
    obtain ⟨rfl, hw9⟩ := h5
    subst ws9
    dsimp only [mPush]
    refine r_if_ne (tgt := 36) hX dX4_isClock_29 (by decide) (fun c7 => ?_) (fun c7 => ?_)
    · obtain ⟨i8, li8, hhi8, rfl⟩ := fwin 0 3 (by decide) (by decide) (by decide) (by decide) c7
      refine r_iconst (v := 0) hX dX4_isClock_36 (by decide) ?_
      refine r_callV hX (c_X4_isStopped _ _ _ _ _ _ _ _) kv_X4_68 14 rfl rfl rfl rfl (Nat.le_of_ble_eq_true rfl) ⟨(Nat.le_of_ble_eq_true rfl), (Nat.le_of_ble_eq_true rfl)⟩ ⟨(Nat.le_of_ble_eq_true rfl), (Nat.le_of_ble_eq_true rfl)⟩ dX4_isClock_37 (fun _ _ z => False.elim z) (fun v9 ws9 h9 => ?_)
      obtain ⟨r11, J12, nr11, etJ12, erJ12, eJ12, rfl, hw9⟩ := h9
      subst ws9
      dsimp only [mPush]
      refine r_if_ne (tgt := 61) hX dX4_isClock_40 (by decide) (fun c13 => ?_) (fun c13 => ?_)
      · refine r_iconst (v := 0) hX dX4_isClock_61 (by decide) ?_
        exact r_zret hX hE dX4_isClock_62 (mB_n (Or.inl rfl)) (Nat.le_of_ble_eq_true rfl) (Nat.le_of_ble_eq_true rfl) ⟨_, J12, (Or.inl rfl), (mWF2 eJ12 hJ), ((congrArg Prod.fst eJ12).trans rfl), rfl, rfl⟩
      · have hs14 := mnone0 nr11 (by first | exact c13 | exact Classical.not_not.mp c13)
        exact absurd hs14.1 (by decide)
    · refine r_iconst (v := 1) hX dX4_isClock_32 (by decide) ?_
      refine r_goto (tgt := 37) hX dX4_isClock_33 (by decide) ?_
      refine r_callV hX (c_X4_isStopped _ _ _ _ _ _ _ _) kv_X4_68 14 rfl rfl rfl rfl (Nat.le_of_ble_eq_true rfl) ⟨(Nat.le_of_ble_eq_true rfl), (Nat.le_of_ble_eq_true rfl)⟩ ⟨(Nat.le_of_ble_eq_true rfl), (Nat.le_of_ble_eq_true rfl)⟩ dX4_isClock_37 (fun _ _ z => False.elim z) (fun v9 ws9 h15 => ?_)
      obtain ⟨r17, J18, nr17, etJ18, erJ18, eJ18, rfl, hw9⟩ := h15
      subst ws9
      dsimp only [mPush]
      refine r_if_ne (tgt := 61) hX dX4_isClock_40 (by decide) (fun c19 => ?_) (fun c19 => ?_)
      · refine r_iconst (v := 0) hX dX4_isClock_61 (by decide) ?_
        exact r_zret hX hE dX4_isClock_62 (mB_n (Or.inl rfl)) (Nat.le_of_ble_eq_true rfl) (Nat.le_of_ble_eq_true rfl) ⟨_, J18, (Or.inl rfl), (mWF2 eJ18 hJ), ((congrArg Prod.fst eJ18).trans rfl), rfl, rfl⟩
      · have hs20 := mnone0 nr17 (by first | exact c19 | exact Classical.not_not.mp c19)
        exact absurd hs20.1 (by decide)
  · obtain ⟨i21, hhi21, rfl⟩ := mnone0 nr3 (by first | exact c4 | exact Classical.not_not.mp c4)
    refine r_iload_n hX dX4_isClock_8 rfl rfl ?_
    refine r_callS hX (c_X4_isNoClock _ _ _) ks_X4_205 rfl rfl (Nat.le_of_ble_eq_true rfl) ⟨(Nat.le_of_ble_eq_true rfl), (Nat.le_of_ble_eq_true rfl)⟩ ⟨(Nat.le_of_ble_eq_true rfl), (Nat.le_of_ble_eq_true rfl)⟩ dX4_isClock_9 (fun _ _ z => False.elim z) (fun v9 ws9 h22 => ?_)
    obtain ⟨r24, nr24, rfl, hw9⟩ := h22
    subst ws9
    dsimp only [mPush]
    refine r_if_eq (tgt := 19) hX dX4_isClock_12 (by decide) (fun c25 => ?_) (fun c25 => ?_)
    · obtain ⟨i26, hhi26, rfl⟩ := mnone0 nr24 (by first | exact c25 | exact Classical.not_not.mp c25)
      refine r_iconst (v := 0) hX dX4_isClock_19 (by decide) ?_
      refine r_iload_n hX dX4_isClock_20 rfl rfl ?_
      refine r_i2l hX dX4_isClock_21 ?_
      refine r_lconst (v := 0) hX dX4_isClock_22 (by decide) ?_
      refine r_ldc2 hX kc_X4_36 dX4_isClock_23 ?_
      refine r_callS hX (c_X4_isIn _ _ _ _ _) ks_X4_38 rfl rfl (Nat.le_of_ble_eq_true rfl) ⟨(Nat.le_of_ble_eq_true rfl), (Nat.le_of_ble_eq_true rfl)⟩ ⟨(Nat.le_of_ble_eq_true rfl), (Nat.le_of_ble_eq_true rfl)⟩ dX4_isClock_26 (fun _ _ z => False.elim z) (fun v9 ws9 h27 => ?_)
      obtain ⟨rfl, hw9⟩ := h27
      subst ws9
      dsimp only [mPush]
      refine r_if_ne (tgt := 36) hX dX4_isClock_29 (by decide) (fun c29 => ?_) (fun c29 => ?_)
      · obtain ⟨i30, li30, hhi30, rfl⟩ := fwin 0 3 (by decide) (by decide) (by decide) (by decide) c29
        refine r_iconst (v := 0) hX dX4_isClock_36 (by decide) ?_
        refine r_callV hX (c_X4_isStopped _ _ _ _ _ _ _ _) kv_X4_68 14 rfl rfl rfl rfl (Nat.le_of_ble_eq_true rfl) ⟨(Nat.le_of_ble_eq_true rfl), (Nat.le_of_ble_eq_true rfl)⟩ ⟨(Nat.le_of_ble_eq_true rfl), (Nat.le_of_ble_eq_true rfl)⟩ dX4_isClock_37 (fun _ _ z => False.elim z) (fun v9 ws9 h31 => ?_)
        obtain ⟨r33, J34, nr33, etJ34, erJ34, eJ34, rfl, hw9⟩ := h31
        subst ws9
        dsimp only [mPush]
        refine r_if_ne (tgt := 61) hX dX4_isClock_40 (by decide) (fun c35 => ?_) (fun c35 => ?_)
        · refine r_iconst (v := 0) hX dX4_isClock_61 (by decide) ?_
          exact r_zret hX hE dX4_isClock_62 (mB_n (Or.inl rfl)) (Nat.le_of_ble_eq_true rfl) (Nat.le_of_ble_eq_true rfl) ⟨_, J34, (Or.inl rfl), (mWF2 eJ34 hJ), ((congrArg Prod.fst eJ34).trans rfl), rfl, rfl⟩
        · have hs36 := mnone0 nr33 (by first | exact c35 | exact Classical.not_not.mp c35)
          refine r_aload_n hX dX4_isClock_43 rfl rfl ?_
          refine r_iconst (v := 4) hX dX4_isClock_44 (by decide) ?_
          refine r_iload_n hX dX4_isClock_45 rfl rfl ?_
          refine r_iadd hX dX4_isClock_46 ?_
          rw [show (4 : Int32) + nI i21 = nI (4 + i21) from nI_add 4 i21]
          refine r_iconst (v := 4) hX dX4_isClock_47 (by decide) ?_
          refine r_iload_n hX dX4_isClock_48 rfl rfl ?_
          refine r_iadd hX dX4_isClock_49 ?_
          rw [show (4 : Int32) + nI i26 = nI (4 + i26) from nI_add 4 i26]
          refine r_iload_n hX dX4_isClock_50 rfl rfl ?_
          refine r_callV hX (c_X4_is _ _ _ _ J34 _ (mWF2 eJ34 hJ) (4 + i21) (by omega) (4 + i26) (by omega) _) kv_X4_199 14 rfl rfl rfl rfl (Nat.le_of_ble_eq_true rfl) ⟨(Nat.le_of_ble_eq_true rfl), (Nat.le_of_ble_eq_true rfl)⟩ ⟨(Nat.le_of_ble_eq_true rfl), (Nat.le_of_ble_eq_true rfl)⟩ dX4_isClock_51 (fun _ _ z => False.elim z) (fun v9 ws9 h37 => ?_)
          obtain ⟨r39, J40, br39, hJ40, oJ40, rfl, hw9⟩ := h37
          subst ws9
          dsimp only [mPush]
          refine r_if_eq (tgt := 61) hX dX4_isClock_54 (by decide) (fun c41 => ?_) (fun c41 => ?_)
          · refine r_iconst (v := 0) hX dX4_isClock_61 (by decide) ?_
            exact r_zret hX hE dX4_isClock_62 (mB_n (Or.inl rfl)) (Nat.le_of_ble_eq_true rfl) (Nat.le_of_ble_eq_true rfl) ⟨_, J40, (Or.inl rfl), hJ40, (oJ40.trans ((congrArg Prod.fst eJ34).trans rfl)), rfl, rfl⟩
          · refine r_iconst (v := 1) hX dX4_isClock_57 (by decide) ?_
            refine r_goto (tgt := 62) hX dX4_isClock_58 (by decide) ?_
            exact r_zret hX hE dX4_isClock_62 (mB_n (Or.inr rfl)) (Nat.le_of_ble_eq_true rfl) (Nat.le_of_ble_eq_true rfl) ⟨_, J40, (Or.inr rfl), hJ40, (oJ40.trans ((congrArg Prod.fst eJ34).trans rfl)), rfl, rfl⟩
      · refine r_iconst (v := 1) hX dX4_isClock_32 (by decide) ?_
        refine r_goto (tgt := 37) hX dX4_isClock_33 (by decide) ?_
        refine r_callV hX (c_X4_isStopped _ _ _ _ _ _ _ _) kv_X4_68 14 rfl rfl rfl rfl (Nat.le_of_ble_eq_true rfl) ⟨(Nat.le_of_ble_eq_true rfl), (Nat.le_of_ble_eq_true rfl)⟩ ⟨(Nat.le_of_ble_eq_true rfl), (Nat.le_of_ble_eq_true rfl)⟩ dX4_isClock_37 (fun _ _ z => False.elim z) (fun v9 ws9 h42 => ?_)
        obtain ⟨r44, J45, nr44, etJ45, erJ45, eJ45, rfl, hw9⟩ := h42
        subst ws9
        dsimp only [mPush]
        refine r_if_ne (tgt := 61) hX dX4_isClock_40 (by decide) (fun c46 => ?_) (fun c46 => ?_)
        · refine r_iconst (v := 0) hX dX4_isClock_61 (by decide) ?_
          exact r_zret hX hE dX4_isClock_62 (mB_n (Or.inl rfl)) (Nat.le_of_ble_eq_true rfl) (Nat.le_of_ble_eq_true rfl) ⟨_, J45, (Or.inl rfl), (mWF2 eJ45 hJ), ((congrArg Prod.fst eJ45).trans rfl), rfl, rfl⟩
        · have hs47 := mnone0 nr44 (by first | exact c46 | exact Classical.not_not.mp c46)
          exact absurd hs47.2 (by decide)
    · refine r_iconst (v := 1) hX dX4_isClock_15 (by decide) ?_
      refine r_goto (tgt := 20) hX dX4_isClock_16 (by decide) ?_
      refine r_iload_n hX dX4_isClock_20 rfl rfl ?_
      refine r_i2l hX dX4_isClock_21 ?_
      refine r_lconst (v := 0) hX dX4_isClock_22 (by decide) ?_
      refine r_ldc2 hX kc_X4_36 dX4_isClock_23 ?_
      refine r_callS hX (c_X4_isIn _ _ _ _ _) ks_X4_38 rfl rfl (Nat.le_of_ble_eq_true rfl) ⟨(Nat.le_of_ble_eq_true rfl), (Nat.le_of_ble_eq_true rfl)⟩ ⟨(Nat.le_of_ble_eq_true rfl), (Nat.le_of_ble_eq_true rfl)⟩ dX4_isClock_26 (fun _ _ z => False.elim z) (fun v9 ws9 h48 => ?_)
      obtain ⟨rfl, hw9⟩ := h48
      subst ws9
      dsimp only [mPush]
      refine r_if_ne (tgt := 36) hX dX4_isClock_29 (by decide) (fun c50 => ?_) (fun c50 => ?_)
      · obtain ⟨i51, li51, hhi51, rfl⟩ := fwin 0 3 (by decide) (by decide) (by decide) (by decide) c50
        refine r_iconst (v := 0) hX dX4_isClock_36 (by decide) ?_
        refine r_callV hX (c_X4_isStopped _ _ _ _ _ _ _ _) kv_X4_68 14 rfl rfl rfl rfl (Nat.le_of_ble_eq_true rfl) ⟨(Nat.le_of_ble_eq_true rfl), (Nat.le_of_ble_eq_true rfl)⟩ ⟨(Nat.le_of_ble_eq_true rfl), (Nat.le_of_ble_eq_true rfl)⟩ dX4_isClock_37 (fun _ _ z => False.elim z) (fun v9 ws9 h52 => ?_)
        obtain ⟨r54, J55, nr54, etJ55, erJ55, eJ55, rfl, hw9⟩ := h52
        subst ws9
        dsimp only [mPush]
        refine r_if_ne (tgt := 61) hX dX4_isClock_40 (by decide) (fun c56 => ?_) (fun c56 => ?_)
        · refine r_iconst (v := 0) hX dX4_isClock_61 (by decide) ?_
          exact r_zret hX hE dX4_isClock_62 (mB_n (Or.inl rfl)) (Nat.le_of_ble_eq_true rfl) (Nat.le_of_ble_eq_true rfl) ⟨_, J55, (Or.inl rfl), (mWF2 eJ55 hJ), ((congrArg Prod.fst eJ55).trans rfl), rfl, rfl⟩
        · have hs57 := mnone0 nr54 (by first | exact c56 | exact Classical.not_not.mp c56)
          exact absurd hs57.1 (by decide)
      · refine r_iconst (v := 1) hX dX4_isClock_32 (by decide) ?_
        refine r_goto (tgt := 37) hX dX4_isClock_33 (by decide) ?_
        refine r_callV hX (c_X4_isStopped _ _ _ _ _ _ _ _) kv_X4_68 14 rfl rfl rfl rfl (Nat.le_of_ble_eq_true rfl) ⟨(Nat.le_of_ble_eq_true rfl), (Nat.le_of_ble_eq_true rfl)⟩ ⟨(Nat.le_of_ble_eq_true rfl), (Nat.le_of_ble_eq_true rfl)⟩ dX4_isClock_37 (fun _ _ z => False.elim z) (fun v9 ws9 h58 => ?_)
        obtain ⟨r60, J61, nr60, etJ61, erJ61, eJ61, rfl, hw9⟩ := h58
        subst ws9
        dsimp only [mPush]
        refine r_if_ne (tgt := 61) hX dX4_isClock_40 (by decide) (fun c62 => ?_) (fun c62 => ?_)
        · refine r_iconst (v := 0) hX dX4_isClock_61 (by decide) ?_
          exact r_zret hX hE dX4_isClock_62 (mB_n (Or.inl rfl)) (Nat.le_of_ble_eq_true rfl) (Nat.le_of_ble_eq_true rfl) ⟨_, J61, (Or.inl rfl), (mWF2 eJ61 hJ), ((congrArg Prod.fst eJ61).trans rfl), rfl, rfl⟩
        · have hs63 := mnone0 nr60 (by first | exact c62 | exact Classical.not_not.mp c62)
          exact absurd hs63.1 (by decide)
theorem dX4_knock_0 : decode cX4_knock 0 = .ok (.aload_n 0, 1) := by decide +kernel
theorem dX4_knock_1 : decode cX4_knock 1 = .ok (.iconst 0, 1) := by decide +kernel
theorem dX4_knock_2 : decode cX4_knock 2 = .ok (.putfield 29, 3) := by decide +kernel
theorem dX4_knock_5 : decode cX4_knock 5 = .ok (.aload_n 0, 1) := by decide +kernel
theorem dX4_knock_6 : decode cX4_knock 6 = .ok (.dup, 1) := by decide +kernel
theorem dX4_knock_7 : decode cX4_knock 7 = .ok (.getfield 219, 3) := by decide +kernel
theorem dX4_knock_10 : decode cX4_knock 10 = .ok (.iconst 1, 1) := by decide +kernel
theorem dX4_knock_11 : decode cX4_knock 11 = .ok (.iadd, 1) := by decide +kernel
theorem dX4_knock_12 : decode cX4_knock 12 = .ok (.putfield 219, 3) := by decide +kernel
theorem dX4_knock_15 : decode cX4_knock 15 = .ok (.aload_n 0, 1) := by decide +kernel
theorem dX4_knock_16 : decode cX4_knock 16 = .ok (.getfield 219, 3) := by decide +kernel
theorem dX4_knock_19 : decode cX4_knock 19 = .ok (.ireturn, 1) := by decide +kernel
set_option maxHeartbeats 4000000 in
set_option maxRecDepth 20000 in
theorem c_X4_knock (ad ae : Nat → Nat) (cs : ClassId × ClassId × ClassId) (K : mK) (J : mJ) (rest : va_W) (hJ : mWF J) : mCt (mTy cs) yX4_knock cX4_knock 1 (some .int) ⟨0, 0, 0, 0⟩ [.ref (ae 0)] (mRw ad ae cs K J rest) (mZi ad ae cs K J rest) mNo := by
  refine mCt.of (by decide +kernel) (Nat.le_of_ble_eq_true rfl) (fun X hX hE => ?_)
  have hX : mOK X RX4 cX4_knock 1 ⟨0, 0, 0, 0⟩ [] (mTy cs) := hX
  refine r_aload_n hX dX4_knock_0 rfl rfl ?_
  refine r_iconst (v := 0) hX dX4_knock_1 (by decide) ?_
  refine r_put hX kf_X4_29 14 rfl rfl rfl rfl (Nat.le_of_ble_eq_true rfl) dX4_knock_2 ?_
  refine r_eqw (ws' := mRw ad ae cs K (((0 : Int32), J.1.2), J.2) rest) rfl ?_
  refine r_aload_n hX dX4_knock_5 rfl rfl ?_
  refine r_dup hX dX4_knock_6 rfl ?_
  refine r_get hX kf_X4_219 14 rfl rfl dX4_knock_7 ?_
  refine r_iconst (v := 1) hX dX4_knock_10 (by decide) ?_
  refine r_iadd hX dX4_knock_11 ?_
  refine r_put hX kf_X4_219 14 rfl rfl rfl rfl (Nat.le_of_ble_eq_true rfl) dX4_knock_12 ?_
  refine r_eqw (ws' := mRw ad ae cs K (((((0 : Int32), J.1.2), J.2).1.1, (((0 : Int32), J.1.2), J.2).1.2.1 + 1, (((0 : Int32), J.1.2), J.2).1.2.2), (((0 : Int32), J.1.2), J.2).2) rest) rfl ?_
  refine r_aload_n hX dX4_knock_15 rfl rfl ?_
  refine r_get hX kf_X4_219 14 rfl rfl dX4_knock_16 ?_
  exact r_iret hX hE dX4_knock_19 (Nat.le_of_ble_eq_true rfl) (Nat.le_of_ble_eq_true rfl) ⟨_, (((((0 : Int32), J.1.2), J.2).1.1, (((0 : Int32), J.1.2), J.2).1.2.1 + 1, (((0 : Int32), J.1.2), J.2).1.2.2), (((0 : Int32), J.1.2), J.2).2), hJ, rfl, rfl, rfl⟩
theorem dX4_isSound_0 : decode cX4_isSound 0 = .ok (.aload_n 0, 1) := by decide +kernel
theorem dX4_isSound_1 : decode cX4_isSound 1 = .ok (.iconst 0, 1) := by decide +kernel
theorem dX4_isSound_2 : decode cX4_isSound 2 = .ok (.putfield 29, 3) := by decide +kernel
theorem dX4_isSound_5 : decode cX4_isSound 5 = .ok (.iconst 1, 1) := by decide +kernel
theorem dX4_isSound_6 : decode cX4_isSound 6 = .ok (.ireturn, 1) := by decide +kernel
set_option maxHeartbeats 4000000 in
set_option maxRecDepth 20000 in
theorem c_X4_isSound (ad ae : Nat → Nat) (cs : ClassId × ClassId × ClassId) (K : mK) (J : mJ) (rest : va_W) (hJ : mWF J) : mCt (mTy cs) yX4_isSound cX4_isSound 1 (some .boolean) ⟨0, 0, 0, 0⟩ [.ref (ae 0)] (mRw ad ae cs K J rest) (mZb ad ae cs K J rest) mNo := by
  refine mCt.of (by decide +kernel) (Nat.le_of_ble_eq_true rfl) (fun X hX hE => ?_)
  have hX : mOK X RX4 cX4_isSound 1 ⟨0, 0, 0, 0⟩ [] (mTy cs) := hX
  refine r_aload_n hX dX4_isSound_0 rfl rfl ?_
  refine r_iconst (v := 0) hX dX4_isSound_1 (by decide) ?_
  refine r_put hX kf_X4_29 14 rfl rfl rfl rfl (Nat.le_of_ble_eq_true rfl) dX4_isSound_2 ?_
  refine r_eqw (ws' := mRw ad ae cs K (((0 : Int32), J.1.2), J.2) rest) rfl ?_
  refine r_iconst (v := 1) hX dX4_isSound_5 (by decide) ?_
  exact r_zret hX hE dX4_isSound_6 (mB_n (Or.inr rfl)) (Nat.le_of_ble_eq_true rfl) (Nat.le_of_ble_eq_true rfl) ⟨_, (((0 : Int32), J.1.2), J.2), (Or.inr rfl), hJ, rfl, rfl, rfl⟩
theorem dX4_houseTold_0 : decode cX4_houseTold 0 = .ok (.iconst 0, 1) := by decide +kernel
theorem dX4_houseTold_1 : decode cX4_houseTold 1 = .ok (.istore_n 2, 1) := by decide +kernel
theorem dX4_houseTold_2 : decode cX4_houseTold 2 = .ok (.iconst 0, 1) := by decide +kernel
theorem dX4_houseTold_3 : decode cX4_houseTold 3 = .ok (.istore_n 3, 1) := by decide +kernel
theorem dX4_houseTold_4 : decode cX4_houseTold 4 = .ok (.iconst 1, 1) := by decide +kernel
theorem dX4_houseTold_5 : decode cX4_houseTold 5 = .ok (.istore 4, 2) := by decide +kernel
theorem dX4_houseTold_7 : decode cX4_houseTold 7 = .ok (.iload 4, 2) := by decide +kernel
theorem dX4_houseTold_9 : decode cX4_houseTold 9 = .ok (.iconst 4, 1) := by decide +kernel
theorem dX4_houseTold_10 : decode cX4_houseTold 10 = .ok (.if_icmp .ge 42, 3) := by decide +kernel
theorem dX4_houseTold_13 : decode cX4_houseTold 13 = .ok (.aload_n 0, 1) := by decide +kernel
theorem dX4_houseTold_14 : decode cX4_houseTold 14 = .ok (.iload 4, 2) := by decide +kernel
theorem dX4_houseTold_16 : decode cX4_houseTold 16 = .ok (.iload_n 2, 1) := by decide +kernel
theorem dX4_houseTold_17 : decode cX4_houseTold 17 = .ok (.invokevirtual 196, 3) := by decide +kernel
theorem dX4_houseTold_20 : decode cX4_houseTold 20 = .ok (.ifCond .ge 6, 3) := by decide +kernel
theorem dX4_houseTold_23 : decode cX4_houseTold 23 = .ok (.iload 4, 2) := by decide +kernel
theorem dX4_houseTold_25 : decode cX4_houseTold 25 = .ok (.istore_n 2, 1) := by decide +kernel
theorem dX4_houseTold_26 : decode cX4_houseTold 26 = .ok (.aload_n 0, 1) := by decide +kernel
theorem dX4_houseTold_27 : decode cX4_houseTold 27 = .ok (.getfield 13, 3) := by decide +kernel
theorem dX4_houseTold_30 : decode cX4_houseTold 30 = .ok (.iload 4, 2) := by decide +kernel
theorem dX4_houseTold_32 : decode cX4_houseTold 32 = .ok (.laload, 1) := by decide +kernel
theorem dX4_houseTold_33 : decode cX4_houseTold 33 = .ok (.aload_n 0, 1) := by decide +kernel
theorem dX4_houseTold_34 : decode cX4_houseTold 34 = .ok (.getfield 13, 3) := by decide +kernel
theorem dX4_houseTold_37 : decode cX4_houseTold 37 = .ok (.iload_n 3, 1) := by decide +kernel
theorem dX4_houseTold_38 : decode cX4_houseTold 38 = .ok (.laload, 1) := by decide +kernel
theorem dX4_houseTold_39 : decode cX4_houseTold 39 = .ok (.lcmp, 1) := by decide +kernel
theorem dX4_houseTold_40 : decode cX4_houseTold 40 = .ok (.ifCond .ge 6, 3) := by decide +kernel
theorem dX4_houseTold_43 : decode cX4_houseTold 43 = .ok (.iload 4, 2) := by decide +kernel
theorem dX4_houseTold_45 : decode cX4_houseTold 45 = .ok (.istore_n 3, 1) := by decide +kernel
theorem dX4_houseTold_46 : decode cX4_houseTold 46 = .ok (.iinc 4 1, 3) := by decide +kernel
theorem dX4_houseTold_49 : decode cX4_houseTold 49 = .ok (.goto (-42), 3) := by decide +kernel
theorem dX4_houseTold_52 : decode cX4_houseTold 52 = .ok (.iload_n 1, 1) := by decide +kernel
theorem dX4_houseTold_53 : decode cX4_houseTold 53 = .ok (.ifCond .ne 10, 3) := by decide +kernel
theorem dX4_houseTold_56 : decode cX4_houseTold 56 = .ok (.aload_n 0, 1) := by decide +kernel
theorem dX4_houseTold_57 : decode cX4_houseTold 57 = .ok (.getfield 219, 3) := by decide +kernel
theorem dX4_houseTold_60 : decode cX4_houseTold 60 = .ok (.goto 25, 3) := by decide +kernel
theorem dX4_houseTold_63 : decode cX4_houseTold 63 = .ok (.iload_n 1, 1) := by decide +kernel
theorem dX4_houseTold_64 : decode cX4_houseTold 64 = .ok (.iconst 1, 1) := by decide +kernel
theorem dX4_houseTold_65 : decode cX4_houseTold 65 = .ok (.if_icmp .ne 10, 3) := by decide +kernel
theorem dX4_houseTold_68 : decode cX4_houseTold 68 = .ok (.aload_n 0, 1) := by decide +kernel
theorem dX4_houseTold_69 : decode cX4_houseTold 69 = .ok (.getfield 33, 3) := by decide +kernel
theorem dX4_houseTold_72 : decode cX4_houseTold 72 = .ok (.goto 13, 3) := by decide +kernel
theorem dX4_houseTold_75 : decode cX4_houseTold 75 = .ok (.iload_n 1, 1) := by decide +kernel
theorem dX4_houseTold_76 : decode cX4_houseTold 76 = .ok (.iconst 2, 1) := by decide +kernel
theorem dX4_houseTold_77 : decode cX4_houseTold 77 = .ok (.if_icmp .ne 7, 3) := by decide +kernel
theorem dX4_houseTold_80 : decode cX4_houseTold 80 = .ok (.iload_n 2, 1) := by decide +kernel
theorem dX4_houseTold_81 : decode cX4_houseTold 81 = .ok (.goto 4, 3) := by decide +kernel
theorem dX4_houseTold_84 : decode cX4_houseTold 84 = .ok (.iload_n 3, 1) := by decide +kernel
theorem dX4_houseTold_85 : decode cX4_houseTold 85 = .ok (.ireturn, 1) := by decide +kernel
set_option maxHeartbeats 4000000 in
set_option maxRecDepth 20000 in
theorem c_X4_houseTold (ad ae : Nat → Nat) (cs : ClassId × ClassId × ClassId) (K : mK) (J : mJ) (rest : va_W) (hJ : mWF J) (j0 : Nat) (hj0 : j0 < 4) : mCt (mTy cs) yX4_houseTold cX4_houseTold 5 (some .int) ⟨3, 0, 0, 65⟩ [.ref (ae 0), .int (nI j0)] (mRw ad ae cs K J rest) (mZi ad ae cs K J rest) mNo := by
  refine mCt.of (by decide +kernel) (Nat.le_of_ble_eq_true rfl) (fun X hX hE => ?_)
  have hX : mOK X RX4 cX4_houseTold 5 ⟨3, 0, 0, 65⟩ [] (mTy cs) := hX
  refine r_iconst (v := 0) hX dX4_houseTold_0 (by decide) ?_
  refine r_istore_n hX dX4_houseTold_1 rfl (by decide) rfl ?_
  refine r_iconst (v := 0) hX dX4_houseTold_2 (by decide) ?_
  refine r_istore_n hX dX4_houseTold_3 rfl (by decide) rfl ?_
  refine r_iconst (v := 1) hX dX4_houseTold_4 (by decide) ?_
  refine r_istore hX dX4_houseTold_5 (by decide) rfl ?_
  have L7 : ∀ (N5 j1 : Nat) (f2 : Nat) (f3 : Nat), 4 - j1 < N5 → j1 ≤ 4 → f2 < 4 → f3 < 4 → ∀ J4 : mJ, mWF J4 → J4.2.1 = J.2.1 → mV X 7 [(0, some (.ref (ae 0))), (1, some (.int (nI j0))), (2, some (.int (nI f2))), (3, some (.int (nI f3))), (4, some (.int (nI j1)))] [] (mRw ad ae cs K J4 rest) 0 0 := by
    intro N5
    induction N5 with
    | zero => intro j1 f2 f3; omega
    | succ N5 ih7 =>
      intro j1 f2 f3 hN7 hj1e hf2 hf3 J4 hJ4 oJ4
      refine r_iload hX dX4_houseTold_7 rfl ?_
      refine r_iconst (v := 4) hX dX4_houseTold_9 (by decide) ?_
      refine r_icmp_ge (tgt := 52) hX dX4_houseTold_10 (by decide) (fun c6 => ?_) (fun c6 => ?_)
      · refine r_iload_n hX dX4_houseTold_52 rfl rfl ?_
        refine r_if_ne (tgt := 63) hX dX4_houseTold_53 (by decide) (fun c7 => ?_) (fun c7 => ?_)
        · refine r_iload_n hX dX4_houseTold_63 rfl rfl ?_
          refine r_iconst (v := 1) hX dX4_houseTold_64 (by decide) ?_
          refine r_icmp_ne (tgt := 75) hX dX4_houseTold_65 (by decide) (fun c8 => ?_) (fun c8 => ?_)
          · refine r_iload_n hX dX4_houseTold_75 rfl rfl ?_
            refine r_iconst (v := 2) hX dX4_houseTold_76 (by decide) ?_
            refine r_icmp_ne (tgt := 84) hX dX4_houseTold_77 (by decide) (fun c9 => ?_) (fun c9 => ?_)
            · refine r_iload_n hX dX4_houseTold_84 rfl rfl ?_
              exact r_iret hX hE dX4_houseTold_85 (Nat.le_of_ble_eq_true rfl) (Nat.le_of_ble_eq_true rfl) ⟨_, J4, hJ4, oJ4, rfl, rfl⟩
            · refine r_iload_n hX dX4_houseTold_80 rfl rfl ?_
              refine r_goto (tgt := 85) hX dX4_houseTold_81 (by decide) ?_
              exact r_iret hX hE dX4_houseTold_85 (Nat.le_of_ble_eq_true rfl) (Nat.le_of_ble_eq_true rfl) ⟨_, J4, hJ4, oJ4, rfl, rfl⟩
          · refine r_aload_n hX dX4_houseTold_68 rfl rfl ?_
            refine r_get hX kf_X4_33 14 rfl rfl dX4_houseTold_69 ?_
            refine r_goto (tgt := 85) hX dX4_houseTold_72 (by decide) ?_
            exact r_iret hX hE dX4_houseTold_85 (Nat.le_of_ble_eq_true rfl) (Nat.le_of_ble_eq_true rfl) ⟨_, J4, hJ4, oJ4, rfl, rfl⟩
        · refine r_aload_n hX dX4_houseTold_56 rfl rfl ?_
          refine r_get hX kf_X4_219 14 rfl rfl dX4_houseTold_57 ?_
          refine r_goto (tgt := 85) hX dX4_houseTold_60 (by decide) ?_
          exact r_iret hX hE dX4_houseTold_85 (Nat.le_of_ble_eq_true rfl) (Nat.le_of_ble_eq_true rfl) ⟨_, J4, hJ4, oJ4, rfl, rfl⟩
      · have hj1 : j1 < 4 := mlt (by first | rfl | decide) (by decide) hj1e c6
        refine r_aload_n hX dX4_houseTold_13 rfl rfl ?_
        refine r_iload hX dX4_houseTold_14 rfl ?_
        refine r_iload_n hX dX4_houseTold_16 rfl rfl ?_
        refine r_callV hX (c_X4_ordered _ _ _ _ J4 _ hJ4 j1 (Nat.lt_of_lt_of_le hj1 (by decide)) f2 (Nat.lt_of_lt_of_le hf2 (by decide))) kv_X4_196 14 rfl rfl rfl rfl (Nat.le_of_ble_eq_true rfl) ⟨(Nat.le_of_ble_eq_true rfl), (Nat.le_of_ble_eq_true rfl)⟩ ⟨(Nat.le_of_ble_eq_true rfl), (Nat.le_of_ble_eq_true rfl)⟩ dX4_houseTold_17 (fun _ _ z => False.elim z) (fun v9 ws9 h10 => ?_)
        obtain ⟨r12, J13, hJ13, oJ13, rfl, hw9⟩ := h10
        subst ws9
        dsimp only [mPush]
        refine r_if_ge (tgt := 26) hX dX4_houseTold_20 (by decide) (fun c14 => ?_) (fun c14 => ?_)
        · refine r_aload_n hX dX4_houseTold_26 rfl rfl ?_
          refine r_get hX kf_X4_13 14 rfl rfl dX4_houseTold_27 ?_
          refine r_iload hX dX4_houseTold_30 rfl ?_
          refine r_lald hX 16 1 rfl rfl (vp_in_nI hj1 (by decide)) dX4_houseTold_32 ?_
          refine r_aload_n hX dX4_houseTold_33 rfl rfl ?_
          refine r_get hX kf_X4_13 14 rfl rfl dX4_houseTold_34 ?_
          refine r_iload_n hX dX4_houseTold_37 rfl rfl ?_
          refine r_lald hX 16 1 rfl rfl (vp_in_nI hf3 (by decide)) dX4_houseTold_38 ?_
          refine r_lcmp hX dX4_houseTold_39 ?_
          refine r_if_ge (tgt := 46) hX dX4_houseTold_40 (by decide) (fun c15 => ?_) (fun c15 => ?_)
          · refine r_iinc hX dX4_houseTold_46 rfl (by decide) rfl ?_
            refine r_goto (tgt := 7) hX dX4_houseTold_49 (by decide) ?_
            exact r_loc (k' := 0) (n' := 0) (by exact ⟨rfl, rfl, rfl, rfl, nI_inc' _, trivial⟩) (by decide) (by decide) (ih7 (j1 + 1) f2 f3 (by omega) (by omega) hf2 hf3 _ hJ13 (oJ13.trans oJ4))
          · refine r_iload hX dX4_houseTold_43 rfl ?_
            refine r_istore_n hX dX4_houseTold_45 rfl (by decide) rfl ?_
            refine r_iinc hX dX4_houseTold_46 rfl (by decide) rfl ?_
            refine r_goto (tgt := 7) hX dX4_houseTold_49 (by decide) ?_
            exact r_loc (k' := 0) (n' := 0) (by exact ⟨rfl, rfl, rfl, rfl, nI_inc' _, trivial⟩) (by decide) (by decide) (ih7 (j1 + 1) f2 j1 (by omega) (by omega) hf2 hj1 _ hJ13 (oJ13.trans oJ4))
        · refine r_iload hX dX4_houseTold_23 rfl ?_
          refine r_istore_n hX dX4_houseTold_25 rfl (by decide) rfl ?_
          refine r_aload_n hX dX4_houseTold_26 rfl rfl ?_
          refine r_get hX kf_X4_13 14 rfl rfl dX4_houseTold_27 ?_
          refine r_iload hX dX4_houseTold_30 rfl ?_
          refine r_lald hX 16 1 rfl rfl (vp_in_nI hj1 (by decide)) dX4_houseTold_32 ?_
          refine r_aload_n hX dX4_houseTold_33 rfl rfl ?_
          refine r_get hX kf_X4_13 14 rfl rfl dX4_houseTold_34 ?_
          refine r_iload_n hX dX4_houseTold_37 rfl rfl ?_
          refine r_lald hX 16 1 rfl rfl (vp_in_nI hf3 (by decide)) dX4_houseTold_38 ?_
          refine r_lcmp hX dX4_houseTold_39 ?_
          refine r_if_ge (tgt := 46) hX dX4_houseTold_40 (by decide) (fun c16 => ?_) (fun c16 => ?_)
          · refine r_iinc hX dX4_houseTold_46 rfl (by decide) rfl ?_
            refine r_goto (tgt := 7) hX dX4_houseTold_49 (by decide) ?_
            exact r_loc (k' := 0) (n' := 0) (by exact ⟨rfl, rfl, rfl, rfl, nI_inc' _, trivial⟩) (by decide) (by decide) (ih7 (j1 + 1) j1 f3 (by omega) (by omega) hj1 hf3 _ hJ13 (oJ13.trans oJ4))
          · refine r_iload hX dX4_houseTold_43 rfl ?_
            refine r_istore_n hX dX4_houseTold_45 rfl (by decide) rfl ?_
            refine r_iinc hX dX4_houseTold_46 rfl (by decide) rfl ?_
            refine r_goto (tgt := 7) hX dX4_houseTold_49 (by decide) ?_
            exact r_loc (k' := 0) (n' := 0) (by exact ⟨rfl, rfl, rfl, rfl, nI_inc' _, trivial⟩) (by decide) (by decide) (ih7 (j1 + 1) j1 j1 (by omega) (by omega) hj1 hj1 _ hJ13 (oJ13.trans oJ4))
  exact r_loc (k' := 0) (n' := 0) (by exact ⟨rfl, rfl, rfl, rfl, rfl, trivial⟩) (by decide) (by decide) (L7 (4 + 1) 1 0 0 (by omega) (by omega) (by decide) (by decide) _ hJ rfl)
theorem dX4_house_0 : decode cX4_house 0 = .ok (.aload_n 0, 1) := by decide +kernel
theorem dX4_house_1 : decode cX4_house 1 = .ok (.iload_n 1, 1) := by decide +kernel
theorem dX4_house_2 : decode cX4_house 2 = .ok (.i2l, 1) := by decide +kernel
theorem dX4_house_3 : decode cX4_house 3 = .ok (.lconst 0, 1) := by decide +kernel
theorem dX4_house_4 : decode cX4_house 4 = .ok (.ldc2_w 36, 3) := by decide +kernel
theorem dX4_house_7 : decode cX4_house 7 = .ok (.invokestatic 38, 3) := by decide +kernel
theorem dX4_house_10 : decode cX4_house 10 = .ok (.ifCond .ne 7, 3) := by decide +kernel
theorem dX4_house_13 : decode cX4_house 13 = .ok (.iconst 1, 1) := by decide +kernel
theorem dX4_house_14 : decode cX4_house 14 = .ok (.goto 4, 3) := by decide +kernel
theorem dX4_house_17 : decode cX4_house 17 = .ok (.iconst 0, 1) := by decide +kernel
theorem dX4_house_18 : decode cX4_house 18 = .ok (.iconst 0, 1) := by decide +kernel
theorem dX4_house_19 : decode cX4_house 19 = .ok (.invokevirtual 68, 3) := by decide +kernel
theorem dX4_house_22 : decode cX4_house 22 = .ok (.ifCond .eq 7, 3) := by decide +kernel
theorem dX4_house_25 : decode cX4_house 25 = .ok (.iconst 0, 1) := by decide +kernel
theorem dX4_house_26 : decode cX4_house 26 = .ok (.goto 8, 3) := by decide +kernel
theorem dX4_house_29 : decode cX4_house 29 = .ok (.aload_n 0, 1) := by decide +kernel
theorem dX4_house_30 : decode cX4_house 30 = .ok (.iload_n 1, 1) := by decide +kernel
theorem dX4_house_31 : decode cX4_house 31 = .ok (.invokevirtual 222, 3) := by decide +kernel
theorem dX4_house_34 : decode cX4_house 34 = .ok (.ireturn, 1) := by decide +kernel
set_option maxHeartbeats 4000000 in
set_option maxRecDepth 20000 in
theorem c_X4_house (ad ae : Nat → Nat) (cs : ClassId × ClassId × ClassId) (K : mK) (J : mJ) (rest : va_W) (hJ : mWF J) (p0 : Int32) : mCt (mTy cs) yX4_house cX4_house 2 (some .int) ⟨4, 0, 0, 89⟩ [.ref (ae 0), .int p0] (mRw ad ae cs K J rest) (mZi ad ae cs K J rest) mNo := by
  refine mCt.of (by decide +kernel) (Nat.le_of_ble_eq_true rfl) (fun X hX hE => ?_)
  have hX : mOK X RX4 cX4_house 2 ⟨4, 0, 0, 89⟩ [] (mTy cs) := hX
  refine r_aload_n hX dX4_house_0 rfl rfl ?_
  refine r_iload_n hX dX4_house_1 rfl rfl ?_
  refine r_i2l hX dX4_house_2 ?_
  refine r_lconst (v := 0) hX dX4_house_3 (by decide) ?_
  refine r_ldc2 hX kc_X4_36 dX4_house_4 ?_
  refine r_callS hX (c_X4_isIn _ _ _ _ _) ks_X4_38 rfl rfl (Nat.le_of_ble_eq_true rfl) ⟨(Nat.le_of_ble_eq_true rfl), (Nat.le_of_ble_eq_true rfl)⟩ ⟨(Nat.le_of_ble_eq_true rfl), (Nat.le_of_ble_eq_true rfl)⟩ dX4_house_7 (fun _ _ z => False.elim z) (fun v9 ws9 h1 => ?_)
  obtain ⟨rfl, hw9⟩ := h1
  subst ws9
  dsimp only [mPush]
  refine r_if_ne (tgt := 17) hX dX4_house_10 (by decide) (fun c3 => ?_) (fun c3 => ?_)
  · obtain ⟨i4, li4, hhi4, rfl⟩ := fwin 0 3 (by decide) (by decide) (by decide) (by decide) c3
    refine r_iconst (v := 0) hX dX4_house_17 (by decide) ?_
    refine r_iconst (v := 0) hX dX4_house_18 (by decide) ?_
    refine r_callV hX (c_X4_isStopped _ _ _ _ _ _ _ _) kv_X4_68 14 rfl rfl rfl rfl (Nat.le_of_ble_eq_true rfl) ⟨(Nat.le_of_ble_eq_true rfl), (Nat.le_of_ble_eq_true rfl)⟩ ⟨(Nat.le_of_ble_eq_true rfl), (Nat.le_of_ble_eq_true rfl)⟩ dX4_house_19 (fun _ _ z => False.elim z) (fun v9 ws9 h5 => ?_)
    obtain ⟨r7, J8, nr7, etJ8, erJ8, eJ8, rfl, hw9⟩ := h5
    subst ws9
    dsimp only [mPush]
    refine r_if_eq (tgt := 29) hX dX4_house_22 (by decide) (fun c9 => ?_) (fun c9 => ?_)
    · have hs10 := mnone0 nr7 (by first | exact c9 | exact Classical.not_not.mp c9)
      refine r_aload_n hX dX4_house_29 rfl rfl ?_
      refine r_iload_n hX dX4_house_30 rfl rfl ?_
      refine r_callV hX (c_X4_houseTold _ _ _ _ J8 _ (mWF2 eJ8 hJ) i4 hhi4) kv_X4_222 14 rfl rfl rfl rfl (Nat.le_of_ble_eq_true rfl) ⟨(Nat.le_of_ble_eq_true rfl), (Nat.le_of_ble_eq_true rfl)⟩ ⟨(Nat.le_of_ble_eq_true rfl), (Nat.le_of_ble_eq_true rfl)⟩ dX4_house_31 (fun _ _ z => False.elim z) (fun v9 ws9 h11 => ?_)
      obtain ⟨r13, J14, hJ14, oJ14, rfl, hw9⟩ := h11
      subst ws9
      dsimp only [mPush]
      exact r_iret hX hE dX4_house_34 (Nat.le_of_ble_eq_true rfl) (Nat.le_of_ble_eq_true rfl) ⟨_, J14, hJ14, (oJ14.trans ((congrArg Prod.fst eJ8).trans rfl)), rfl, rfl⟩
    · refine r_iconst (v := 0) hX dX4_house_25 (by decide) ?_
      refine r_goto (tgt := 34) hX dX4_house_26 (by decide) ?_
      exact r_iret hX hE dX4_house_34 (Nat.le_of_ble_eq_true rfl) (Nat.le_of_ble_eq_true rfl) ⟨_, J8, (mWF2 eJ8 hJ), ((congrArg Prod.fst eJ8).trans rfl), rfl, rfl⟩
  · refine r_iconst (v := 1) hX dX4_house_13 (by decide) ?_
    refine r_goto (tgt := 18) hX dX4_house_14 (by decide) ?_
    refine r_iconst (v := 0) hX dX4_house_18 (by decide) ?_
    refine r_callV hX (c_X4_isStopped _ _ _ _ _ _ _ _) kv_X4_68 14 rfl rfl rfl rfl (Nat.le_of_ble_eq_true rfl) ⟨(Nat.le_of_ble_eq_true rfl), (Nat.le_of_ble_eq_true rfl)⟩ ⟨(Nat.le_of_ble_eq_true rfl), (Nat.le_of_ble_eq_true rfl)⟩ dX4_house_19 (fun _ _ z => False.elim z) (fun v9 ws9 h15 => ?_)
    obtain ⟨r17, J18, nr17, etJ18, erJ18, eJ18, rfl, hw9⟩ := h15
    subst ws9
    dsimp only [mPush]
    refine r_if_eq (tgt := 29) hX dX4_house_22 (by decide) (fun c19 => ?_) (fun c19 => ?_)
    · have hs20 := mnone0 nr17 (by first | exact c19 | exact Classical.not_not.mp c19)
      exact absurd hs20.1 (by decide)
    · refine r_iconst (v := 0) hX dX4_house_25 (by decide) ?_
      refine r_goto (tgt := 34) hX dX4_house_26 (by decide) ?_
      exact r_iret hX hE dX4_house_34 (Nat.le_of_ble_eq_true rfl) (Nat.le_of_ble_eq_true rfl) ⟨_, J18, (mWF2 eJ18 hJ), ((congrArg Prod.fst eJ18).trans rfl), rfl, rfl⟩
