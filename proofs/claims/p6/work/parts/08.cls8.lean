/-! The class, its contracts (rows by a program of this repository). -/
theorem dX2_areMomentsSound_0 : decode cX2_areMomentsSound 0 = .ok (.iconst 0, 1) := by decide +kernel
theorem dX2_areMomentsSound_1 : decode cX2_areMomentsSound 1 = .ok (.istore_n 1, 1) := by decide +kernel
theorem dX2_areMomentsSound_2 : decode cX2_areMomentsSound 2 = .ok (.iload_n 1, 1) := by decide +kernel
theorem dX2_areMomentsSound_3 : decode cX2_areMomentsSound 3 = .ok (.aload_n 0, 1) := by decide +kernel
theorem dX2_areMomentsSound_4 : decode cX2_areMomentsSound 4 = .ok (.getfield 13, 3) := by decide +kernel
theorem dX2_areMomentsSound_7 : decode cX2_areMomentsSound 7 = .ok (.arraylength, 1) := by decide +kernel
theorem dX2_areMomentsSound_8 : decode cX2_areMomentsSound 8 = .ok (.if_icmp .ge 80, 3) := by decide +kernel
theorem dX2_areMomentsSound_11 : decode cX2_areMomentsSound 11 = .ok (.aload_n 0, 1) := by decide +kernel
theorem dX2_areMomentsSound_12 : decode cX2_areMomentsSound 12 = .ok (.getfield 13, 3) := by decide +kernel
theorem dX2_areMomentsSound_15 : decode cX2_areMomentsSound 15 = .ok (.iload_n 1, 1) := by decide +kernel
theorem dX2_areMomentsSound_16 : decode cX2_areMomentsSound 16 = .ok (.laload, 1) := by decide +kernel
theorem dX2_areMomentsSound_17 : decode cX2_areMomentsSound 17 = .ok (.lstore_n 2, 1) := by decide +kernel
theorem dX2_areMomentsSound_18 : decode cX2_areMomentsSound 18 = .ok (.iconst 0, 1) := by decide +kernel
theorem dX2_areMomentsSound_19 : decode cX2_areMomentsSound 19 = .ok (.istore 4, 2) := by decide +kernel
theorem dX2_areMomentsSound_21 : decode cX2_areMomentsSound 21 = .ok (.iload 4, 2) := by decide +kernel
theorem dX2_areMomentsSound_23 : decode cX2_areMomentsSound 23 = .ok (.aload_n 0, 1) := by decide +kernel
theorem dX2_areMomentsSound_24 : decode cX2_areMomentsSound 24 = .ok (.getfield 9, 3) := by decide +kernel
theorem dX2_areMomentsSound_27 : decode cX2_areMomentsSound 27 = .ok (.arraylength, 1) := by decide +kernel
theorem dX2_areMomentsSound_28 : decode cX2_areMomentsSound 28 = .ok (.if_icmp .ge 54, 3) := by decide +kernel
theorem dX2_areMomentsSound_31 : decode cX2_areMomentsSound 31 = .ok (.aload_n 0, 1) := by decide +kernel
theorem dX2_areMomentsSound_32 : decode cX2_areMomentsSound 32 = .ok (.getfield 27, 3) := by decide +kernel
theorem dX2_areMomentsSound_35 : decode cX2_areMomentsSound 35 = .ok (.lload_n 2, 1) := by decide +kernel
theorem dX2_areMomentsSound_36 : decode cX2_areMomentsSound 36 = .ok (.invokestatic 96, 3) := by decide +kernel
theorem dX2_areMomentsSound_39 : decode cX2_areMomentsSound 39 = .ok (.aload_n 0, 1) := by decide +kernel
theorem dX2_areMomentsSound_40 : decode cX2_areMomentsSound 40 = .ok (.getfield 9, 3) := by decide +kernel
theorem dX2_areMomentsSound_43 : decode cX2_areMomentsSound 43 = .ok (.iload 4, 2) := by decide +kernel
theorem dX2_areMomentsSound_45 : decode cX2_areMomentsSound 45 = .ok (.iaload, 1) := by decide +kernel
theorem dX2_areMomentsSound_46 : decode cX2_areMomentsSound 46 = .ok (.i2l, 1) := by decide +kernel
theorem dX2_areMomentsSound_47 : decode cX2_areMomentsSound 47 = .ok (.ladd, 1) := by decide +kernel
theorem dX2_areMomentsSound_48 : decode cX2_areMomentsSound 48 = .ok (.lload_n 2, 1) := by decide +kernel
theorem dX2_areMomentsSound_49 : decode cX2_areMomentsSound 49 = .ok (.invokestatic 92, 3) := by decide +kernel
theorem dX2_areMomentsSound_52 : decode cX2_areMomentsSound 52 = .ok (.aload_n 0, 1) := by decide +kernel
theorem dX2_areMomentsSound_53 : decode cX2_areMomentsSound 53 = .ok (.getfield 9, 3) := by decide +kernel
theorem dX2_areMomentsSound_56 : decode cX2_areMomentsSound 56 = .ok (.iload 4, 2) := by decide +kernel
theorem dX2_areMomentsSound_58 : decode cX2_areMomentsSound 58 = .ok (.iaload, 1) := by decide +kernel
theorem dX2_areMomentsSound_59 : decode cX2_areMomentsSound 59 = .ok (.invokevirtual 270, 3) := by decide +kernel
theorem dX2_areMomentsSound_62 : decode cX2_areMomentsSound 62 = .ok (.aload_n 0, 1) := by decide +kernel
theorem dX2_areMomentsSound_63 : decode cX2_areMomentsSound 63 = .ok (.getfield 27, 3) := by decide +kernel
theorem dX2_areMomentsSound_66 : decode cX2_areMomentsSound 66 = .ok (.invokestatic 88, 3) := by decide +kernel
theorem dX2_areMomentsSound_69 : decode cX2_areMomentsSound 69 = .ok (.lload_n 2, 1) := by decide +kernel
theorem dX2_areMomentsSound_70 : decode cX2_areMomentsSound 70 = .ok (.lcmp, 1) := by decide +kernel
theorem dX2_areMomentsSound_71 : decode cX2_areMomentsSound 71 = .ok (.ifCond .eq 5, 3) := by decide +kernel
theorem dX2_areMomentsSound_74 : decode cX2_areMomentsSound 74 = .ok (.iconst 0, 1) := by decide +kernel
theorem dX2_areMomentsSound_75 : decode cX2_areMomentsSound 75 = .ok (.ireturn, 1) := by decide +kernel
theorem dX2_areMomentsSound_76 : decode cX2_areMomentsSound 76 = .ok (.iinc 4 1, 3) := by decide +kernel
theorem dX2_areMomentsSound_79 : decode cX2_areMomentsSound 79 = .ok (.goto (-58), 3) := by decide +kernel
theorem dX2_areMomentsSound_82 : decode cX2_areMomentsSound 82 = .ok (.iinc 1 1, 3) := by decide +kernel
theorem dX2_areMomentsSound_85 : decode cX2_areMomentsSound 85 = .ok (.goto (-83), 3) := by decide +kernel
theorem dX2_areMomentsSound_88 : decode cX2_areMomentsSound 88 = .ok (.iconst 1, 1) := by decide +kernel
theorem dX2_areMomentsSound_89 : decode cX2_areMomentsSound 89 = .ok (.ireturn, 1) := by decide +kernel
set_option maxHeartbeats 4000000 in
set_option maxRecDepth 20000 in
theorem c_X2_areMomentsSound (ad : Nat → Nat) (cs : ClassId × ClassId × ClassId) (K : mK) (rest : va_W) : mCt (mTy cs) yX2_areMomentsSound cX2_areMomentsSound 5 (some .boolean) ⟨2, 0, 0, 46⟩ [.ref (ad 0)] (mWd ad cs K rest) (mWb ad cs K rest) mNo := by
  refine mCt.of (by decide +kernel) (Nat.le_of_ble_eq_true rfl) (fun X hX hE => ?_)
  have hX : mOK X RX2 cX2_areMomentsSound 5 ⟨2, 0, 0, 46⟩ [] (mTy cs) := hX
  refine r_iconst (v := 0) hX dX2_areMomentsSound_0 (by decide) ?_
  refine r_istore_n hX dX2_areMomentsSound_1 rfl (by decide) rfl ?_
  have L2 : ∀ (N3 j1 : Nat), 4 - j1 < N3 → j1 ≤ 4 → ∀ K2 : mK, K2.1 = K.1 → mV X 2 [(0, some (.ref (ad 0))), (1, some (.int (nI j1)))] [] (mWd ad cs K2 rest) 0 0 := by
    intro N3
    induction N3 with
    | zero => intro j1; omega
    | succ N3 ih2 =>
      intro j1 hN2 hj1e K2 hK2
      refine r_iload_n hX dX2_areMomentsSound_2 rfl rfl ?_
      refine r_aload_n hX dX2_areMomentsSound_3 rfl rfl ?_
      refine r_get hX kf_X2_13 0 rfl rfl dX2_areMomentsSound_4 ?_
      refine r_alen (v := nI 4) hX 2 1 rfl rfl rfl dX2_areMomentsSound_7 ?_
      refine r_icmp_ge (tgt := 88) hX dX2_areMomentsSound_8 (by decide) (fun c4 => ?_) (fun c4 => ?_)
      · refine r_iconst (v := 1) hX dX2_areMomentsSound_88 (by decide) ?_
        exact r_zret hX hE dX2_areMomentsSound_89 (mB_n (Or.inr rfl)) (Nat.le_of_ble_eq_true rfl) (Nat.le_of_ble_eq_true rfl) ⟨_, K2, (Or.inr rfl), hK2, rfl, rfl⟩
      · have hj1 : j1 < 4 := mlt (by first | rfl | decide) (by decide) hj1e c4
        refine r_aload_n hX dX2_areMomentsSound_11 rfl rfl ?_
        refine r_get hX kf_X2_13 0 rfl rfl dX2_areMomentsSound_12 ?_
        refine r_iload_n hX dX2_areMomentsSound_15 rfl rfl ?_
        refine r_lald hX 2 1 rfl rfl (vp_in_nI hj1 (by decide)) dX2_areMomentsSound_16 ?_
        refine r_lstore_n hX dX2_areMomentsSound_17 rfl (by decide) rfl ?_
        refine r_iconst (v := 0) hX dX2_areMomentsSound_18 (by decide) ?_
        refine r_istore hX dX2_areMomentsSound_19 (by decide) rfl ?_
        have L21 : ∀ (N8 j5 : Nat) (x6 : Int64), 4 - j5 < N8 → j5 ≤ 4 → ∀ K7 : mK, K7.1 = K.1 → mV X 21 [(0, some (.ref (ad 0))), (1, some (.int (nI j1))), (2, some (.long x6)), (4, some (.int (nI j5)))] [] (mWd ad cs K7 rest) 0 0 := by
          intro N8
          induction N8 with
          | zero => intro j5 x6; omega
          | succ N8 ih21 =>
            intro j5 x6 hN21 hj5e K7 hK7
            refine r_iload hX dX2_areMomentsSound_21 rfl ?_
            refine r_aload_n hX dX2_areMomentsSound_23 rfl rfl ?_
            refine r_get hX kf_X2_9 0 rfl rfl dX2_areMomentsSound_24 ?_
            refine r_alen (v := nI 4) hX 1 0 rfl rfl rfl dX2_areMomentsSound_27 ?_
            refine r_icmp_ge (tgt := 82) hX dX2_areMomentsSound_28 (by decide) (fun c9 => ?_) (fun c9 => ?_)
            · refine r_iinc hX dX2_areMomentsSound_82 rfl (by decide) rfl ?_
              refine r_goto (tgt := 2) hX dX2_areMomentsSound_85 (by decide) ?_
              exact r_loc (k' := 0) (n' := 0) (by exact ⟨rfl, nI_inc' _, trivial⟩) (by decide) (by decide) (ih2 (j1 + 1) (by omega) (by omega) _ hK7)
            · have hj5 : j5 < 4 := mlt (by first | rfl | decide) (by decide) hj5e c9
              refine r_aload_n hX dX2_areMomentsSound_31 rfl rfl ?_
              refine r_get hX kf_X2_27 0 rfl rfl dX2_areMomentsSound_32 ?_
              refine r_lload_n hX dX2_areMomentsSound_35 rfl rfl ?_
              refine r_callS hX (c_X2_secondOf _ _ _) ks_X2_96 rfl rfl (Nat.le_of_ble_eq_true rfl) ⟨(Nat.le_of_ble_eq_true rfl), (Nat.le_of_ble_eq_true rfl)⟩ ⟨(Nat.le_of_ble_eq_true rfl), (Nat.le_of_ble_eq_true rfl)⟩ dX2_areMomentsSound_36 (fun _ _ z => False.elim z) (fun v9 ws9 h10 => ?_)
              obtain ⟨r12, rfl, hw9⟩ := h10
              subst ws9
              dsimp only [mPush]
              refine r_aload_n hX dX2_areMomentsSound_39 rfl rfl ?_
              refine r_get hX kf_X2_9 0 rfl rfl dX2_areMomentsSound_40 ?_
              refine r_iload hX dX2_areMomentsSound_43 rfl ?_
              refine r_iald hX 1 0 rfl rfl (vp_in_nI hj5 (by decide)) dX2_areMomentsSound_45 ?_
              refine r_i2l hX dX2_areMomentsSound_46 ?_
              refine r_ladd hX dX2_areMomentsSound_47 ?_
              refine r_lload_n hX dX2_areMomentsSound_48 rfl rfl ?_
              refine r_callS hX (c_X2_nanoOf _ _ _) ks_X2_92 rfl rfl (Nat.le_of_ble_eq_true rfl) ⟨(Nat.le_of_ble_eq_true rfl), (Nat.le_of_ble_eq_true rfl)⟩ ⟨(Nat.le_of_ble_eq_true rfl), (Nat.le_of_ble_eq_true rfl)⟩ dX2_areMomentsSound_49 (fun _ _ z => False.elim z) (fun v9 ws9 h13 => ?_)
              obtain ⟨r15, rfl, hw9⟩ := h13
              subst ws9
              dsimp only [mPush]
              refine r_aload_n hX dX2_areMomentsSound_52 rfl rfl ?_
              refine r_get hX kf_X2_9 0 rfl rfl dX2_areMomentsSound_53 ?_
              refine r_iload hX dX2_areMomentsSound_56 rfl ?_
              refine r_iald hX 1 0 rfl rfl (vp_in_nI hj5 (by decide)) dX2_areMomentsSound_58 ?_
              refine r_callV hX (c_X1_tell _ _ 12 _ _ _ _ (mWd_loc (d := 7) (by decide)) _ _ _) kv_X2_270 12 (mWd_loc (d := 7) (by decide)) rfl rfl rfl (Nat.le_of_ble_eq_true rfl) ⟨(Nat.le_of_ble_eq_true rfl), (Nat.le_of_ble_eq_true rfl)⟩ ⟨(Nat.le_of_ble_eq_true rfl), (Nat.le_of_ble_eq_true rfl)⟩ dX2_areMomentsSound_59 (fun _ _ z => False.elim z) (fun v9 ws9 h16 => ?_)
              obtain ⟨rfl, hw9⟩ := h16
              subst ws9
              dsimp only [mPush]
              rw [mWd_set (d := 7) (by decide)]
              refine r_aload_n hX dX2_areMomentsSound_62 rfl rfl ?_
              refine r_get hX kf_X2_27 0 rfl rfl dX2_areMomentsSound_63 ?_
              refine r_callS hX (c_X2_numberOf _ _ 12 _ _ _ _ (mWd_loc (d := 7) (by decide))) ks_X2_88 rfl rfl (Nat.le_of_ble_eq_true rfl) ⟨(Nat.le_of_ble_eq_true rfl), (Nat.le_of_ble_eq_true rfl)⟩ ⟨(Nat.le_of_ble_eq_true rfl), (Nat.le_of_ble_eq_true rfl)⟩ dX2_areMomentsSound_66 (fun _ _ z => False.elim z) (fun v9 ws9 h18 => ?_)
              obtain ⟨r20, rfl, hw9⟩ := h18
              subst ws9
              dsimp only [mPush]
              refine r_lload_n hX dX2_areMomentsSound_69 rfl rfl ?_
              refine r_lcmp hX dX2_areMomentsSound_70 ?_
              refine r_if_eq (tgt := 76) hX dX2_areMomentsSound_71 (by decide) (fun c21 => ?_) (fun c21 => ?_)
              · refine r_iinc hX dX2_areMomentsSound_76 rfl (by decide) rfl ?_
                refine r_goto (tgt := 21) hX dX2_areMomentsSound_79 (by decide) ?_
                exact r_loc (k' := 0) (n' := 0) (by exact ⟨rfl, rfl, rfl, nI_inc' _, trivial⟩) (by decide) (by decide) (ih21 (j5 + 1) _ (by omega) (by omega) _ hK7)
              · refine r_iconst (v := 0) hX dX2_areMomentsSound_74 (by decide) ?_
                exact r_zret hX hE dX2_areMomentsSound_75 (mB_n (Or.inl rfl)) (Nat.le_of_ble_eq_true rfl) (Nat.le_of_ble_eq_true rfl) ⟨_, (mKL K7 7 _), (Or.inl rfl), hK7, rfl, rfl⟩
        exact r_loc (k' := 0) (n' := 0) (by exact ⟨rfl, rfl, rfl, rfl, trivial⟩) (by decide) (by decide) (L21 (4 + 1) 0 _ (by omega) (by omega) _ hK2)
  exact r_loc (k' := 0) (n' := 0) (by exact ⟨rfl, rfl, trivial⟩) (by decide) (by decide) (L2 (4 + 1) 0 (by omega) (by omega) _ rfl)
theorem dX2_isToldAnewSound_0 : decode cX2_isToldAnewSound 0 = .ok (.aload_n 1, 1) := by decide +kernel
theorem dX2_isToldAnewSound_1 : decode cX2_isToldAnewSound 1 = .ok (.invokevirtual 169, 3) := by decide +kernel
theorem dX2_isToldAnewSound_4 : decode cX2_isToldAnewSound 4 = .ok (.iload_n 2, 1) := by decide +kernel
theorem dX2_isToldAnewSound_5 : decode cX2_isToldAnewSound 5 = .ok (.i2l, 1) := by decide +kernel
theorem dX2_isToldAnewSound_6 : decode cX2_isToldAnewSound 6 = .ok (.ladd, 1) := by decide +kernel
theorem dX2_isToldAnewSound_7 : decode cX2_isToldAnewSound 7 = .ok (.lstore_n 3, 1) := by decide +kernel
theorem dX2_isToldAnewSound_8 : decode cX2_isToldAnewSound 8 = .ok (.lload_n 3, 1) := by decide +kernel
theorem dX2_isToldAnewSound_9 : decode cX2_isToldAnewSound 9 = .ok (.ldc2_w 266, 3) := by decide +kernel
theorem dX2_isToldAnewSound_12 : decode cX2_isToldAnewSound 12 = .ok (.ldc2_w 268, 3) := by decide +kernel
theorem dX2_isToldAnewSound_15 : decode cX2_isToldAnewSound 15 = .ok (.invokestatic 48, 3) := by decide +kernel
theorem dX2_isToldAnewSound_18 : decode cX2_isToldAnewSound 18 = .ok (.ifCond .ne 5, 3) := by decide +kernel
theorem dX2_isToldAnewSound_21 : decode cX2_isToldAnewSound 21 = .ok (.iconst 1, 1) := by decide +kernel
theorem dX2_isToldAnewSound_22 : decode cX2_isToldAnewSound 22 = .ok (.ireturn, 1) := by decide +kernel
theorem dX2_isToldAnewSound_23 : decode cX2_isToldAnewSound 23 = .ok (.aload_n 0, 1) := by decide +kernel
theorem dX2_isToldAnewSound_24 : decode cX2_isToldAnewSound 24 = .ok (.getfield 27, 3) := by decide +kernel
theorem dX2_isToldAnewSound_27 : decode cX2_isToldAnewSound 27 = .ok (.lload_n 3, 1) := by decide +kernel
theorem dX2_isToldAnewSound_28 : decode cX2_isToldAnewSound 28 = .ok (.aload_n 1, 1) := by decide +kernel
theorem dX2_isToldAnewSound_29 : decode cX2_isToldAnewSound 29 = .ok (.getfield 172, 3) := by decide +kernel
theorem dX2_isToldAnewSound_32 : decode cX2_isToldAnewSound 32 = .ok (.iload_n 2, 1) := by decide +kernel
theorem dX2_isToldAnewSound_33 : decode cX2_isToldAnewSound 33 = .ok (.invokevirtual 270, 3) := by decide +kernel
theorem dX2_isToldAnewSound_36 : decode cX2_isToldAnewSound 36 = .ok (.aload_n 0, 1) := by decide +kernel
theorem dX2_isToldAnewSound_37 : decode cX2_isToldAnewSound 37 = .ok (.getfield 27, 3) := by decide +kernel
theorem dX2_isToldAnewSound_40 : decode cX2_isToldAnewSound 40 = .ok (.aload_n 1, 1) := by decide +kernel
theorem dX2_isToldAnewSound_41 : decode cX2_isToldAnewSound 41 = .ok (.invokevirtual 360, 3) := by decide +kernel
theorem dX2_isToldAnewSound_44 : decode cX2_isToldAnewSound 44 = .ok (.istore 5, 2) := by decide +kernel
theorem dX2_isToldAnewSound_46 : decode cX2_isToldAnewSound 46 = .ok (.aload_n 0, 1) := by decide +kernel
theorem dX2_isToldAnewSound_47 : decode cX2_isToldAnewSound 47 = .ok (.getfield 27, 3) := by decide +kernel
theorem dX2_isToldAnewSound_50 : decode cX2_isToldAnewSound 50 = .ok (.aload_n 0, 1) := by decide +kernel
theorem dX2_isToldAnewSound_51 : decode cX2_isToldAnewSound 51 = .ok (.getfield 27, 3) := by decide +kernel
theorem dX2_isToldAnewSound_54 : decode cX2_isToldAnewSound 54 = .ok (.invokevirtual 169, 3) := by decide +kernel
theorem dX2_isToldAnewSound_57 : decode cX2_isToldAnewSound 57 = .ok (.aload_n 1, 1) := by decide +kernel
theorem dX2_isToldAnewSound_58 : decode cX2_isToldAnewSound 58 = .ok (.getfield 158, 3) := by decide +kernel
theorem dX2_isToldAnewSound_61 : decode cX2_isToldAnewSound 61 = .ok (.i2l, 1) := by decide +kernel
theorem dX2_isToldAnewSound_62 : decode cX2_isToldAnewSound 62 = .ok (.ladd, 1) := by decide +kernel
theorem dX2_isToldAnewSound_63 : decode cX2_isToldAnewSound 63 = .ok (.aload_n 0, 1) := by decide +kernel
theorem dX2_isToldAnewSound_64 : decode cX2_isToldAnewSound 64 = .ok (.getfield 27, 3) := by decide +kernel
theorem dX2_isToldAnewSound_67 : decode cX2_isToldAnewSound 67 = .ok (.getfield 172, 3) := by decide +kernel
theorem dX2_isToldAnewSound_70 : decode cX2_isToldAnewSound 70 = .ok (.aload_n 1, 1) := by decide +kernel
theorem dX2_isToldAnewSound_71 : decode cX2_isToldAnewSound 71 = .ok (.getfield 158, 3) := by decide +kernel
theorem dX2_isToldAnewSound_74 : decode cX2_isToldAnewSound 74 = .ok (.invokevirtual 270, 3) := by decide +kernel
theorem dX2_isToldAnewSound_77 : decode cX2_isToldAnewSound 77 = .ok (.iload 5, 2) := by decide +kernel
theorem dX2_isToldAnewSound_79 : decode cX2_isToldAnewSound 79 = .ok (.ifCond .eq 18, 3) := by decide +kernel
theorem dX2_isToldAnewSound_82 : decode cX2_isToldAnewSound 82 = .ok (.aload_n 0, 1) := by decide +kernel
theorem dX2_isToldAnewSound_83 : decode cX2_isToldAnewSound 83 = .ok (.getfield 27, 3) := by decide +kernel
theorem dX2_isToldAnewSound_86 : decode cX2_isToldAnewSound 86 = .ok (.aload_n 1, 1) := by decide +kernel
theorem dX2_isToldAnewSound_87 : decode cX2_isToldAnewSound 87 = .ok (.invokevirtual 363, 3) := by decide +kernel
theorem dX2_isToldAnewSound_90 : decode cX2_isToldAnewSound 90 = .ok (.ifCond .eq 7, 3) := by decide +kernel
theorem dX2_isToldAnewSound_93 : decode cX2_isToldAnewSound 93 = .ok (.iconst 1, 1) := by decide +kernel
theorem dX2_isToldAnewSound_94 : decode cX2_isToldAnewSound 94 = .ok (.goto 4, 3) := by decide +kernel
theorem dX2_isToldAnewSound_97 : decode cX2_isToldAnewSound 97 = .ok (.iconst 0, 1) := by decide +kernel
theorem dX2_isToldAnewSound_98 : decode cX2_isToldAnewSound 98 = .ok (.ireturn, 1) := by decide +kernel
set_option maxHeartbeats 4000000 in
set_option maxRecDepth 20000 in
theorem c_X2_isToldAnewSound (ad : Nat → Nat) (cs : ClassId × ClassId × ClassId) (K : mK) (rest : va_W) (d0 : Nat) (hd0 : d0 < 9) (p1 : Int32) : mCt (mTy cs) yX2_isToldAnewSound cX2_isToldAnewSound 6 (some .boolean) ⟨2, 0, 0, 41⟩ [.ref (ad 0), .ref (ad (d0 + 5)), .int p1] (mWd ad cs K rest) (mWb ad cs K rest) mNo := by
  refine mCt.of (by decide +kernel) (Nat.le_of_ble_eq_true rfl) (fun X hX hE => ?_)
  have hX : mOK X RX2 cX2_isToldAnewSound 6 ⟨2, 0, 0, 41⟩ [] (mTy cs) := hX
  refine r_aload_n hX dX2_isToldAnewSound_0 rfl rfl ?_
  refine r_callV hX (c_X1_momentSecond _ _ (d0 + 5) _ _ _ _ (mWd_loc hd0)) kv_X2_169 (d0 + 5) (mWd_loc hd0) rfl rfl rfl (Nat.le_of_ble_eq_true rfl) ⟨(Nat.le_of_ble_eq_true rfl), (Nat.le_of_ble_eq_true rfl)⟩ ⟨(Nat.le_of_ble_eq_true rfl), (Nat.le_of_ble_eq_true rfl)⟩ dX2_isToldAnewSound_1 (fun _ _ z => False.elim z) (fun v9 ws9 h1 => ?_)
  obtain ⟨r3, rfl, hw9⟩ := h1
  subst ws9
  dsimp only [mPush]
  refine r_iload_n hX dX2_isToldAnewSound_4 rfl rfl ?_
  refine r_i2l hX dX2_isToldAnewSound_5 ?_
  refine r_ladd hX dX2_isToldAnewSound_6 ?_
  refine r_lstore_n hX dX2_isToldAnewSound_7 rfl (by decide) rfl ?_
  refine r_lload_n hX dX2_isToldAnewSound_8 rfl rfl ?_
  refine r_ldc2 hX kc_X2_266 dX2_isToldAnewSound_9 ?_
  refine r_ldc2 hX kc_X2_268 dX2_isToldAnewSound_12 ?_
  refine r_callS hX (c_X2_isWithin _ _ _ _ _) ks_X2_48 rfl rfl (Nat.le_of_ble_eq_true rfl) ⟨(Nat.le_of_ble_eq_true rfl), (Nat.le_of_ble_eq_true rfl)⟩ ⟨(Nat.le_of_ble_eq_true rfl), (Nat.le_of_ble_eq_true rfl)⟩ dX2_isToldAnewSound_15 (fun _ _ z => False.elim z) (fun v9 ws9 h4 => ?_)
  obtain ⟨rfl, hw9⟩ := h4
  subst ws9
  dsimp only [mPush]
  refine r_if_ne (tgt := 23) hX dX2_isToldAnewSound_18 (by decide) (fun c6 => ?_) (fun c6 => ?_)
  · refine r_aload_n hX dX2_isToldAnewSound_23 rfl rfl ?_
    refine r_get hX kf_X2_27 0 rfl rfl dX2_isToldAnewSound_24 ?_
    refine r_lload_n hX dX2_isToldAnewSound_27 rfl rfl ?_
    refine r_aload_n hX dX2_isToldAnewSound_28 rfl rfl ?_
    refine r_getN hX kg_X2_172 (d0 + 5) (mWd_loc hd0) rfl dX2_isToldAnewSound_29 ?_
    refine r_iload_n hX dX2_isToldAnewSound_32 rfl rfl ?_
    refine r_callV hX (c_X1_tell _ _ 12 _ _ _ _ (mWd_loc (d := 7) (by decide)) _ _ _) kv_X2_270 12 (mWd_loc (d := 7) (by decide)) rfl rfl rfl (Nat.le_of_ble_eq_true rfl) ⟨(Nat.le_of_ble_eq_true rfl), (Nat.le_of_ble_eq_true rfl)⟩ ⟨(Nat.le_of_ble_eq_true rfl), (Nat.le_of_ble_eq_true rfl)⟩ dX2_isToldAnewSound_33 (fun _ _ z => False.elim z) (fun v9 ws9 h7 => ?_)
    obtain ⟨rfl, hw9⟩ := h7
    subst ws9
    dsimp only [mPush]
    rw [mWd_set (d := 7) (by decide)]
    refine r_aload_n hX dX2_isToldAnewSound_36 rfl rfl ?_
    refine r_get hX kf_X2_27 0 rfl rfl dX2_isToldAnewSound_37 ?_
    refine r_aload_n hX dX2_isToldAnewSound_40 rfl rfl ?_
    refine r_callV hX (c_X1_isAlike _ _ 12 _ _ _ _ (mWd_loc (d := 7) (by decide)) (d0 + 5) _ _ _ _ (mWd_loc hd0)) kv_X2_360 12 (mWd_loc (d := 7) (by decide)) rfl rfl rfl (Nat.le_of_ble_eq_true rfl) ⟨(Nat.le_of_ble_eq_true rfl), (Nat.le_of_ble_eq_true rfl)⟩ ⟨(Nat.le_of_ble_eq_true rfl), (Nat.le_of_ble_eq_true rfl)⟩ dX2_isToldAnewSound_41 (fun _ _ z => False.elim z) (fun v9 ws9 h9 => ?_)
    obtain ⟨r11, br11, rfl, hw9⟩ := h9
    subst ws9
    dsimp only [mPush]
    refine r_istore hX dX2_isToldAnewSound_44 (by decide) rfl ?_
    refine r_aload_n hX dX2_isToldAnewSound_46 rfl rfl ?_
    refine r_get hX kf_X2_27 0 rfl rfl dX2_isToldAnewSound_47 ?_
    refine r_aload_n hX dX2_isToldAnewSound_50 rfl rfl ?_
    refine r_get hX kf_X2_27 0 rfl rfl dX2_isToldAnewSound_51 ?_
    refine r_callV hX (c_X1_momentSecond _ _ 12 _ _ _ _ (mWd_loc (d := 7) (by decide))) kv_X2_169 12 (mWd_loc (d := 7) (by decide)) rfl rfl rfl (Nat.le_of_ble_eq_true rfl) ⟨(Nat.le_of_ble_eq_true rfl), (Nat.le_of_ble_eq_true rfl)⟩ ⟨(Nat.le_of_ble_eq_true rfl), (Nat.le_of_ble_eq_true rfl)⟩ dX2_isToldAnewSound_54 (fun _ _ z => False.elim z) (fun v9 ws9 h12 => ?_)
    obtain ⟨r14, rfl, hw9⟩ := h12
    subst ws9
    dsimp only [mPush]
    refine r_aload_n hX dX2_isToldAnewSound_57 rfl rfl ?_
    refine r_getN hX kg_X2_158 (d0 + 5) (mWd_loc hd0) rfl dX2_isToldAnewSound_58 ?_
    refine r_i2l hX dX2_isToldAnewSound_61 ?_
    refine r_ladd hX dX2_isToldAnewSound_62 ?_
    refine r_aload_n hX dX2_isToldAnewSound_63 rfl rfl ?_
    refine r_get hX kf_X2_27 0 rfl rfl dX2_isToldAnewSound_64 ?_
    refine r_getN hX kg_X2_172 12 (mWd_loc (d := 7) (by decide)) rfl dX2_isToldAnewSound_67 ?_
    refine r_aload_n hX dX2_isToldAnewSound_70 rfl rfl ?_
    refine r_getN hX kg_X2_158 (d0 + 5) (mWd_loc hd0) rfl dX2_isToldAnewSound_71 ?_
    refine r_callV hX (c_X1_tell _ _ 12 _ _ _ _ (mWd_loc (d := 7) (by decide)) _ _ _) kv_X2_270 12 (mWd_loc (d := 7) (by decide)) rfl rfl rfl (Nat.le_of_ble_eq_true rfl) ⟨(Nat.le_of_ble_eq_true rfl), (Nat.le_of_ble_eq_true rfl)⟩ ⟨(Nat.le_of_ble_eq_true rfl), (Nat.le_of_ble_eq_true rfl)⟩ dX2_isToldAnewSound_74 (fun _ _ z => False.elim z) (fun v9 ws9 h15 => ?_)
    obtain ⟨rfl, hw9⟩ := h15
    subst ws9
    dsimp only [mPush]
    rw [mWd_set (d := 7) (by decide)]
    refine r_iload hX dX2_isToldAnewSound_77 rfl ?_
    refine r_if_eq (tgt := 97) hX dX2_isToldAnewSound_79 (by decide) (fun c17 => ?_) (fun c17 => ?_)
    · refine r_iconst (v := 0) hX dX2_isToldAnewSound_97 (by decide) ?_
      exact r_zret hX hE dX2_isToldAnewSound_98 (mB_n (Or.inl rfl)) (Nat.le_of_ble_eq_true rfl) (Nat.le_of_ble_eq_true rfl) ⟨_, (mKL (mKL K 7 _) 7 _), (Or.inl rfl), rfl, rfl, rfl⟩
    · refine r_aload_n hX dX2_isToldAnewSound_82 rfl rfl ?_
      refine r_get hX kf_X2_27 0 rfl rfl dX2_isToldAnewSound_83 ?_
      refine r_aload_n hX dX2_isToldAnewSound_86 rfl rfl ?_
      refine r_callV hX (c_X1_isSame _ _ 12 _ _ _ _ (mWd_loc (d := 7) (by decide)) (d0 + 5) _ _ _ _ (mWd_loc hd0)) kv_X2_363 12 (mWd_loc (d := 7) (by decide)) rfl rfl rfl (Nat.le_of_ble_eq_true rfl) ⟨(Nat.le_of_ble_eq_true rfl), (Nat.le_of_ble_eq_true rfl)⟩ ⟨(Nat.le_of_ble_eq_true rfl), (Nat.le_of_ble_eq_true rfl)⟩ dX2_isToldAnewSound_87 (fun _ _ z => False.elim z) (fun v9 ws9 h18 => ?_)
      obtain ⟨r20, br20, rfl, hw9⟩ := h18
      subst ws9
      dsimp only [mPush]
      refine r_if_eq (tgt := 97) hX dX2_isToldAnewSound_90 (by decide) (fun c21 => ?_) (fun c21 => ?_)
      · refine r_iconst (v := 0) hX dX2_isToldAnewSound_97 (by decide) ?_
        exact r_zret hX hE dX2_isToldAnewSound_98 (mB_n (Or.inl rfl)) (Nat.le_of_ble_eq_true rfl) (Nat.le_of_ble_eq_true rfl) ⟨_, (mKL (mKL K 7 _) 7 _), (Or.inl rfl), rfl, rfl, rfl⟩
      · refine r_iconst (v := 1) hX dX2_isToldAnewSound_93 (by decide) ?_
        refine r_goto (tgt := 98) hX dX2_isToldAnewSound_94 (by decide) ?_
        exact r_zret hX hE dX2_isToldAnewSound_98 (mB_n (Or.inr rfl)) (Nat.le_of_ble_eq_true rfl) (Nat.le_of_ble_eq_true rfl) ⟨_, (mKL (mKL K 7 _) 7 _), (Or.inr rfl), rfl, rfl, rfl⟩
  · refine r_iconst (v := 1) hX dX2_isToldAnewSound_21 (by decide) ?_
    exact r_zret hX hE dX2_isToldAnewSound_22 (mB_n (Or.inr rfl)) (Nat.le_of_ble_eq_true rfl) (Nat.le_of_ble_eq_true rfl) ⟨_, K, (Or.inr rfl), rfl, rfl, rfl⟩
theorem dX2_areDatesToldAnewSound_0 : decode cX2_areDatesToldAnewSound 0 = .ok (.iconst 0, 1) := by decide +kernel
theorem dX2_areDatesToldAnewSound_1 : decode cX2_areDatesToldAnewSound 1 = .ok (.istore_n 1, 1) := by decide +kernel
theorem dX2_areDatesToldAnewSound_2 : decode cX2_areDatesToldAnewSound 2 = .ok (.iload_n 1, 1) := by decide +kernel
theorem dX2_areDatesToldAnewSound_3 : decode cX2_areDatesToldAnewSound 3 = .ok (.aload_n 0, 1) := by decide +kernel
theorem dX2_areDatesToldAnewSound_4 : decode cX2_areDatesToldAnewSound 4 = .ok (.getfield 20, 3) := by decide +kernel
theorem dX2_areDatesToldAnewSound_7 : decode cX2_areDatesToldAnewSound 7 = .ok (.arraylength, 1) := by decide +kernel
theorem dX2_areDatesToldAnewSound_8 : decode cX2_areDatesToldAnewSound 8 = .ok (.if_icmp .ge 49, 3) := by decide +kernel
theorem dX2_areDatesToldAnewSound_11 : decode cX2_areDatesToldAnewSound 11 = .ok (.iconst 0, 1) := by decide +kernel
theorem dX2_areDatesToldAnewSound_12 : decode cX2_areDatesToldAnewSound 12 = .ok (.istore_n 2, 1) := by decide +kernel
theorem dX2_areDatesToldAnewSound_13 : decode cX2_areDatesToldAnewSound 13 = .ok (.iload_n 2, 1) := by decide +kernel
theorem dX2_areDatesToldAnewSound_14 : decode cX2_areDatesToldAnewSound 14 = .ok (.aload_n 0, 1) := by decide +kernel
theorem dX2_areDatesToldAnewSound_15 : decode cX2_areDatesToldAnewSound 15 = .ok (.getfield 9, 3) := by decide +kernel
theorem dX2_areDatesToldAnewSound_18 : decode cX2_areDatesToldAnewSound 18 = .ok (.arraylength, 1) := by decide +kernel
theorem dX2_areDatesToldAnewSound_19 : decode cX2_areDatesToldAnewSound 19 = .ok (.if_icmp .ge 32, 3) := by decide +kernel
theorem dX2_areDatesToldAnewSound_22 : decode cX2_areDatesToldAnewSound 22 = .ok (.aload_n 0, 1) := by decide +kernel
theorem dX2_areDatesToldAnewSound_23 : decode cX2_areDatesToldAnewSound 23 = .ok (.aload_n 0, 1) := by decide +kernel
theorem dX2_areDatesToldAnewSound_24 : decode cX2_areDatesToldAnewSound 24 = .ok (.getfield 20, 3) := by decide +kernel
theorem dX2_areDatesToldAnewSound_27 : decode cX2_areDatesToldAnewSound 27 = .ok (.iload_n 1, 1) := by decide +kernel
theorem dX2_areDatesToldAnewSound_28 : decode cX2_areDatesToldAnewSound 28 = .ok (.invokestatic 84, 3) := by decide +kernel
theorem dX2_areDatesToldAnewSound_31 : decode cX2_areDatesToldAnewSound 31 = .ok (.aload_n 0, 1) := by decide +kernel
theorem dX2_areDatesToldAnewSound_32 : decode cX2_areDatesToldAnewSound 32 = .ok (.getfield 9, 3) := by decide +kernel
theorem dX2_areDatesToldAnewSound_35 : decode cX2_areDatesToldAnewSound 35 = .ok (.iload_n 2, 1) := by decide +kernel
theorem dX2_areDatesToldAnewSound_36 : decode cX2_areDatesToldAnewSound 36 = .ok (.iaload, 1) := by decide +kernel
theorem dX2_areDatesToldAnewSound_37 : decode cX2_areDatesToldAnewSound 37 = .ok (.invokevirtual 366, 3) := by decide +kernel
theorem dX2_areDatesToldAnewSound_40 : decode cX2_areDatesToldAnewSound 40 = .ok (.ifCond .ne 5, 3) := by decide +kernel
theorem dX2_areDatesToldAnewSound_43 : decode cX2_areDatesToldAnewSound 43 = .ok (.iconst 0, 1) := by decide +kernel
theorem dX2_areDatesToldAnewSound_44 : decode cX2_areDatesToldAnewSound 44 = .ok (.ireturn, 1) := by decide +kernel
theorem dX2_areDatesToldAnewSound_45 : decode cX2_areDatesToldAnewSound 45 = .ok (.iinc 2 1, 3) := by decide +kernel
theorem dX2_areDatesToldAnewSound_48 : decode cX2_areDatesToldAnewSound 48 = .ok (.goto (-35), 3) := by decide +kernel
theorem dX2_areDatesToldAnewSound_51 : decode cX2_areDatesToldAnewSound 51 = .ok (.iinc 1 1, 3) := by decide +kernel
theorem dX2_areDatesToldAnewSound_54 : decode cX2_areDatesToldAnewSound 54 = .ok (.goto (-52), 3) := by decide +kernel
theorem dX2_areDatesToldAnewSound_57 : decode cX2_areDatesToldAnewSound 57 = .ok (.iconst 1, 1) := by decide +kernel
theorem dX2_areDatesToldAnewSound_58 : decode cX2_areDatesToldAnewSound 58 = .ok (.ireturn, 1) := by decide +kernel
set_option maxHeartbeats 4000000 in
set_option maxRecDepth 20000 in
theorem c_X2_areDatesToldAnewSound (ad : Nat → Nat) (cs : ClassId × ClassId × ClassId) (K : mK) (rest : va_W) : mCt (mTy cs) yX2_areDatesToldAnewSound cX2_areDatesToldAnewSound 3 (some .boolean) ⟨3, 0, 0, 66⟩ [.ref (ad 0)] (mWd ad cs K rest) (mWb ad cs K rest) mNo := by
  refine mCt.of (by decide +kernel) (Nat.le_of_ble_eq_true rfl) (fun X hX hE => ?_)
  have hX : mOK X RX2 cX2_areDatesToldAnewSound 3 ⟨3, 0, 0, 66⟩ [] (mTy cs) := hX
  refine r_iconst (v := 0) hX dX2_areDatesToldAnewSound_0 (by decide) ?_
  refine r_istore_n hX dX2_areDatesToldAnewSound_1 rfl (by decide) rfl ?_
  have L2 : ∀ (N3 j1 : Nat), 4 - j1 < N3 → j1 ≤ 4 → ∀ K2 : mK, K2.1 = K.1 → mV X 2 [(0, some (.ref (ad 0))), (1, some (.int (nI j1)))] [] (mWd ad cs K2 rest) 0 0 := by
    intro N3
    induction N3 with
    | zero => intro j1; omega
    | succ N3 ih2 =>
      intro j1 hN2 hj1e K2 hK2
      refine r_iload_n hX dX2_areDatesToldAnewSound_2 rfl rfl ?_
      refine r_aload_n hX dX2_areDatesToldAnewSound_3 rfl rfl ?_
      refine r_get hX kf_X2_20 0 rfl rfl dX2_areDatesToldAnewSound_4 ?_
      refine r_alen (v := nI 4) hX 3 2 rfl rfl rfl dX2_areDatesToldAnewSound_7 ?_
      refine r_icmp_ge (tgt := 57) hX dX2_areDatesToldAnewSound_8 (by decide) (fun c4 => ?_) (fun c4 => ?_)
      · refine r_iconst (v := 1) hX dX2_areDatesToldAnewSound_57 (by decide) ?_
        exact r_zret hX hE dX2_areDatesToldAnewSound_58 (mB_n (Or.inr rfl)) (Nat.le_of_ble_eq_true rfl) (Nat.le_of_ble_eq_true rfl) ⟨_, K2, (Or.inr rfl), hK2, rfl, rfl⟩
      · have hj1 : j1 < 4 := mlt (by first | rfl | decide) (by decide) hj1e c4
        refine r_iconst (v := 0) hX dX2_areDatesToldAnewSound_11 (by decide) ?_
        refine r_istore_n hX dX2_areDatesToldAnewSound_12 rfl (by decide) rfl ?_
        have L13 : ∀ (N7 j5 : Nat), 4 - j5 < N7 → j5 ≤ 4 → ∀ K6 : mK, K6.1 = K.1 → mV X 13 [(0, some (.ref (ad 0))), (1, some (.int (nI j1))), (2, some (.int (nI j5)))] [] (mWd ad cs K6 rest) 0 0 := by
          intro N7
          induction N7 with
          | zero => intro j5; omega
          | succ N7 ih13 =>
            intro j5 hN13 hj5e K6 hK6
            refine r_iload_n hX dX2_areDatesToldAnewSound_13 rfl rfl ?_
            refine r_aload_n hX dX2_areDatesToldAnewSound_14 rfl rfl ?_
            refine r_get hX kf_X2_9 0 rfl rfl dX2_areDatesToldAnewSound_15 ?_
            refine r_alen (v := nI 4) hX 1 0 rfl rfl rfl dX2_areDatesToldAnewSound_18 ?_
            refine r_icmp_ge (tgt := 51) hX dX2_areDatesToldAnewSound_19 (by decide) (fun c8 => ?_) (fun c8 => ?_)
            · refine r_iinc hX dX2_areDatesToldAnewSound_51 rfl (by decide) rfl ?_
              refine r_goto (tgt := 2) hX dX2_areDatesToldAnewSound_54 (by decide) ?_
              exact r_loc (k' := 0) (n' := 0) (by exact ⟨rfl, nI_inc' _, trivial⟩) (by decide) (by decide) (ih2 (j1 + 1) (by omega) (by omega) _ hK6)
            · have hj5 : j5 < 4 := mlt (by first | rfl | decide) (by decide) hj5e c8
              refine r_aload_n hX dX2_areDatesToldAnewSound_22 rfl rfl ?_
              refine r_aload_n hX dX2_areDatesToldAnewSound_23 rfl rfl ?_
              refine r_get hX kf_X2_20 0 rfl rfl dX2_areDatesToldAnewSound_24 ?_
              refine r_iload_n hX dX2_areDatesToldAnewSound_27 rfl rfl ?_
              refine r_callS hX (c_X2_at_ok ad cs _ 3 _ 4 0 rfl (by decide) j1 hj1) ks_X2_84 rfl rfl (Nat.le_of_ble_eq_true rfl) ⟨(Nat.le_of_ble_eq_true rfl), (Nat.le_of_ble_eq_true rfl)⟩ ⟨(Nat.le_of_ble_eq_true rfl), (Nat.le_of_ble_eq_true rfl)⟩ dX2_areDatesToldAnewSound_28 (fun _ _ z => False.elim z) (fun v9 ws9 h9 => ?_)
              obtain ⟨rfl, hw9⟩ := h9
              subst ws9
              dsimp only [mPush]
              refine r_aload_n hX dX2_areDatesToldAnewSound_31 rfl rfl ?_
              refine r_get hX kf_X2_9 0 rfl rfl dX2_areDatesToldAnewSound_32 ?_
              refine r_iload_n hX dX2_areDatesToldAnewSound_35 rfl rfl ?_
              refine r_iald hX 1 0 rfl rfl (vp_in_nI hj5 (by decide)) dX2_areDatesToldAnewSound_36 ?_
              refine r_callV hX (c_X2_isToldAnewSound _ _ _ _ j1 (by omega) _) kv_X2_366 0 rfl rfl rfl rfl (Nat.le_of_ble_eq_true rfl) ⟨(Nat.le_of_ble_eq_true rfl), (Nat.le_of_ble_eq_true rfl)⟩ ⟨(Nat.le_of_ble_eq_true rfl), (Nat.le_of_ble_eq_true rfl)⟩ dX2_areDatesToldAnewSound_37 (fun _ _ z => False.elim z) (fun v9 ws9 h11 => ?_)
              obtain ⟨r13, K14, br13, hK14, rfl, hw9⟩ := h11
              subst ws9
              dsimp only [mPush]
              refine r_if_ne (tgt := 45) hX dX2_areDatesToldAnewSound_40 (by decide) (fun c15 => ?_) (fun c15 => ?_)
              · refine r_iinc hX dX2_areDatesToldAnewSound_45 rfl (by decide) rfl ?_
                refine r_goto (tgt := 13) hX dX2_areDatesToldAnewSound_48 (by decide) ?_
                exact r_loc (k' := 0) (n' := 0) (by exact ⟨rfl, rfl, nI_inc' _, trivial⟩) (by decide) (by decide) (ih13 (j5 + 1) (by omega) (by omega) _ (hK14.trans hK6))
              · refine r_iconst (v := 0) hX dX2_areDatesToldAnewSound_43 (by decide) ?_
                exact r_zret hX hE dX2_areDatesToldAnewSound_44 (mB_n (Or.inl rfl)) (Nat.le_of_ble_eq_true rfl) (Nat.le_of_ble_eq_true rfl) ⟨_, K14, (Or.inl rfl), (hK14.trans hK6), rfl, rfl⟩
        exact r_loc (k' := 0) (n' := 0) (by exact ⟨rfl, rfl, rfl, trivial⟩) (by decide) (by decide) (L13 (4 + 1) 0 (by omega) (by omega) _ hK2)
  exact r_loc (k' := 0) (n' := 0) (by exact ⟨rfl, rfl, trivial⟩) (by decide) (by decide) (L2 (4 + 1) 0 (by omega) (by omega) _ rfl)
theorem dX2_arePairsSound_0 : decode cX2_arePairsSound 0 = .ok (.iconst 0, 1) := by decide +kernel
theorem dX2_arePairsSound_1 : decode cX2_arePairsSound 1 = .ok (.istore_n 1, 1) := by decide +kernel
theorem dX2_arePairsSound_2 : decode cX2_arePairsSound 2 = .ok (.iload_n 1, 1) := by decide +kernel
theorem dX2_arePairsSound_3 : decode cX2_arePairsSound 3 = .ok (.aload_n 0, 1) := by decide +kernel
theorem dX2_arePairsSound_4 : decode cX2_arePairsSound 4 = .ok (.getfield 20, 3) := by decide +kernel
theorem dX2_arePairsSound_7 : decode cX2_arePairsSound 7 = .ok (.arraylength, 1) := by decide +kernel
theorem dX2_arePairsSound_8 : decode cX2_arePairsSound 8 = .ok (.if_icmp .ge 50, 3) := by decide +kernel
theorem dX2_arePairsSound_11 : decode cX2_arePairsSound 11 = .ok (.iconst 0, 1) := by decide +kernel
theorem dX2_arePairsSound_12 : decode cX2_arePairsSound 12 = .ok (.istore_n 2, 1) := by decide +kernel
theorem dX2_arePairsSound_13 : decode cX2_arePairsSound 13 = .ok (.iload_n 2, 1) := by decide +kernel
theorem dX2_arePairsSound_14 : decode cX2_arePairsSound 14 = .ok (.aload_n 0, 1) := by decide +kernel
theorem dX2_arePairsSound_15 : decode cX2_arePairsSound 15 = .ok (.getfield 20, 3) := by decide +kernel
theorem dX2_arePairsSound_18 : decode cX2_arePairsSound 18 = .ok (.arraylength, 1) := by decide +kernel
theorem dX2_arePairsSound_19 : decode cX2_arePairsSound 19 = .ok (.if_icmp .ge 33, 3) := by decide +kernel
theorem dX2_arePairsSound_22 : decode cX2_arePairsSound 22 = .ok (.aload_n 0, 1) := by decide +kernel
theorem dX2_arePairsSound_23 : decode cX2_arePairsSound 23 = .ok (.getfield 20, 3) := by decide +kernel
theorem dX2_arePairsSound_26 : decode cX2_arePairsSound 26 = .ok (.iload_n 1, 1) := by decide +kernel
theorem dX2_arePairsSound_27 : decode cX2_arePairsSound 27 = .ok (.invokestatic 84, 3) := by decide +kernel
theorem dX2_arePairsSound_30 : decode cX2_arePairsSound 30 = .ok (.aload_n 0, 1) := by decide +kernel
theorem dX2_arePairsSound_31 : decode cX2_arePairsSound 31 = .ok (.getfield 20, 3) := by decide +kernel
theorem dX2_arePairsSound_34 : decode cX2_arePairsSound 34 = .ok (.iload_n 2, 1) := by decide +kernel
theorem dX2_arePairsSound_35 : decode cX2_arePairsSound 35 = .ok (.invokestatic 84, 3) := by decide +kernel
theorem dX2_arePairsSound_38 : decode cX2_arePairsSound 38 = .ok (.invokestatic 370, 3) := by decide +kernel
theorem dX2_arePairsSound_41 : decode cX2_arePairsSound 41 = .ok (.ifCond .ne 5, 3) := by decide +kernel
theorem dX2_arePairsSound_44 : decode cX2_arePairsSound 44 = .ok (.iconst 0, 1) := by decide +kernel
theorem dX2_arePairsSound_45 : decode cX2_arePairsSound 45 = .ok (.ireturn, 1) := by decide +kernel
theorem dX2_arePairsSound_46 : decode cX2_arePairsSound 46 = .ok (.iinc 2 1, 3) := by decide +kernel
theorem dX2_arePairsSound_49 : decode cX2_arePairsSound 49 = .ok (.goto (-36), 3) := by decide +kernel
theorem dX2_arePairsSound_52 : decode cX2_arePairsSound 52 = .ok (.iinc 1 1, 3) := by decide +kernel
theorem dX2_arePairsSound_55 : decode cX2_arePairsSound 55 = .ok (.goto (-53), 3) := by decide +kernel
theorem dX2_arePairsSound_58 : decode cX2_arePairsSound 58 = .ok (.iconst 1, 1) := by decide +kernel
theorem dX2_arePairsSound_59 : decode cX2_arePairsSound 59 = .ok (.ireturn, 1) := by decide +kernel
set_option maxHeartbeats 4000000 in
set_option maxRecDepth 20000 in
theorem c_X2_arePairsSound (ad : Nat → Nat) (cs : ClassId × ClassId × ClassId) (K : mK) (rest : va_W) : mCt (mTy cs) yX2_arePairsSound cX2_arePairsSound 3 (some .boolean) ⟨4, 0, 0, 90⟩ [.ref (ad 0)] (mWd ad cs K rest) (mWb ad cs K rest) mNo := by
  refine mCt.of (by decide +kernel) (Nat.le_of_ble_eq_true rfl) (fun X hX hE => ?_)
  have hX : mOK X RX2 cX2_arePairsSound 3 ⟨4, 0, 0, 90⟩ [] (mTy cs) := hX
  refine r_iconst (v := 0) hX dX2_arePairsSound_0 (by decide) ?_
  refine r_istore_n hX dX2_arePairsSound_1 rfl (by decide) rfl ?_
  have L2 : ∀ (N3 j1 : Nat), 4 - j1 < N3 → j1 ≤ 4 → ∀ K2 : mK, K2.1 = K.1 → mV X 2 [(0, some (.ref (ad 0))), (1, some (.int (nI j1)))] [] (mWd ad cs K2 rest) 0 0 := by
    intro N3
    induction N3 with
    | zero => intro j1; omega
    | succ N3 ih2 =>
      intro j1 hN2 hj1e K2 hK2
      refine r_iload_n hX dX2_arePairsSound_2 rfl rfl ?_
      refine r_aload_n hX dX2_arePairsSound_3 rfl rfl ?_
      refine r_get hX kf_X2_20 0 rfl rfl dX2_arePairsSound_4 ?_
      refine r_alen (v := nI 4) hX 3 2 rfl rfl rfl dX2_arePairsSound_7 ?_
      refine r_icmp_ge (tgt := 58) hX dX2_arePairsSound_8 (by decide) (fun c4 => ?_) (fun c4 => ?_)
      · refine r_iconst (v := 1) hX dX2_arePairsSound_58 (by decide) ?_
        exact r_zret hX hE dX2_arePairsSound_59 (mB_n (Or.inr rfl)) (Nat.le_of_ble_eq_true rfl) (Nat.le_of_ble_eq_true rfl) ⟨_, K2, (Or.inr rfl), hK2, rfl, rfl⟩
      · have hj1 : j1 < 4 := mlt (by first | rfl | decide) (by decide) hj1e c4
        refine r_iconst (v := 0) hX dX2_arePairsSound_11 (by decide) ?_
        refine r_istore_n hX dX2_arePairsSound_12 rfl (by decide) rfl ?_
        have L13 : ∀ (N7 j5 : Nat), 4 - j5 < N7 → j5 ≤ 4 → ∀ K6 : mK, K6.1 = K.1 → mV X 13 [(0, some (.ref (ad 0))), (1, some (.int (nI j1))), (2, some (.int (nI j5)))] [] (mWd ad cs K6 rest) 0 0 := by
          intro N7
          induction N7 with
          | zero => intro j5; omega
          | succ N7 ih13 =>
            intro j5 hN13 hj5e K6 hK6
            refine r_iload_n hX dX2_arePairsSound_13 rfl rfl ?_
            refine r_aload_n hX dX2_arePairsSound_14 rfl rfl ?_
            refine r_get hX kf_X2_20 0 rfl rfl dX2_arePairsSound_15 ?_
            refine r_alen (v := nI 4) hX 3 2 rfl rfl rfl dX2_arePairsSound_18 ?_
            refine r_icmp_ge (tgt := 52) hX dX2_arePairsSound_19 (by decide) (fun c8 => ?_) (fun c8 => ?_)
            · refine r_iinc hX dX2_arePairsSound_52 rfl (by decide) rfl ?_
              refine r_goto (tgt := 2) hX dX2_arePairsSound_55 (by decide) ?_
              exact r_loc (k' := 0) (n' := 0) (by exact ⟨rfl, nI_inc' _, trivial⟩) (by decide) (by decide) (ih2 (j1 + 1) (by omega) (by omega) _ hK6)
            · have hj5 : j5 < 4 := mlt (by first | rfl | decide) (by decide) hj5e c8
              refine r_aload_n hX dX2_arePairsSound_22 rfl rfl ?_
              refine r_get hX kf_X2_20 0 rfl rfl dX2_arePairsSound_23 ?_
              refine r_iload_n hX dX2_arePairsSound_26 rfl rfl ?_
              refine r_callS hX (c_X2_at_ok ad cs _ 3 _ 4 0 rfl (by decide) j1 hj1) ks_X2_84 rfl rfl (Nat.le_of_ble_eq_true rfl) ⟨(Nat.le_of_ble_eq_true rfl), (Nat.le_of_ble_eq_true rfl)⟩ ⟨(Nat.le_of_ble_eq_true rfl), (Nat.le_of_ble_eq_true rfl)⟩ dX2_arePairsSound_27 (fun _ _ z => False.elim z) (fun v9 ws9 h9 => ?_)
              obtain ⟨rfl, hw9⟩ := h9
              subst ws9
              dsimp only [mPush]
              refine r_aload_n hX dX2_arePairsSound_30 rfl rfl ?_
              refine r_get hX kf_X2_20 0 rfl rfl dX2_arePairsSound_31 ?_
              refine r_iload_n hX dX2_arePairsSound_34 rfl rfl ?_
              refine r_callS hX (c_X2_at_ok ad cs _ 3 _ 4 0 rfl (by decide) j5 hj5) ks_X2_84 rfl rfl (Nat.le_of_ble_eq_true rfl) ⟨(Nat.le_of_ble_eq_true rfl), (Nat.le_of_ble_eq_true rfl)⟩ ⟨(Nat.le_of_ble_eq_true rfl), (Nat.le_of_ble_eq_true rfl)⟩ dX2_arePairsSound_35 (fun _ _ z => False.elim z) (fun v9 ws9 h11 => ?_)
              obtain ⟨rfl, hw9⟩ := h11
              subst ws9
              dsimp only [mPush]
              refine r_callS hX (c_X2_isPairSound _ _ (j1 + 5) _ _ _ _ (mWd_loc (d := j1) (by omega)) (j5 + 5) _ _ _ _ (mWd_loc (d := j5) (by omega))) ks_X2_370 rfl rfl (Nat.le_of_ble_eq_true rfl) ⟨(Nat.le_of_ble_eq_true rfl), (Nat.le_of_ble_eq_true rfl)⟩ ⟨(Nat.le_of_ble_eq_true rfl), (Nat.le_of_ble_eq_true rfl)⟩ dX2_arePairsSound_38 (fun _ _ z => False.elim z) (fun v9 ws9 h13 => ?_)
              obtain ⟨r15, br15, rfl, hw9⟩ := h13
              subst ws9
              dsimp only [mPush]
              refine r_if_ne (tgt := 46) hX dX2_arePairsSound_41 (by decide) (fun c16 => ?_) (fun c16 => ?_)
              · refine r_iinc hX dX2_arePairsSound_46 rfl (by decide) rfl ?_
                refine r_goto (tgt := 13) hX dX2_arePairsSound_49 (by decide) ?_
                exact r_loc (k' := 0) (n' := 0) (by exact ⟨rfl, rfl, nI_inc' _, trivial⟩) (by decide) (by decide) (ih13 (j5 + 1) (by omega) (by omega) _ hK6)
              · refine r_iconst (v := 0) hX dX2_arePairsSound_44 (by decide) ?_
                exact r_zret hX hE dX2_arePairsSound_45 (mB_n (Or.inl rfl)) (Nat.le_of_ble_eq_true rfl) (Nat.le_of_ble_eq_true rfl) ⟨_, K6, (Or.inl rfl), hK6, rfl, rfl⟩
        exact r_loc (k' := 0) (n' := 0) (by exact ⟨rfl, rfl, rfl, trivial⟩) (by decide) (by decide) (L13 (4 + 1) 0 (by omega) (by omega) _ hK2)
  exact r_loc (k' := 0) (n' := 0) (by exact ⟨rfl, rfl, trivial⟩) (by decide) (by decide) (L2 (4 + 1) 0 (by omega) (by omega) _ rfl)
theorem dX2_areStrikesSound_0 : decode cX2_areStrikesSound 0 = .ok (.iconst 0, 1) := by decide +kernel
theorem dX2_areStrikesSound_1 : decode cX2_areStrikesSound 1 = .ok (.istore_n 1, 1) := by decide +kernel
theorem dX2_areStrikesSound_2 : decode cX2_areStrikesSound 2 = .ok (.iload_n 1, 1) := by decide +kernel
theorem dX2_areStrikesSound_3 : decode cX2_areStrikesSound 3 = .ok (.aload_n 0, 1) := by decide +kernel
theorem dX2_areStrikesSound_4 : decode cX2_areStrikesSound 4 = .ok (.getfield 20, 3) := by decide +kernel
theorem dX2_areStrikesSound_7 : decode cX2_areStrikesSound 7 = .ok (.arraylength, 1) := by decide +kernel
theorem dX2_areStrikesSound_8 : decode cX2_areStrikesSound 8 = .ok (.if_icmp .ge 84, 3) := by decide +kernel
theorem dX2_areStrikesSound_11 : decode cX2_areStrikesSound 11 = .ok (.aload_n 0, 1) := by decide +kernel
theorem dX2_areStrikesSound_12 : decode cX2_areStrikesSound 12 = .ok (.getfield 20, 3) := by decide +kernel
theorem dX2_areStrikesSound_15 : decode cX2_areStrikesSound 15 = .ok (.iload_n 1, 1) := by decide +kernel
theorem dX2_areStrikesSound_16 : decode cX2_areStrikesSound 16 = .ok (.invokestatic 84, 3) := by decide +kernel
theorem dX2_areStrikesSound_19 : decode cX2_areStrikesSound 19 = .ok (.astore_n 2, 1) := by decide +kernel
theorem dX2_areStrikesSound_20 : decode cX2_areStrikesSound 20 = .ok (.aload_n 0, 1) := by decide +kernel
theorem dX2_areStrikesSound_21 : decode cX2_areStrikesSound 21 = .ok (.getfield 31, 3) := by decide +kernel
theorem dX2_areStrikesSound_24 : decode cX2_areStrikesSound 24 = .ok (.aload_n 2, 1) := by decide +kernel
theorem dX2_areStrikesSound_25 : decode cX2_areStrikesSound 25 = .ok (.invokevirtual 320, 3) := by decide +kernel
theorem dX2_areStrikesSound_28 : decode cX2_areStrikesSound 28 = .ok (.i2l, 1) := by decide +kernel
theorem dX2_areStrikesSound_29 : decode cX2_areStrikesSound 29 = .ok (.aload_n 2, 1) := by decide +kernel
theorem dX2_areStrikesSound_30 : decode cX2_areStrikesSound 30 = .ok (.getfield 172, 3) := by decide +kernel
theorem dX2_areStrikesSound_33 : decode cX2_areStrikesSound 33 = .ok (.aload_n 2, 1) := by decide +kernel
theorem dX2_areStrikesSound_34 : decode cX2_areStrikesSound 34 = .ok (.getfield 158, 3) := by decide +kernel
theorem dX2_areStrikesSound_37 : decode cX2_areStrikesSound 37 = .ok (.invokevirtual 270, 3) := by decide +kernel
theorem dX2_areStrikesSound_40 : decode cX2_areStrikesSound 40 = .ok (.aload_n 0, 1) := by decide +kernel
theorem dX2_areStrikesSound_41 : decode cX2_areStrikesSound 41 = .ok (.getfield 27, 3) := by decide +kernel
theorem dX2_areStrikesSound_44 : decode cX2_areStrikesSound 44 = .ok (.aload_n 2, 1) := by decide +kernel
theorem dX2_areStrikesSound_45 : decode cX2_areStrikesSound 45 = .ok (.invokevirtual 190, 3) := by decide +kernel
theorem dX2_areStrikesSound_48 : decode cX2_areStrikesSound 48 = .ok (.aload_n 0, 1) := by decide +kernel
theorem dX2_areStrikesSound_49 : decode cX2_areStrikesSound 49 = .ok (.getfield 31, 3) := by decide +kernel
theorem dX2_areStrikesSound_52 : decode cX2_areStrikesSound 52 = .ok (.getfield 146, 3) := by decide +kernel
theorem dX2_areStrikesSound_55 : decode cX2_areStrikesSound 55 = .ok (.ladd, 1) := by decide +kernel
theorem dX2_areStrikesSound_56 : decode cX2_areStrikesSound 56 = .ok (.aload_n 0, 1) := by decide +kernel
theorem dX2_areStrikesSound_57 : decode cX2_areStrikesSound 57 = .ok (.getfield 31, 3) := by decide +kernel
theorem dX2_areStrikesSound_60 : decode cX2_areStrikesSound 60 = .ok (.getfield 172, 3) := by decide +kernel
theorem dX2_areStrikesSound_63 : decode cX2_areStrikesSound 63 = .ok (.aload_n 0, 1) := by decide +kernel
theorem dX2_areStrikesSound_64 : decode cX2_areStrikesSound 64 = .ok (.getfield 31, 3) := by decide +kernel
theorem dX2_areStrikesSound_67 : decode cX2_areStrikesSound 67 = .ok (.getfield 158, 3) := by decide +kernel
theorem dX2_areStrikesSound_70 : decode cX2_areStrikesSound 70 = .ok (.invokevirtual 270, 3) := by decide +kernel
theorem dX2_areStrikesSound_73 : decode cX2_areStrikesSound 73 = .ok (.aload_n 0, 1) := by decide +kernel
theorem dX2_areStrikesSound_74 : decode cX2_areStrikesSound 74 = .ok (.getfield 27, 3) := by decide +kernel
theorem dX2_areStrikesSound_77 : decode cX2_areStrikesSound 77 = .ok (.aload_n 2, 1) := by decide +kernel
theorem dX2_areStrikesSound_78 : decode cX2_areStrikesSound 78 = .ok (.invokevirtual 363, 3) := by decide +kernel
theorem dX2_areStrikesSound_81 : decode cX2_areStrikesSound 81 = .ok (.ifCond .ne 5, 3) := by decide +kernel
theorem dX2_areStrikesSound_84 : decode cX2_areStrikesSound 84 = .ok (.iconst 0, 1) := by decide +kernel
theorem dX2_areStrikesSound_85 : decode cX2_areStrikesSound 85 = .ok (.ireturn, 1) := by decide +kernel
theorem dX2_areStrikesSound_86 : decode cX2_areStrikesSound 86 = .ok (.iinc 1 1, 3) := by decide +kernel
theorem dX2_areStrikesSound_89 : decode cX2_areStrikesSound 89 = .ok (.goto (-87), 3) := by decide +kernel
theorem dX2_areStrikesSound_92 : decode cX2_areStrikesSound 92 = .ok (.iconst 1, 1) := by decide +kernel
theorem dX2_areStrikesSound_93 : decode cX2_areStrikesSound 93 = .ok (.ireturn, 1) := by decide +kernel
set_option maxHeartbeats 4000000 in
set_option maxRecDepth 20000 in
theorem c_X2_areStrikesSound (ad : Nat → Nat) (cs : ClassId × ClassId × ClassId) (K : mK) (rest : va_W) : mCt (mTy cs) yX2_areStrikesSound cX2_areStrikesSound 3 (some .boolean) ⟨3, 0, 0, 65⟩ [.ref (ad 0)] (mWd ad cs K rest) (mWb ad cs K rest) mNo := by
  refine mCt.of (by decide +kernel) (Nat.le_of_ble_eq_true rfl) (fun X hX hE => ?_)
  have hX : mOK X RX2 cX2_areStrikesSound 3 ⟨3, 0, 0, 65⟩ [] (mTy cs) := hX
  refine r_iconst (v := 0) hX dX2_areStrikesSound_0 (by decide) ?_
  refine r_istore_n hX dX2_areStrikesSound_1 rfl (by decide) rfl ?_
  have L2 : ∀ (N3 j1 : Nat), 4 - j1 < N3 → j1 ≤ 4 → ∀ K2 : mK, K2.1 = K.1 → mV X 2 [(0, some (.ref (ad 0))), (1, some (.int (nI j1)))] [] (mWd ad cs K2 rest) 0 0 := by
    intro N3
    induction N3 with
    | zero => intro j1; omega
    | succ N3 ih2 =>
      intro j1 hN2 hj1e K2 hK2
      refine r_iload_n hX dX2_areStrikesSound_2 rfl rfl ?_
      refine r_aload_n hX dX2_areStrikesSound_3 rfl rfl ?_
      refine r_get hX kf_X2_20 0 rfl rfl dX2_areStrikesSound_4 ?_
      refine r_alen (v := nI 4) hX 3 2 rfl rfl rfl dX2_areStrikesSound_7 ?_
      refine r_icmp_ge (tgt := 92) hX dX2_areStrikesSound_8 (by decide) (fun c4 => ?_) (fun c4 => ?_)
      · refine r_iconst (v := 1) hX dX2_areStrikesSound_92 (by decide) ?_
        exact r_zret hX hE dX2_areStrikesSound_93 (mB_n (Or.inr rfl)) (Nat.le_of_ble_eq_true rfl) (Nat.le_of_ble_eq_true rfl) ⟨_, K2, (Or.inr rfl), hK2, rfl, rfl⟩
      · have hj1 : j1 < 4 := mlt (by first | rfl | decide) (by decide) hj1e c4
        refine r_aload_n hX dX2_areStrikesSound_11 rfl rfl ?_
        refine r_get hX kf_X2_20 0 rfl rfl dX2_areStrikesSound_12 ?_
        refine r_iload_n hX dX2_areStrikesSound_15 rfl rfl ?_
        refine r_callS hX (c_X2_at_ok ad cs _ 3 _ 4 0 rfl (by decide) j1 hj1) ks_X2_84 rfl rfl (Nat.le_of_ble_eq_true rfl) ⟨(Nat.le_of_ble_eq_true rfl), (Nat.le_of_ble_eq_true rfl)⟩ ⟨(Nat.le_of_ble_eq_true rfl), (Nat.le_of_ble_eq_true rfl)⟩ dX2_areStrikesSound_16 (fun _ _ z => False.elim z) (fun v9 ws9 h5 => ?_)
        obtain ⟨rfl, hw9⟩ := h5
        subst ws9
        dsimp only [mPush]
        refine r_astore_n hX dX2_areStrikesSound_19 rfl (by decide) rfl ?_
        refine r_aload_n hX dX2_areStrikesSound_20 rfl rfl ?_
        refine r_get hX kf_X2_31 0 rfl rfl dX2_areStrikesSound_21 ?_
        refine r_aload_n hX dX2_areStrikesSound_24 rfl rfl ?_
        refine r_callV hX (c_X1_secondOfDay _ _ (j1 + 5) _ _ _ _ (mWd_loc (d := j1) (by omega))) kv_X2_320 (j1 + 5) (mWd_loc (d := j1) (by omega)) rfl rfl rfl (Nat.le_of_ble_eq_true rfl) ⟨(Nat.le_of_ble_eq_true rfl), (Nat.le_of_ble_eq_true rfl)⟩ ⟨(Nat.le_of_ble_eq_true rfl), (Nat.le_of_ble_eq_true rfl)⟩ dX2_areStrikesSound_25 (fun _ _ z => False.elim z) (fun v9 ws9 h7 => ?_)
        obtain ⟨r9, rfl, hw9⟩ := h7
        subst ws9
        dsimp only [mPush]
        refine r_i2l hX dX2_areStrikesSound_28 ?_
        refine r_aload_n hX dX2_areStrikesSound_29 rfl rfl ?_
        refine r_getN hX kg_X2_172 (j1 + 5) (mWd_loc (d := j1) (by omega)) rfl dX2_areStrikesSound_30 ?_
        refine r_aload_n hX dX2_areStrikesSound_33 rfl rfl ?_
        refine r_getN hX kg_X2_158 (j1 + 5) (mWd_loc (d := j1) (by omega)) rfl dX2_areStrikesSound_34 ?_
        refine r_callV hX (c_X1_tell _ _ 13 _ _ _ _ (mWd_loc (d := 8) (by decide)) _ _ _) kv_X2_270 13 (mWd_loc (d := 8) (by decide)) rfl rfl rfl (Nat.le_of_ble_eq_true rfl) ⟨(Nat.le_of_ble_eq_true rfl), (Nat.le_of_ble_eq_true rfl)⟩ ⟨(Nat.le_of_ble_eq_true rfl), (Nat.le_of_ble_eq_true rfl)⟩ dX2_areStrikesSound_37 (fun _ _ z => False.elim z) (fun v9 ws9 h10 => ?_)
        obtain ⟨rfl, hw9⟩ := h10
        subst ws9
        dsimp only [mPush]
        rw [mWd_set (d := 8) (by decide)]
        refine r_aload_n hX dX2_areStrikesSound_40 rfl rfl ?_
        refine r_get hX kf_X2_27 0 rfl rfl dX2_areStrikesSound_41 ?_
        refine r_aload_n hX dX2_areStrikesSound_44 rfl rfl ?_
        refine r_callV hX (c_X1_beginOfDay _ _ (j1 + 5) _ _ _ _ (mWd_loc (d := j1) (by omega))) kv_X2_190 (j1 + 5) (mWd_loc (d := j1) (by omega)) rfl rfl rfl (Nat.le_of_ble_eq_true rfl) ⟨(Nat.le_of_ble_eq_true rfl), (Nat.le_of_ble_eq_true rfl)⟩ ⟨(Nat.le_of_ble_eq_true rfl), (Nat.le_of_ble_eq_true rfl)⟩ dX2_areStrikesSound_45 (fun _ _ z => False.elim z) (fun v9 ws9 h12 => ?_)
        obtain ⟨r14, rfl, hw9⟩ := h12
        subst ws9
        dsimp only [mPush]
        refine r_aload_n hX dX2_areStrikesSound_48 rfl rfl ?_
        refine r_get hX kf_X2_31 0 rfl rfl dX2_areStrikesSound_49 ?_
        refine r_getN hX kg_X2_146 13 (mWd_loc (d := 8) (by decide)) rfl dX2_areStrikesSound_52 ?_
        refine r_ladd hX dX2_areStrikesSound_55 ?_
        refine r_aload_n hX dX2_areStrikesSound_56 rfl rfl ?_
        refine r_get hX kf_X2_31 0 rfl rfl dX2_areStrikesSound_57 ?_
        refine r_getN hX kg_X2_172 13 (mWd_loc (d := 8) (by decide)) rfl dX2_areStrikesSound_60 ?_
        refine r_aload_n hX dX2_areStrikesSound_63 rfl rfl ?_
        refine r_get hX kf_X2_31 0 rfl rfl dX2_areStrikesSound_64 ?_
        refine r_getN hX kg_X2_158 13 (mWd_loc (d := 8) (by decide)) rfl dX2_areStrikesSound_67 ?_
        refine r_callV hX (c_X1_tell _ _ 12 _ _ _ _ (mWd_loc (d := 7) (by decide)) _ _ _) kv_X2_270 12 (mWd_loc (d := 7) (by decide)) rfl rfl rfl (Nat.le_of_ble_eq_true rfl) ⟨(Nat.le_of_ble_eq_true rfl), (Nat.le_of_ble_eq_true rfl)⟩ ⟨(Nat.le_of_ble_eq_true rfl), (Nat.le_of_ble_eq_true rfl)⟩ dX2_areStrikesSound_70 (fun _ _ z => False.elim z) (fun v9 ws9 h15 => ?_)
        obtain ⟨rfl, hw9⟩ := h15
        subst ws9
        dsimp only [mPush]
        rw [mWd_set (d := 7) (by decide)]
        refine r_aload_n hX dX2_areStrikesSound_73 rfl rfl ?_
        refine r_get hX kf_X2_27 0 rfl rfl dX2_areStrikesSound_74 ?_
        refine r_aload_n hX dX2_areStrikesSound_77 rfl rfl ?_
        refine r_callV hX (c_X1_isSame _ _ 12 _ _ _ _ (mWd_loc (d := 7) (by decide)) (j1 + 5) _ _ _ _ (mWd_loc (d := j1) (by omega))) kv_X2_363 12 (mWd_loc (d := 7) (by decide)) rfl rfl rfl (Nat.le_of_ble_eq_true rfl) ⟨(Nat.le_of_ble_eq_true rfl), (Nat.le_of_ble_eq_true rfl)⟩ ⟨(Nat.le_of_ble_eq_true rfl), (Nat.le_of_ble_eq_true rfl)⟩ dX2_areStrikesSound_78 (fun _ _ z => False.elim z) (fun v9 ws9 h17 => ?_)
        obtain ⟨r19, br19, rfl, hw9⟩ := h17
        subst ws9
        dsimp only [mPush]
        refine r_if_ne (tgt := 86) hX dX2_areStrikesSound_81 (by decide) (fun c20 => ?_) (fun c20 => ?_)
        · refine r_iinc hX dX2_areStrikesSound_86 rfl (by decide) rfl ?_
          refine r_goto (tgt := 2) hX dX2_areStrikesSound_89 (by decide) ?_
          exact r_loc (k' := 0) (n' := 0) (by exact ⟨rfl, nI_inc' _, trivial⟩) (by decide) (by decide) (ih2 (j1 + 1) (by omega) (by omega) _ hK2)
        · refine r_iconst (v := 0) hX dX2_areStrikesSound_84 (by decide) ?_
          exact r_zret hX hE dX2_areStrikesSound_85 (mB_n (Or.inl rfl)) (Nat.le_of_ble_eq_true rfl) (Nat.le_of_ble_eq_true rfl) ⟨_, (mKL (mKL K2 8 _) 7 _), (Or.inl rfl), hK2, rfl, rfl⟩
  exact r_loc (k' := 0) (n' := 0) (by exact ⟨rfl, rfl, trivial⟩) (by decide) (by decide) (L2 (4 + 1) 0 (by omega) (by omega) _ rfl)
theorem dX2_isSound_0 : decode cX2_isSound 0 = .ok (.aload_n 0, 1) := by decide +kernel
theorem dX2_isSound_1 : decode cX2_isSound 1 = .ok (.invokevirtual 208, 3) := by decide +kernel
theorem dX2_isSound_4 : decode cX2_isSound 4 = .ok (.ifCond .eq 28, 3) := by decide +kernel
theorem dX2_isSound_7 : decode cX2_isSound 7 = .ok (.aload_n 0, 1) := by decide +kernel
theorem dX2_isSound_8 : decode cX2_isSound 8 = .ok (.invokevirtual 212, 3) := by decide +kernel
theorem dX2_isSound_11 : decode cX2_isSound 11 = .ok (.ifCond .eq 21, 3) := by decide +kernel
theorem dX2_isSound_14 : decode cX2_isSound 14 = .ok (.aload_n 0, 1) := by decide +kernel
theorem dX2_isSound_15 : decode cX2_isSound 15 = .ok (.invokevirtual 215, 3) := by decide +kernel
theorem dX2_isSound_18 : decode cX2_isSound 18 = .ok (.ifCond .eq 14, 3) := by decide +kernel
theorem dX2_isSound_21 : decode cX2_isSound 21 = .ok (.aload_n 0, 1) := by decide +kernel
theorem dX2_isSound_22 : decode cX2_isSound 22 = .ok (.invokevirtual 218, 3) := by decide +kernel
theorem dX2_isSound_25 : decode cX2_isSound 25 = .ok (.ifCond .eq 7, 3) := by decide +kernel
theorem dX2_isSound_28 : decode cX2_isSound 28 = .ok (.iconst 1, 1) := by decide +kernel
theorem dX2_isSound_29 : decode cX2_isSound 29 = .ok (.goto 4, 3) := by decide +kernel
theorem dX2_isSound_32 : decode cX2_isSound 32 = .ok (.iconst 0, 1) := by decide +kernel
theorem dX2_isSound_33 : decode cX2_isSound 33 = .ok (.ireturn, 1) := by decide +kernel
set_option maxHeartbeats 4000000 in
set_option maxRecDepth 20000 in
theorem c_X2_isSound (ad : Nat → Nat) (cs : ClassId × ClassId × ClassId) (K : mK) (rest : va_W) : mCt (mTy cs) yX2_isSound cX2_isSound 1 (some .boolean) ⟨5, 0, 0, 112⟩ [.ref (ad 0)] (mWd ad cs K rest) (mWb ad cs K rest) mNo := by
  refine mCt.of (by decide +kernel) (Nat.le_of_ble_eq_true rfl) (fun X hX hE => ?_)
  have hX : mOK X RX2 cX2_isSound 1 ⟨5, 0, 0, 112⟩ [] (mTy cs) := hX
  refine r_aload_n hX dX2_isSound_0 rfl rfl ?_
  refine r_callV hX (c_X2_areMomentsSound _ _ _ _) kv_X2_208 0 rfl rfl rfl rfl (Nat.le_of_ble_eq_true rfl) ⟨(Nat.le_of_ble_eq_true rfl), (Nat.le_of_ble_eq_true rfl)⟩ ⟨(Nat.le_of_ble_eq_true rfl), (Nat.le_of_ble_eq_true rfl)⟩ dX2_isSound_1 (fun _ _ z => False.elim z) (fun v9 ws9 h1 => ?_)
  obtain ⟨r3, K4, br3, hK4, rfl, hw9⟩ := h1
  subst ws9
  dsimp only [mPush]
  refine r_if_eq (tgt := 32) hX dX2_isSound_4 (by decide) (fun c5 => ?_) (fun c5 => ?_)
  · refine r_iconst (v := 0) hX dX2_isSound_32 (by decide) ?_
    exact r_zret hX hE dX2_isSound_33 (mB_n (Or.inl rfl)) (Nat.le_of_ble_eq_true rfl) (Nat.le_of_ble_eq_true rfl) ⟨_, K4, (Or.inl rfl), (hK4.trans rfl), rfl, rfl⟩
  · refine r_aload_n hX dX2_isSound_7 rfl rfl ?_
    refine r_callV hX (c_X2_areDatesToldAnewSound _ _ _ _) kv_X2_212 0 rfl rfl rfl rfl (Nat.le_of_ble_eq_true rfl) ⟨(Nat.le_of_ble_eq_true rfl), (Nat.le_of_ble_eq_true rfl)⟩ ⟨(Nat.le_of_ble_eq_true rfl), (Nat.le_of_ble_eq_true rfl)⟩ dX2_isSound_8 (fun _ _ z => False.elim z) (fun v9 ws9 h6 => ?_)
    obtain ⟨r8, K9, br8, hK9, rfl, hw9⟩ := h6
    subst ws9
    dsimp only [mPush]
    refine r_if_eq (tgt := 32) hX dX2_isSound_11 (by decide) (fun c10 => ?_) (fun c10 => ?_)
    · refine r_iconst (v := 0) hX dX2_isSound_32 (by decide) ?_
      exact r_zret hX hE dX2_isSound_33 (mB_n (Or.inl rfl)) (Nat.le_of_ble_eq_true rfl) (Nat.le_of_ble_eq_true rfl) ⟨_, K9, (Or.inl rfl), (hK9.trans (hK4.trans rfl)), rfl, rfl⟩
    · refine r_aload_n hX dX2_isSound_14 rfl rfl ?_
      refine r_callV hX (c_X2_arePairsSound _ _ _ _) kv_X2_215 0 rfl rfl rfl rfl (Nat.le_of_ble_eq_true rfl) ⟨(Nat.le_of_ble_eq_true rfl), (Nat.le_of_ble_eq_true rfl)⟩ ⟨(Nat.le_of_ble_eq_true rfl), (Nat.le_of_ble_eq_true rfl)⟩ dX2_isSound_15 (fun _ _ z => False.elim z) (fun v9 ws9 h11 => ?_)
      obtain ⟨r13, K14, br13, hK14, rfl, hw9⟩ := h11
      subst ws9
      dsimp only [mPush]
      refine r_if_eq (tgt := 32) hX dX2_isSound_18 (by decide) (fun c15 => ?_) (fun c15 => ?_)
      · refine r_iconst (v := 0) hX dX2_isSound_32 (by decide) ?_
        exact r_zret hX hE dX2_isSound_33 (mB_n (Or.inl rfl)) (Nat.le_of_ble_eq_true rfl) (Nat.le_of_ble_eq_true rfl) ⟨_, K14, (Or.inl rfl), (hK14.trans (hK9.trans (hK4.trans rfl))), rfl, rfl⟩
      · refine r_aload_n hX dX2_isSound_21 rfl rfl ?_
        refine r_callV hX (c_X2_areStrikesSound _ _ _ _) kv_X2_218 0 rfl rfl rfl rfl (Nat.le_of_ble_eq_true rfl) ⟨(Nat.le_of_ble_eq_true rfl), (Nat.le_of_ble_eq_true rfl)⟩ ⟨(Nat.le_of_ble_eq_true rfl), (Nat.le_of_ble_eq_true rfl)⟩ dX2_isSound_22 (fun _ _ z => False.elim z) (fun v9 ws9 h16 => ?_)
        obtain ⟨r18, K19, br18, hK19, rfl, hw9⟩ := h16
        subst ws9
        dsimp only [mPush]
        refine r_if_eq (tgt := 32) hX dX2_isSound_25 (by decide) (fun c20 => ?_) (fun c20 => ?_)
        · refine r_iconst (v := 0) hX dX2_isSound_32 (by decide) ?_
          exact r_zret hX hE dX2_isSound_33 (mB_n (Or.inl rfl)) (Nat.le_of_ble_eq_true rfl) (Nat.le_of_ble_eq_true rfl) ⟨_, K19, (Or.inl rfl), (hK19.trans (hK14.trans (hK9.trans (hK4.trans rfl)))), rfl, rfl⟩
        · refine r_iconst (v := 1) hX dX2_isSound_28 (by decide) ?_
          refine r_goto (tgt := 33) hX dX2_isSound_29 (by decide) ?_
          exact r_zret hX hE dX2_isSound_33 (mB_n (Or.inr rfl)) (Nat.le_of_ble_eq_true rfl) (Nat.le_of_ble_eq_true rfl) ⟨_, K19, (Or.inr rfl), (hK19.trans (hK14.trans (hK9.trans (hK4.trans rfl)))), rfl, rfl⟩
