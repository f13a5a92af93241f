/-! The reference, exact (rows by a program of this repository). -/
theorem zRw_th {ad ae : Nat → Nat} {cs : ClassId × ClassId × ClassId} {K : mK} {S : mS} {th t : Int32} {rest : va_W} : (mRw ad ae cs K (mJof S th) rest).set 14 (ae 0, .inr (5, [.int t, .int S.2.2.2.1, .int S.2.2.2.2, .ref (ae 1), .ref (ae 2), .ref (ae 3), .ref (ae 4), .ref (ae 5), .ref (ae 6)])) = mRw ad ae cs K (mJof S t) rest := rfl
set_option maxHeartbeats 4000000 in
set_option maxRecDepth 20000 in
theorem z_X4_digest (ad ae : Nat → Nat) (cs : ClassId × ClassId × ClassId) (K : mK) (S : mS) (th : Int32) (rest : va_W) (hS : sWF S)  : mCt (mTy cs) yX4_digest cX4_digest 8 (some .long) ⟨7, 70, 280, 164⟩ [.ref (ae 0)] (mRw ad ae cs K (mJof S th) rest) (fun v ws' => v = some (.long (lZ (zDig S))) ∧ ws' = mRw ad ae cs K (mJof S 0) rest) mNo := by
  refine mCt.of (by decide +kernel) (Nat.le_of_ble_eq_true rfl) (fun X hX hE => ?_)
  replace hX : mOK X RX4 cX4_digest 8 ⟨7, 70, 280, 164⟩ [] (mTy cs) := hX
  have hbD0 : ∀ w : Int, -2147483648 ≤ zDP (sse S 0) (sna S 0) (sow S 0) w ∧ zDP (sse S 0) (sna S 0) (sow S 0) w ≤ 2147483647 := by
    have hr := zrg hS (d := 0) (by decide)
    have hs := hS.2.2.2.1 0 (by decide)
    exact fun w => zDP_b (by omega) (by omega) (by omega)
  have hbD1 : ∀ w : Int, -2147483648 ≤ zDP (sse S 1) (sna S 1) (sow S 1) w ∧ zDP (sse S 1) (sna S 1) (sow S 1) w ≤ 2147483647 := by
    have hr := zrg hS (d := 1) (by decide)
    have hs := hS.2.2.2.1 1 (by decide)
    exact fun w => zDP_b (by omega) (by omega) (by omega)
  have hbD2 : ∀ w : Int, -2147483648 ≤ zDP (sse S 2) (sna S 2) (sow S 2) w ∧ zDP (sse S 2) (sna S 2) (sow S 2) w ≤ 2147483647 := by
    have hr := zrg hS (d := 2) (by decide)
    have hs := hS.2.2.2.1 2 (by decide)
    exact fun w => zDP_b (by omega) (by omega) (by omega)
  have hbD3 : ∀ w : Int, -2147483648 ≤ zDP (sse S 3) (sna S 3) (sow S 3) w ∧ zDP (sse S 3) (sna S 3) (sow S 3) w ≤ 2147483647 := by
    have hr := zrg hS (d := 3) (by decide)
    have hs := hS.2.2.2.1 3 (by decide)
    exact fun w => zDP_b (by omega) (by omega) (by omega)
  have hbC0 : ∀ w : Int, -2147483648 ≤ zCP (sse S (0 + 4)) (sna S (0 + 4)) (sow S (0 + 4)) w ∧ zCP (sse S (0 + 4)) (sna S (0 + 4)) (sow S (0 + 4)) w ≤ 2147483647 := by
    have hr := zrg hS (d := 0 + 4) (by decide)
    have hs := hS.2.2.2.2 (0 + 4) (by decide) (by decide)
    exact fun w => zCP_b (by omega) (by omega) (by omega)
  have hbC1 : ∀ w : Int, -2147483648 ≤ zCP (sse S (1 + 4)) (sna S (1 + 4)) (sow S (1 + 4)) w ∧ zCP (sse S (1 + 4)) (sna S (1 + 4)) (sow S (1 + 4)) w ≤ 2147483647 := by
    have hr := zrg hS (d := 1 + 4) (by decide)
    have hs := hS.2.2.2.2 (1 + 4) (by decide) (by decide)
    exact fun w => zCP_b (by omega) (by omega) (by omega)
  have hbC2 : ∀ w : Int, -2147483648 ≤ zCP (sse S (2 + 4)) (sna S (2 + 4)) (sow S (2 + 4)) w ∧ zCP (sse S (2 + 4)) (sna S (2 + 4)) (sow S (2 + 4)) w ≤ 2147483647 := by
    have hr := zrg hS (d := 2 + 4) (by decide)
    have hs := hS.2.2.2.2 (2 + 4) (by decide) (by decide)
    exact fun w => zCP_b (by omega) (by omega) (by omega)
  have hn0 := hS.2.1 0 (by decide)
  have hn1 := hS.2.1 1 (by decide)
  have hn2 := hS.2.1 2 (by decide)
  have hn3 := hS.2.1 3 (by decide)
  have ho0 := hS.1 0 (by decide)
  have ho1 := hS.1 1 (by decide)
  have ho2 := hS.1 2 (by decide)
  have ho3 := hS.1 3 (by decide)
  refine r_aload_n hX dX4_digest_0 rfl rfl ?_
  refine r_iconst (v := 0) hX dX4_digest_1 (by decide) ?_
  refine r_put hX kf_X4_29 14 rfl rfl rfl rfl (Nat.le_of_ble_eq_true rfl) dX4_digest_2 ?_
  refine r_eqw (zRw_th (t := 0)) ?_
  refine r_ldc2Z (z := 6199) hX kc_X4_225 (by decide) dX4_digest_5 ?_
  refine r_lstore_n hX dX4_digest_8 rfl (by decide) rfl ?_
  refine r_aload_n hX dX4_digest_9 rfl rfl ?_
  refine r_get hX kf_X4_7 14 rfl rfl dX4_digest_10 ?_
  refine r_astore_n hX dX4_digest_13 rfl (by decide) rfl ?_
  refine r_aload_n hX dX4_digest_14 rfl rfl ?_
  refine r_alen (v := iZ 4) hX 15 0 rfl rfl rfl dX4_digest_15 ?_
  refine r_istore hX dX4_digest_16 (by decide) rfl ?_
  refine r_iconstZ hX dX4_digest_18 ?_
  refine r_istore hX dX4_digest_19 (by decide) rfl ?_
  refine r_iload hX dX4_digest_21 rfl ?_
  refine r_iload hX dX4_digest_23 rfl ?_
  refine r_icmp_geZ (tgt := 50) hX dX4_digest_25 (by decide) (by decide) (by decide) (fun q => absurd q (by decide)) (fun _ => ?_)
  refine r_aload_n hX dX4_digest_28 rfl rfl ?_
  refine r_iload hX dX4_digest_29 rfl ?_
  refine r_ialdZ hX 15 0 rfl rfl 0 (by decide) (by decide) (by decide) dX4_digest_31 ?_
  refine r_istore hX dX4_digest_32 (by decide) rfl ?_
  refine r_lload_n hX dX4_digest_34 rfl rfl ?_
  refine r_ldc2Z (z := 31) hX kc_X4_227 (by decide) dX4_digest_35 ?_
  refine r_lmulZ hX dX4_digest_38 ?_
  refine r_iload hX dX4_digest_39 rfl ?_
  refine r_i2lZ hX dX4_digest_41 (by omega) ?_
  refine r_laddZ hX dX4_digest_42 ?_
  refine r_lstore_n hX dX4_digest_43 rfl (by decide) rfl ?_
  refine r_iincZ (z := 1) (y := 1) hX dX4_digest_44 rfl (by decide) rfl rfl ?_
  refine r_goto (tgt := 21) hX dX4_digest_47 (by decide) ?_
  refine r_iload hX dX4_digest_21 rfl ?_
  refine r_iload hX dX4_digest_23 rfl ?_
  refine r_icmp_geZ (tgt := 50) hX dX4_digest_25 (by decide) (by decide) (by decide) (fun q => absurd q (by decide)) (fun _ => ?_)
  refine r_aload_n hX dX4_digest_28 rfl rfl ?_
  refine r_iload hX dX4_digest_29 rfl ?_
  refine r_ialdZ hX 15 0 rfl rfl 1 (by decide) (by decide) (by decide) dX4_digest_31 ?_
  refine r_istore hX dX4_digest_32 (by decide) rfl ?_
  refine r_lload_n hX dX4_digest_34 rfl rfl ?_
  refine r_ldc2Z (z := 31) hX kc_X4_227 (by decide) dX4_digest_35 ?_
  refine r_lmulZ hX dX4_digest_38 ?_
  refine r_iload hX dX4_digest_39 rfl ?_
  refine r_i2lZ hX dX4_digest_41 (by omega) ?_
  refine r_laddZ hX dX4_digest_42 ?_
  refine r_lstore_n hX dX4_digest_43 rfl (by decide) rfl ?_
  refine r_iincZ (z := 1) (y := 2) hX dX4_digest_44 rfl (by decide) rfl rfl ?_
  refine r_goto (tgt := 21) hX dX4_digest_47 (by decide) ?_
  refine r_iload hX dX4_digest_21 rfl ?_
  refine r_iload hX dX4_digest_23 rfl ?_
  refine r_icmp_geZ (tgt := 50) hX dX4_digest_25 (by decide) (by decide) (by decide) (fun q => absurd q (by decide)) (fun _ => ?_)
  refine r_aload_n hX dX4_digest_28 rfl rfl ?_
  refine r_iload hX dX4_digest_29 rfl ?_
  refine r_ialdZ hX 15 0 rfl rfl 2 (by decide) (by decide) (by decide) dX4_digest_31 ?_
  refine r_istore hX dX4_digest_32 (by decide) rfl ?_
  refine r_lload_n hX dX4_digest_34 rfl rfl ?_
  refine r_ldc2Z (z := 31) hX kc_X4_227 (by decide) dX4_digest_35 ?_
  refine r_lmulZ hX dX4_digest_38 ?_
  refine r_iload hX dX4_digest_39 rfl ?_
  refine r_i2lZ hX dX4_digest_41 (by omega) ?_
  refine r_laddZ hX dX4_digest_42 ?_
  refine r_lstore_n hX dX4_digest_43 rfl (by decide) rfl ?_
  refine r_iincZ (z := 1) (y := 3) hX dX4_digest_44 rfl (by decide) rfl rfl ?_
  refine r_goto (tgt := 21) hX dX4_digest_47 (by decide) ?_
  refine r_iload hX dX4_digest_21 rfl ?_
  refine r_iload hX dX4_digest_23 rfl ?_
  refine r_icmp_geZ (tgt := 50) hX dX4_digest_25 (by decide) (by decide) (by decide) (fun q => absurd q (by decide)) (fun _ => ?_)
  refine r_aload_n hX dX4_digest_28 rfl rfl ?_
  refine r_iload hX dX4_digest_29 rfl ?_
  refine r_ialdZ hX 15 0 rfl rfl 3 (by decide) (by decide) (by decide) dX4_digest_31 ?_
  refine r_istore hX dX4_digest_32 (by decide) rfl ?_
  refine r_lload_n hX dX4_digest_34 rfl rfl ?_
  refine r_ldc2Z (z := 31) hX kc_X4_227 (by decide) dX4_digest_35 ?_
  refine r_lmulZ hX dX4_digest_38 ?_
  refine r_iload hX dX4_digest_39 rfl ?_
  refine r_i2lZ hX dX4_digest_41 (by omega) ?_
  refine r_laddZ hX dX4_digest_42 ?_
  refine r_lstore_n hX dX4_digest_43 rfl (by decide) rfl ?_
  refine r_iincZ (z := 1) (y := 4) hX dX4_digest_44 rfl (by decide) rfl rfl ?_
  refine r_goto (tgt := 21) hX dX4_digest_47 (by decide) ?_
  refine r_iload hX dX4_digest_21 rfl ?_
  refine r_iload hX dX4_digest_23 rfl ?_
  refine r_icmp_geZ (tgt := 50) hX dX4_digest_25 (by decide) (by decide) (by decide) (fun _ => ?_) (fun q => absurd (by decide) q)
  refine r_aload_n hX dX4_digest_50 rfl rfl ?_
  refine r_get hX kf_X4_13 14 rfl rfl dX4_digest_51 ?_
  refine r_astore_n hX dX4_digest_54 rfl (by decide) rfl ?_
  refine r_aload_n hX dX4_digest_55 rfl rfl ?_
  refine r_alen (v := iZ 4) hX 16 1 rfl rfl rfl dX4_digest_56 ?_
  refine r_istore hX dX4_digest_57 (by decide) rfl ?_
  refine r_iconstZ hX dX4_digest_59 ?_
  refine r_istore hX dX4_digest_60 (by decide) rfl ?_
  refine r_iload hX dX4_digest_62 rfl ?_
  refine r_iload hX dX4_digest_64 rfl ?_
  refine r_icmp_geZ (tgt := 110) hX dX4_digest_66 (by decide) (by decide) (by decide) (fun q => absurd q (by decide)) (fun _ => ?_)
  refine r_aload_n hX dX4_digest_69 rfl rfl ?_
  refine r_iload hX dX4_digest_70 rfl ?_
  refine r_laldZ hX 16 1 rfl rfl 0 (by decide) (by decide) (by decide) dX4_digest_72 ?_
  refine r_lstore hX dX4_digest_73 (by decide) rfl ?_
  refine r_lload_n hX dX4_digest_75 rfl rfl ?_
  refine r_ldc2Z (z := 31) hX kc_X4_227 (by decide) dX4_digest_76 ?_
  refine r_lmulZ hX dX4_digest_79 ?_
  refine r_lload hX dX4_digest_80 rfl ?_
  refine r_ldc2Z (z := 1000000000) hX kc_X4_96 (by decide) dX4_digest_82 ?_
  refine r_callS hX (c_X4_whole_x _ _ _ _ (by omega) (by omega) (by omega) (by omega)) ks_X4_92 rfl rfl (Nat.le_of_ble_eq_true rfl) ⟨(Nat.le_of_ble_eq_true rfl), (Nat.le_of_ble_eq_true rfl)⟩ ⟨(Nat.le_of_ble_eq_true rfl), (Nat.le_of_ble_eq_true rfl)⟩ dX4_digest_85 (fun _ _ z => False.elim z) (fun v9 ws9 h1 => ?_)
  obtain ⟨rfl, hw9⟩ := h1
  subst ws9
  dsimp only [mPush]
  refine r_laddZ hX dX4_digest_88 ?_
  refine r_ldc2Z (z := 31) hX kc_X4_227 (by decide) dX4_digest_89 ?_
  refine r_lmulZ hX dX4_digest_92 ?_
  refine r_lload hX dX4_digest_93 rfl ?_
  refine r_ldc2Z (z := 1000000000) hX kc_X4_96 (by decide) dX4_digest_95 ?_
  refine r_callS hX (c_X4_rest_x _ _ _ _ (by omega) (by omega) (by omega) (by omega)) ks_X4_102 rfl rfl (Nat.le_of_ble_eq_true rfl) ⟨(Nat.le_of_ble_eq_true rfl), (Nat.le_of_ble_eq_true rfl)⟩ ⟨(Nat.le_of_ble_eq_true rfl), (Nat.le_of_ble_eq_true rfl)⟩ dX4_digest_98 (fun _ _ z => False.elim z) (fun v9 ws9 h2 => ?_)
  obtain ⟨rfl, hw9⟩ := h2
  subst ws9
  dsimp only [mPush]
  refine r_i2lZ hX dX4_digest_101 (by omega) ?_
  refine r_laddZ hX dX4_digest_102 ?_
  refine r_lstore_n hX dX4_digest_103 rfl (by decide) rfl ?_
  refine r_iincZ (z := 1) (y := 1) hX dX4_digest_104 rfl (by decide) rfl rfl ?_
  refine r_goto (tgt := 62) hX dX4_digest_107 (by decide) ?_
  refine r_iload hX dX4_digest_62 rfl ?_
  refine r_iload hX dX4_digest_64 rfl ?_
  refine r_icmp_geZ (tgt := 110) hX dX4_digest_66 (by decide) (by decide) (by decide) (fun q => absurd q (by decide)) (fun _ => ?_)
  refine r_aload_n hX dX4_digest_69 rfl rfl ?_
  refine r_iload hX dX4_digest_70 rfl ?_
  refine r_laldZ hX 16 1 rfl rfl 1 (by decide) (by decide) (by decide) dX4_digest_72 ?_
  refine r_lstore hX dX4_digest_73 (by decide) rfl ?_
  refine r_lload_n hX dX4_digest_75 rfl rfl ?_
  refine r_ldc2Z (z := 31) hX kc_X4_227 (by decide) dX4_digest_76 ?_
  refine r_lmulZ hX dX4_digest_79 ?_
  refine r_lload hX dX4_digest_80 rfl ?_
  refine r_ldc2Z (z := 1000000000) hX kc_X4_96 (by decide) dX4_digest_82 ?_
  refine r_callS hX (c_X4_whole_x _ _ _ _ (by omega) (by omega) (by omega) (by omega)) ks_X4_92 rfl rfl (Nat.le_of_ble_eq_true rfl) ⟨(Nat.le_of_ble_eq_true rfl), (Nat.le_of_ble_eq_true rfl)⟩ ⟨(Nat.le_of_ble_eq_true rfl), (Nat.le_of_ble_eq_true rfl)⟩ dX4_digest_85 (fun _ _ z => False.elim z) (fun v9 ws9 h3 => ?_)
  obtain ⟨rfl, hw9⟩ := h3
  subst ws9
  dsimp only [mPush]
  refine r_laddZ hX dX4_digest_88 ?_
  refine r_ldc2Z (z := 31) hX kc_X4_227 (by decide) dX4_digest_89 ?_
  refine r_lmulZ hX dX4_digest_92 ?_
  refine r_lload hX dX4_digest_93 rfl ?_
  refine r_ldc2Z (z := 1000000000) hX kc_X4_96 (by decide) dX4_digest_95 ?_
  refine r_callS hX (c_X4_rest_x _ _ _ _ (by omega) (by omega) (by omega) (by omega)) ks_X4_102 rfl rfl (Nat.le_of_ble_eq_true rfl) ⟨(Nat.le_of_ble_eq_true rfl), (Nat.le_of_ble_eq_true rfl)⟩ ⟨(Nat.le_of_ble_eq_true rfl), (Nat.le_of_ble_eq_true rfl)⟩ dX4_digest_98 (fun _ _ z => False.elim z) (fun v9 ws9 h4 => ?_)
  obtain ⟨rfl, hw9⟩ := h4
  subst ws9
  dsimp only [mPush]
  refine r_i2lZ hX dX4_digest_101 (by omega) ?_
  refine r_laddZ hX dX4_digest_102 ?_
  refine r_lstore_n hX dX4_digest_103 rfl (by decide) rfl ?_
  refine r_iincZ (z := 1) (y := 2) hX dX4_digest_104 rfl (by decide) rfl rfl ?_
  refine r_goto (tgt := 62) hX dX4_digest_107 (by decide) ?_
  refine r_iload hX dX4_digest_62 rfl ?_
  refine r_iload hX dX4_digest_64 rfl ?_
  refine r_icmp_geZ (tgt := 110) hX dX4_digest_66 (by decide) (by decide) (by decide) (fun q => absurd q (by decide)) (fun _ => ?_)
  refine r_aload_n hX dX4_digest_69 rfl rfl ?_
  refine r_iload hX dX4_digest_70 rfl ?_
  refine r_laldZ hX 16 1 rfl rfl 2 (by decide) (by decide) (by decide) dX4_digest_72 ?_
  refine r_lstore hX dX4_digest_73 (by decide) rfl ?_
  refine r_lload_n hX dX4_digest_75 rfl rfl ?_
  refine r_ldc2Z (z := 31) hX kc_X4_227 (by decide) dX4_digest_76 ?_
  refine r_lmulZ hX dX4_digest_79 ?_
  refine r_lload hX dX4_digest_80 rfl ?_
  refine r_ldc2Z (z := 1000000000) hX kc_X4_96 (by decide) dX4_digest_82 ?_
  refine r_callS hX (c_X4_whole_x _ _ _ _ (by omega) (by omega) (by omega) (by omega)) ks_X4_92 rfl rfl (Nat.le_of_ble_eq_true rfl) ⟨(Nat.le_of_ble_eq_true rfl), (Nat.le_of_ble_eq_true rfl)⟩ ⟨(Nat.le_of_ble_eq_true rfl), (Nat.le_of_ble_eq_true rfl)⟩ dX4_digest_85 (fun _ _ z => False.elim z) (fun v9 ws9 h5 => ?_)
  obtain ⟨rfl, hw9⟩ := h5
  subst ws9
  dsimp only [mPush]
  refine r_laddZ hX dX4_digest_88 ?_
  refine r_ldc2Z (z := 31) hX kc_X4_227 (by decide) dX4_digest_89 ?_
  refine r_lmulZ hX dX4_digest_92 ?_
  refine r_lload hX dX4_digest_93 rfl ?_
  refine r_ldc2Z (z := 1000000000) hX kc_X4_96 (by decide) dX4_digest_95 ?_
  refine r_callS hX (c_X4_rest_x _ _ _ _ (by omega) (by omega) (by omega) (by omega)) ks_X4_102 rfl rfl (Nat.le_of_ble_eq_true rfl) ⟨(Nat.le_of_ble_eq_true rfl), (Nat.le_of_ble_eq_true rfl)⟩ ⟨(Nat.le_of_ble_eq_true rfl), (Nat.le_of_ble_eq_true rfl)⟩ dX4_digest_98 (fun _ _ z => False.elim z) (fun v9 ws9 h6 => ?_)
  obtain ⟨rfl, hw9⟩ := h6
  subst ws9
  dsimp only [mPush]
  refine r_i2lZ hX dX4_digest_101 (by omega) ?_
  refine r_laddZ hX dX4_digest_102 ?_
  refine r_lstore_n hX dX4_digest_103 rfl (by decide) rfl ?_
  refine r_iincZ (z := 1) (y := 3) hX dX4_digest_104 rfl (by decide) rfl rfl ?_
  refine r_goto (tgt := 62) hX dX4_digest_107 (by decide) ?_
  refine r_iload hX dX4_digest_62 rfl ?_
  refine r_iload hX dX4_digest_64 rfl ?_
  refine r_icmp_geZ (tgt := 110) hX dX4_digest_66 (by decide) (by decide) (by decide) (fun q => absurd q (by decide)) (fun _ => ?_)
  refine r_aload_n hX dX4_digest_69 rfl rfl ?_
  refine r_iload hX dX4_digest_70 rfl ?_
  refine r_laldZ hX 16 1 rfl rfl 3 (by decide) (by decide) (by decide) dX4_digest_72 ?_
  refine r_lstore hX dX4_digest_73 (by decide) rfl ?_
  refine r_lload_n hX dX4_digest_75 rfl rfl ?_
  refine r_ldc2Z (z := 31) hX kc_X4_227 (by decide) dX4_digest_76 ?_
  refine r_lmulZ hX dX4_digest_79 ?_
  refine r_lload hX dX4_digest_80 rfl ?_
  refine r_ldc2Z (z := 1000000000) hX kc_X4_96 (by decide) dX4_digest_82 ?_
  refine r_callS hX (c_X4_whole_x _ _ _ _ (by omega) (by omega) (by omega) (by omega)) ks_X4_92 rfl rfl (Nat.le_of_ble_eq_true rfl) ⟨(Nat.le_of_ble_eq_true rfl), (Nat.le_of_ble_eq_true rfl)⟩ ⟨(Nat.le_of_ble_eq_true rfl), (Nat.le_of_ble_eq_true rfl)⟩ dX4_digest_85 (fun _ _ z => False.elim z) (fun v9 ws9 h7 => ?_)
  obtain ⟨rfl, hw9⟩ := h7
  subst ws9
  dsimp only [mPush]
  refine r_laddZ hX dX4_digest_88 ?_
  refine r_ldc2Z (z := 31) hX kc_X4_227 (by decide) dX4_digest_89 ?_
  refine r_lmulZ hX dX4_digest_92 ?_
  refine r_lload hX dX4_digest_93 rfl ?_
  refine r_ldc2Z (z := 1000000000) hX kc_X4_96 (by decide) dX4_digest_95 ?_
  refine r_callS hX (c_X4_rest_x _ _ _ _ (by omega) (by omega) (by omega) (by omega)) ks_X4_102 rfl rfl (Nat.le_of_ble_eq_true rfl) ⟨(Nat.le_of_ble_eq_true rfl), (Nat.le_of_ble_eq_true rfl)⟩ ⟨(Nat.le_of_ble_eq_true rfl), (Nat.le_of_ble_eq_true rfl)⟩ dX4_digest_98 (fun _ _ z => False.elim z) (fun v9 ws9 h8 => ?_)
  obtain ⟨rfl, hw9⟩ := h8
  subst ws9
  dsimp only [mPush]
  refine r_i2lZ hX dX4_digest_101 (by omega) ?_
  refine r_laddZ hX dX4_digest_102 ?_
  refine r_lstore_n hX dX4_digest_103 rfl (by decide) rfl ?_
  refine r_iincZ (z := 1) (y := 4) hX dX4_digest_104 rfl (by decide) rfl rfl ?_
  refine r_goto (tgt := 62) hX dX4_digest_107 (by decide) ?_
  refine r_iload hX dX4_digest_62 rfl ?_
  refine r_iload hX dX4_digest_64 rfl ?_
  refine r_icmp_geZ (tgt := 110) hX dX4_digest_66 (by decide) (by decide) (by decide) (fun _ => ?_) (fun q => absurd (by decide) q)
  refine r_iconstZ hX dX4_digest_110 ?_
  refine r_istore_n hX dX4_digest_111 rfl (by decide) rfl ?_
  refine r_iload_n hX dX4_digest_112 rfl rfl ?_
  refine r_iconstZ hX dX4_digest_113 ?_
  refine r_icmp_geZ (tgt := 154) hX dX4_digest_114 (by decide) (by decide) (by decide) (fun q => absurd q (by decide)) (fun _ => ?_)
  refine r_iconstZ hX dX4_digest_117 ?_
  refine r_istore hX dX4_digest_118 (by decide) rfl ?_
  refine r_iload hX dX4_digest_120 rfl ?_
  refine r_bipushZ hX dX4_digest_122 (by decide) ?_
  refine r_icmp_gtZ (tgt := 148) hX dX4_digest_124 (by decide) (by decide) (by decide) (fun q => absurd q (by decide)) (fun _ => ?_)
  refine r_lload_n hX dX4_digest_127 rfl rfl ?_
  refine r_ldc2Z (z := 31) hX kc_X4_227 (by decide) dX4_digest_128 ?_
  refine r_lmulZ hX dX4_digest_131 ?_
  refine r_aload_n hX dX4_digest_132 rfl rfl ?_
  refine r_iload_n hX dX4_digest_133 rfl rfl ?_
  refine r_iload hX dX4_digest_134 rfl ?_
  refine r_callV hX (z_X4_told ad ae cs K S 0 rest hS _ 0 (by omega) (by omega) _ (by omega)) kv_X4_193 14 rfl rfl rfl rfl (Nat.le_of_ble_eq_true rfl) ⟨(Nat.le_of_ble_eq_true rfl), (Nat.le_of_ble_eq_true rfl)⟩ ⟨(Nat.le_of_ble_eq_true rfl), (Nat.le_of_ble_eq_true rfl)⟩ dX4_digest_136 (fun _ _ z => False.elim z) (fun v9 ws9 h9 => ?_)
  obtain ⟨rfl, hw9⟩ := h9
  subst ws9
  dsimp only [mPush]
  refine r_i2lZ hX dX4_digest_139 (hbD0 _) ?_
  refine r_laddZ hX dX4_digest_140 ?_
  refine r_lstore_n hX dX4_digest_141 rfl (by decide) rfl ?_
  refine r_iincZ (z := 1) (y := 1) hX dX4_digest_142 rfl (by decide) rfl rfl ?_
  refine r_goto (tgt := 120) hX dX4_digest_145 (by decide) ?_
  refine r_iload hX dX4_digest_120 rfl ?_
  refine r_bipushZ hX dX4_digest_122 (by decide) ?_
  refine r_icmp_gtZ (tgt := 148) hX dX4_digest_124 (by decide) (by decide) (by decide) (fun q => absurd q (by decide)) (fun _ => ?_)
  refine r_lload_n hX dX4_digest_127 rfl rfl ?_
  refine r_ldc2Z (z := 31) hX kc_X4_227 (by decide) dX4_digest_128 ?_
  refine r_lmulZ hX dX4_digest_131 ?_
  refine r_aload_n hX dX4_digest_132 rfl rfl ?_
  refine r_iload_n hX dX4_digest_133 rfl rfl ?_
  refine r_iload hX dX4_digest_134 rfl ?_
  refine r_callV hX (z_X4_told ad ae cs K S 0 rest hS _ 0 (by omega) (by omega) _ (by omega)) kv_X4_193 14 rfl rfl rfl rfl (Nat.le_of_ble_eq_true rfl) ⟨(Nat.le_of_ble_eq_true rfl), (Nat.le_of_ble_eq_true rfl)⟩ ⟨(Nat.le_of_ble_eq_true rfl), (Nat.le_of_ble_eq_true rfl)⟩ dX4_digest_136 (fun _ _ z => False.elim z) (fun v9 ws9 h10 => ?_)
  obtain ⟨rfl, hw9⟩ := h10
  subst ws9
  dsimp only [mPush]
  refine r_i2lZ hX dX4_digest_139 (hbD0 _) ?_
  refine r_laddZ hX dX4_digest_140 ?_
  refine r_lstore_n hX dX4_digest_141 rfl (by decide) rfl ?_
  refine r_iincZ (z := 1) (y := 2) hX dX4_digest_142 rfl (by decide) rfl rfl ?_
  refine r_goto (tgt := 120) hX dX4_digest_145 (by decide) ?_
  refine r_iload hX dX4_digest_120 rfl ?_
  refine r_bipushZ hX dX4_digest_122 (by decide) ?_
  refine r_icmp_gtZ (tgt := 148) hX dX4_digest_124 (by decide) (by decide) (by decide) (fun q => absurd q (by decide)) (fun _ => ?_)
  refine r_lload_n hX dX4_digest_127 rfl rfl ?_
  refine r_ldc2Z (z := 31) hX kc_X4_227 (by decide) dX4_digest_128 ?_
  refine r_lmulZ hX dX4_digest_131 ?_
  refine r_aload_n hX dX4_digest_132 rfl rfl ?_
  refine r_iload_n hX dX4_digest_133 rfl rfl ?_
  refine r_iload hX dX4_digest_134 rfl ?_
  refine r_callV hX (z_X4_told ad ae cs K S 0 rest hS _ 0 (by omega) (by omega) _ (by omega)) kv_X4_193 14 rfl rfl rfl rfl (Nat.le_of_ble_eq_true rfl) ⟨(Nat.le_of_ble_eq_true rfl), (Nat.le_of_ble_eq_true rfl)⟩ ⟨(Nat.le_of_ble_eq_true rfl), (Nat.le_of_ble_eq_true rfl)⟩ dX4_digest_136 (fun _ _ z => False.elim z) (fun v9 ws9 h11 => ?_)
  obtain ⟨rfl, hw9⟩ := h11
  subst ws9
  dsimp only [mPush]
  refine r_i2lZ hX dX4_digest_139 (hbD0 _) ?_
  refine r_laddZ hX dX4_digest_140 ?_
  refine r_lstore_n hX dX4_digest_141 rfl (by decide) rfl ?_
  refine r_iincZ (z := 1) (y := 3) hX dX4_digest_142 rfl (by decide) rfl rfl ?_
  refine r_goto (tgt := 120) hX dX4_digest_145 (by decide) ?_
  refine r_iload hX dX4_digest_120 rfl ?_
  refine r_bipushZ hX dX4_digest_122 (by decide) ?_
  refine r_icmp_gtZ (tgt := 148) hX dX4_digest_124 (by decide) (by decide) (by decide) (fun q => absurd q (by decide)) (fun _ => ?_)
  refine r_lload_n hX dX4_digest_127 rfl rfl ?_
  refine r_ldc2Z (z := 31) hX kc_X4_227 (by decide) dX4_digest_128 ?_
  refine r_lmulZ hX dX4_digest_131 ?_
  refine r_aload_n hX dX4_digest_132 rfl rfl ?_
  refine r_iload_n hX dX4_digest_133 rfl rfl ?_
  refine r_iload hX dX4_digest_134 rfl ?_
  refine r_callV hX (z_X4_told ad ae cs K S 0 rest hS _ 0 (by omega) (by omega) _ (by omega)) kv_X4_193 14 rfl rfl rfl rfl (Nat.le_of_ble_eq_true rfl) ⟨(Nat.le_of_ble_eq_true rfl), (Nat.le_of_ble_eq_true rfl)⟩ ⟨(Nat.le_of_ble_eq_true rfl), (Nat.le_of_ble_eq_true rfl)⟩ dX4_digest_136 (fun _ _ z => False.elim z) (fun v9 ws9 h12 => ?_)
  obtain ⟨rfl, hw9⟩ := h12
  subst ws9
  dsimp only [mPush]
  refine r_i2lZ hX dX4_digest_139 (hbD0 _) ?_
  refine r_laddZ hX dX4_digest_140 ?_
  refine r_lstore_n hX dX4_digest_141 rfl (by decide) rfl ?_
  refine r_iincZ (z := 1) (y := 4) hX dX4_digest_142 rfl (by decide) rfl rfl ?_
  refine r_goto (tgt := 120) hX dX4_digest_145 (by decide) ?_
  refine r_iload hX dX4_digest_120 rfl ?_
  refine r_bipushZ hX dX4_digest_122 (by decide) ?_
  refine r_icmp_gtZ (tgt := 148) hX dX4_digest_124 (by decide) (by decide) (by decide) (fun q => absurd q (by decide)) (fun _ => ?_)
  refine r_lload_n hX dX4_digest_127 rfl rfl ?_
  refine r_ldc2Z (z := 31) hX kc_X4_227 (by decide) dX4_digest_128 ?_
  refine r_lmulZ hX dX4_digest_131 ?_
  refine r_aload_n hX dX4_digest_132 rfl rfl ?_
  refine r_iload_n hX dX4_digest_133 rfl rfl ?_
  refine r_iload hX dX4_digest_134 rfl ?_
  refine r_callV hX (z_X4_told ad ae cs K S 0 rest hS _ 0 (by omega) (by omega) _ (by omega)) kv_X4_193 14 rfl rfl rfl rfl (Nat.le_of_ble_eq_true rfl) ⟨(Nat.le_of_ble_eq_true rfl), (Nat.le_of_ble_eq_true rfl)⟩ ⟨(Nat.le_of_ble_eq_true rfl), (Nat.le_of_ble_eq_true rfl)⟩ dX4_digest_136 (fun _ _ z => False.elim z) (fun v9 ws9 h13 => ?_)
  obtain ⟨rfl, hw9⟩ := h13
  subst ws9
  dsimp only [mPush]
  refine r_i2lZ hX dX4_digest_139 (hbD0 _) ?_
  refine r_laddZ hX dX4_digest_140 ?_
  refine r_lstore_n hX dX4_digest_141 rfl (by decide) rfl ?_
  refine r_iincZ (z := 1) (y := 5) hX dX4_digest_142 rfl (by decide) rfl rfl ?_
  refine r_goto (tgt := 120) hX dX4_digest_145 (by decide) ?_
  refine r_iload hX dX4_digest_120 rfl ?_
  refine r_bipushZ hX dX4_digest_122 (by decide) ?_
  refine r_icmp_gtZ (tgt := 148) hX dX4_digest_124 (by decide) (by decide) (by decide) (fun q => absurd q (by decide)) (fun _ => ?_)
  refine r_lload_n hX dX4_digest_127 rfl rfl ?_
  refine r_ldc2Z (z := 31) hX kc_X4_227 (by decide) dX4_digest_128 ?_
  refine r_lmulZ hX dX4_digest_131 ?_
  refine r_aload_n hX dX4_digest_132 rfl rfl ?_
  refine r_iload_n hX dX4_digest_133 rfl rfl ?_
  refine r_iload hX dX4_digest_134 rfl ?_
  refine r_callV hX (z_X4_told ad ae cs K S 0 rest hS _ 0 (by omega) (by omega) _ (by omega)) kv_X4_193 14 rfl rfl rfl rfl (Nat.le_of_ble_eq_true rfl) ⟨(Nat.le_of_ble_eq_true rfl), (Nat.le_of_ble_eq_true rfl)⟩ ⟨(Nat.le_of_ble_eq_true rfl), (Nat.le_of_ble_eq_true rfl)⟩ dX4_digest_136 (fun _ _ z => False.elim z) (fun v9 ws9 h14 => ?_)
  obtain ⟨rfl, hw9⟩ := h14
  subst ws9
  dsimp only [mPush]
  refine r_i2lZ hX dX4_digest_139 (hbD0 _) ?_
  refine r_laddZ hX dX4_digest_140 ?_
  refine r_lstore_n hX dX4_digest_141 rfl (by decide) rfl ?_
  refine r_iincZ (z := 1) (y := 6) hX dX4_digest_142 rfl (by decide) rfl rfl ?_
  refine r_goto (tgt := 120) hX dX4_digest_145 (by decide) ?_
  refine r_iload hX dX4_digest_120 rfl ?_
  refine r_bipushZ hX dX4_digest_122 (by decide) ?_
  refine r_icmp_gtZ (tgt := 148) hX dX4_digest_124 (by decide) (by decide) (by decide) (fun q => absurd q (by decide)) (fun _ => ?_)
  refine r_lload_n hX dX4_digest_127 rfl rfl ?_
  refine r_ldc2Z (z := 31) hX kc_X4_227 (by decide) dX4_digest_128 ?_
  refine r_lmulZ hX dX4_digest_131 ?_
  refine r_aload_n hX dX4_digest_132 rfl rfl ?_
  refine r_iload_n hX dX4_digest_133 rfl rfl ?_
  refine r_iload hX dX4_digest_134 rfl ?_
  refine r_callV hX (z_X4_told ad ae cs K S 0 rest hS _ 0 (by omega) (by omega) _ (by omega)) kv_X4_193 14 rfl rfl rfl rfl (Nat.le_of_ble_eq_true rfl) ⟨(Nat.le_of_ble_eq_true rfl), (Nat.le_of_ble_eq_true rfl)⟩ ⟨(Nat.le_of_ble_eq_true rfl), (Nat.le_of_ble_eq_true rfl)⟩ dX4_digest_136 (fun _ _ z => False.elim z) (fun v9 ws9 h15 => ?_)
  obtain ⟨rfl, hw9⟩ := h15
  subst ws9
  dsimp only [mPush]
  refine r_i2lZ hX dX4_digest_139 (hbD0 _) ?_
  refine r_laddZ hX dX4_digest_140 ?_
  refine r_lstore_n hX dX4_digest_141 rfl (by decide) rfl ?_
  refine r_iincZ (z := 1) (y := 7) hX dX4_digest_142 rfl (by decide) rfl rfl ?_
  refine r_goto (tgt := 120) hX dX4_digest_145 (by decide) ?_
  refine r_iload hX dX4_digest_120 rfl ?_
  refine r_bipushZ hX dX4_digest_122 (by decide) ?_
  refine r_icmp_gtZ (tgt := 148) hX dX4_digest_124 (by decide) (by decide) (by decide) (fun q => absurd q (by decide)) (fun _ => ?_)
  refine r_lload_n hX dX4_digest_127 rfl rfl ?_
  refine r_ldc2Z (z := 31) hX kc_X4_227 (by decide) dX4_digest_128 ?_
  refine r_lmulZ hX dX4_digest_131 ?_
  refine r_aload_n hX dX4_digest_132 rfl rfl ?_
  refine r_iload_n hX dX4_digest_133 rfl rfl ?_
  refine r_iload hX dX4_digest_134 rfl ?_
  refine r_callV hX (z_X4_told ad ae cs K S 0 rest hS _ 0 (by omega) (by omega) _ (by omega)) kv_X4_193 14 rfl rfl rfl rfl (Nat.le_of_ble_eq_true rfl) ⟨(Nat.le_of_ble_eq_true rfl), (Nat.le_of_ble_eq_true rfl)⟩ ⟨(Nat.le_of_ble_eq_true rfl), (Nat.le_of_ble_eq_true rfl)⟩ dX4_digest_136 (fun _ _ z => False.elim z) (fun v9 ws9 h16 => ?_)
  obtain ⟨rfl, hw9⟩ := h16
  subst ws9
  dsimp only [mPush]
  refine r_i2lZ hX dX4_digest_139 (hbD0 _) ?_
  refine r_laddZ hX dX4_digest_140 ?_
  refine r_lstore_n hX dX4_digest_141 rfl (by decide) rfl ?_
  refine r_iincZ (z := 1) (y := 8) hX dX4_digest_142 rfl (by decide) rfl rfl ?_
  refine r_goto (tgt := 120) hX dX4_digest_145 (by decide) ?_
  refine r_iload hX dX4_digest_120 rfl ?_
  refine r_bipushZ hX dX4_digest_122 (by decide) ?_
  refine r_icmp_gtZ (tgt := 148) hX dX4_digest_124 (by decide) (by decide) (by decide) (fun q => absurd q (by decide)) (fun _ => ?_)
  refine r_lload_n hX dX4_digest_127 rfl rfl ?_
  refine r_ldc2Z (z := 31) hX kc_X4_227 (by decide) dX4_digest_128 ?_
  refine r_lmulZ hX dX4_digest_131 ?_
  refine r_aload_n hX dX4_digest_132 rfl rfl ?_
  refine r_iload_n hX dX4_digest_133 rfl rfl ?_
  refine r_iload hX dX4_digest_134 rfl ?_
  refine r_callV hX (z_X4_told ad ae cs K S 0 rest hS _ 0 (by omega) (by omega) _ (by omega)) kv_X4_193 14 rfl rfl rfl rfl (Nat.le_of_ble_eq_true rfl) ⟨(Nat.le_of_ble_eq_true rfl), (Nat.le_of_ble_eq_true rfl)⟩ ⟨(Nat.le_of_ble_eq_true rfl), (Nat.le_of_ble_eq_true rfl)⟩ dX4_digest_136 (fun _ _ z => False.elim z) (fun v9 ws9 h17 => ?_)
  obtain ⟨rfl, hw9⟩ := h17
  subst ws9
  dsimp only [mPush]
  refine r_i2lZ hX dX4_digest_139 (hbD0 _) ?_
  refine r_laddZ hX dX4_digest_140 ?_
  refine r_lstore_n hX dX4_digest_141 rfl (by decide) rfl ?_
  refine r_iincZ (z := 1) (y := 9) hX dX4_digest_142 rfl (by decide) rfl rfl ?_
  refine r_goto (tgt := 120) hX dX4_digest_145 (by decide) ?_
  refine r_iload hX dX4_digest_120 rfl ?_
  refine r_bipushZ hX dX4_digest_122 (by decide) ?_
  refine r_icmp_gtZ (tgt := 148) hX dX4_digest_124 (by decide) (by decide) (by decide) (fun q => absurd q (by decide)) (fun _ => ?_)
  refine r_lload_n hX dX4_digest_127 rfl rfl ?_
  refine r_ldc2Z (z := 31) hX kc_X4_227 (by decide) dX4_digest_128 ?_
  refine r_lmulZ hX dX4_digest_131 ?_
  refine r_aload_n hX dX4_digest_132 rfl rfl ?_
  refine r_iload_n hX dX4_digest_133 rfl rfl ?_
  refine r_iload hX dX4_digest_134 rfl ?_
  refine r_callV hX (z_X4_told ad ae cs K S 0 rest hS _ 0 (by omega) (by omega) _ (by omega)) kv_X4_193 14 rfl rfl rfl rfl (Nat.le_of_ble_eq_true rfl) ⟨(Nat.le_of_ble_eq_true rfl), (Nat.le_of_ble_eq_true rfl)⟩ ⟨(Nat.le_of_ble_eq_true rfl), (Nat.le_of_ble_eq_true rfl)⟩ dX4_digest_136 (fun _ _ z => False.elim z) (fun v9 ws9 h18 => ?_)
  obtain ⟨rfl, hw9⟩ := h18
  subst ws9
  dsimp only [mPush]
  refine r_i2lZ hX dX4_digest_139 (hbD0 _) ?_
  refine r_laddZ hX dX4_digest_140 ?_
  refine r_lstore_n hX dX4_digest_141 rfl (by decide) rfl ?_
  refine r_iincZ (z := 1) (y := 10) hX dX4_digest_142 rfl (by decide) rfl rfl ?_
  refine r_goto (tgt := 120) hX dX4_digest_145 (by decide) ?_
  refine r_iload hX dX4_digest_120 rfl ?_
  refine r_bipushZ hX dX4_digest_122 (by decide) ?_
  refine r_icmp_gtZ (tgt := 148) hX dX4_digest_124 (by decide) (by decide) (by decide) (fun q => absurd q (by decide)) (fun _ => ?_)
  refine r_lload_n hX dX4_digest_127 rfl rfl ?_
  refine r_ldc2Z (z := 31) hX kc_X4_227 (by decide) dX4_digest_128 ?_
  refine r_lmulZ hX dX4_digest_131 ?_
  refine r_aload_n hX dX4_digest_132 rfl rfl ?_
  refine r_iload_n hX dX4_digest_133 rfl rfl ?_
  refine r_iload hX dX4_digest_134 rfl ?_
  refine r_callV hX (z_X4_told ad ae cs K S 0 rest hS _ 0 (by omega) (by omega) _ (by omega)) kv_X4_193 14 rfl rfl rfl rfl (Nat.le_of_ble_eq_true rfl) ⟨(Nat.le_of_ble_eq_true rfl), (Nat.le_of_ble_eq_true rfl)⟩ ⟨(Nat.le_of_ble_eq_true rfl), (Nat.le_of_ble_eq_true rfl)⟩ dX4_digest_136 (fun _ _ z => False.elim z) (fun v9 ws9 h19 => ?_)
  obtain ⟨rfl, hw9⟩ := h19
  subst ws9
  dsimp only [mPush]
  refine r_i2lZ hX dX4_digest_139 (hbD0 _) ?_
  refine r_laddZ hX dX4_digest_140 ?_
  refine r_lstore_n hX dX4_digest_141 rfl (by decide) rfl ?_
  refine r_iincZ (z := 1) (y := 11) hX dX4_digest_142 rfl (by decide) rfl rfl ?_
  refine r_goto (tgt := 120) hX dX4_digest_145 (by decide) ?_
  refine r_iload hX dX4_digest_120 rfl ?_
  refine r_bipushZ hX dX4_digest_122 (by decide) ?_
  refine r_icmp_gtZ (tgt := 148) hX dX4_digest_124 (by decide) (by decide) (by decide) (fun q => absurd q (by decide)) (fun _ => ?_)
  refine r_lload_n hX dX4_digest_127 rfl rfl ?_
  refine r_ldc2Z (z := 31) hX kc_X4_227 (by decide) dX4_digest_128 ?_
  refine r_lmulZ hX dX4_digest_131 ?_
  refine r_aload_n hX dX4_digest_132 rfl rfl ?_
  refine r_iload_n hX dX4_digest_133 rfl rfl ?_
  refine r_iload hX dX4_digest_134 rfl ?_
  refine r_callV hX (z_X4_told ad ae cs K S 0 rest hS _ 0 (by omega) (by omega) _ (by omega)) kv_X4_193 14 rfl rfl rfl rfl (Nat.le_of_ble_eq_true rfl) ⟨(Nat.le_of_ble_eq_true rfl), (Nat.le_of_ble_eq_true rfl)⟩ ⟨(Nat.le_of_ble_eq_true rfl), (Nat.le_of_ble_eq_true rfl)⟩ dX4_digest_136 (fun _ _ z => False.elim z) (fun v9 ws9 h20 => ?_)
  obtain ⟨rfl, hw9⟩ := h20
  subst ws9
  dsimp only [mPush]
  refine r_i2lZ hX dX4_digest_139 (hbD0 _) ?_
  refine r_laddZ hX dX4_digest_140 ?_
  refine r_lstore_n hX dX4_digest_141 rfl (by decide) rfl ?_
  refine r_iincZ (z := 1) (y := 12) hX dX4_digest_142 rfl (by decide) rfl rfl ?_
  refine r_goto (tgt := 120) hX dX4_digest_145 (by decide) ?_
  refine r_iload hX dX4_digest_120 rfl ?_
  refine r_bipushZ hX dX4_digest_122 (by decide) ?_
  refine r_icmp_gtZ (tgt := 148) hX dX4_digest_124 (by decide) (by decide) (by decide) (fun q => absurd q (by decide)) (fun _ => ?_)
  refine r_lload_n hX dX4_digest_127 rfl rfl ?_
  refine r_ldc2Z (z := 31) hX kc_X4_227 (by decide) dX4_digest_128 ?_
  refine r_lmulZ hX dX4_digest_131 ?_
  refine r_aload_n hX dX4_digest_132 rfl rfl ?_
  refine r_iload_n hX dX4_digest_133 rfl rfl ?_
  refine r_iload hX dX4_digest_134 rfl ?_
  refine r_callV hX (z_X4_told ad ae cs K S 0 rest hS _ 0 (by omega) (by omega) _ (by omega)) kv_X4_193 14 rfl rfl rfl rfl (Nat.le_of_ble_eq_true rfl) ⟨(Nat.le_of_ble_eq_true rfl), (Nat.le_of_ble_eq_true rfl)⟩ ⟨(Nat.le_of_ble_eq_true rfl), (Nat.le_of_ble_eq_true rfl)⟩ dX4_digest_136 (fun _ _ z => False.elim z) (fun v9 ws9 h21 => ?_)
  obtain ⟨rfl, hw9⟩ := h21
  subst ws9
  dsimp only [mPush]
  refine r_i2lZ hX dX4_digest_139 (hbD0 _) ?_
  refine r_laddZ hX dX4_digest_140 ?_
  refine r_lstore_n hX dX4_digest_141 rfl (by decide) rfl ?_
  refine r_iincZ (z := 1) (y := 13) hX dX4_digest_142 rfl (by decide) rfl rfl ?_
  refine r_goto (tgt := 120) hX dX4_digest_145 (by decide) ?_
  refine r_iload hX dX4_digest_120 rfl ?_
  refine r_bipushZ hX dX4_digest_122 (by decide) ?_
  refine r_icmp_gtZ (tgt := 148) hX dX4_digest_124 (by decide) (by decide) (by decide) (fun _ => ?_) (fun q => absurd (by decide) q)
  refine r_iincZ (z := 1) (y := 1) hX dX4_digest_148 rfl (by decide) rfl rfl ?_
  refine r_goto (tgt := 112) hX dX4_digest_151 (by decide) ?_
  refine r_iload_n hX dX4_digest_112 rfl rfl ?_
  refine r_iconstZ hX dX4_digest_113 ?_
  refine r_icmp_geZ (tgt := 154) hX dX4_digest_114 (by decide) (by decide) (by decide) (fun q => absurd q (by decide)) (fun _ => ?_)
  refine r_iconstZ hX dX4_digest_117 ?_
  refine r_istore hX dX4_digest_118 (by decide) rfl ?_
  refine r_iload hX dX4_digest_120 rfl ?_
  refine r_bipushZ hX dX4_digest_122 (by decide) ?_
  refine r_icmp_gtZ (tgt := 148) hX dX4_digest_124 (by decide) (by decide) (by decide) (fun q => absurd q (by decide)) (fun _ => ?_)
  refine r_lload_n hX dX4_digest_127 rfl rfl ?_
  refine r_ldc2Z (z := 31) hX kc_X4_227 (by decide) dX4_digest_128 ?_
  refine r_lmulZ hX dX4_digest_131 ?_
  refine r_aload_n hX dX4_digest_132 rfl rfl ?_
  refine r_iload_n hX dX4_digest_133 rfl rfl ?_
  refine r_iload hX dX4_digest_134 rfl ?_
  refine r_callV hX (z_X4_told ad ae cs K S 0 rest hS _ 1 (by omega) (by omega) _ (by omega)) kv_X4_193 14 rfl rfl rfl rfl (Nat.le_of_ble_eq_true rfl) ⟨(Nat.le_of_ble_eq_true rfl), (Nat.le_of_ble_eq_true rfl)⟩ ⟨(Nat.le_of_ble_eq_true rfl), (Nat.le_of_ble_eq_true rfl)⟩ dX4_digest_136 (fun _ _ z => False.elim z) (fun v9 ws9 h22 => ?_)
  obtain ⟨rfl, hw9⟩ := h22
  subst ws9
  dsimp only [mPush]
  refine r_i2lZ hX dX4_digest_139 (hbD1 _) ?_
  refine r_laddZ hX dX4_digest_140 ?_
  refine r_lstore_n hX dX4_digest_141 rfl (by decide) rfl ?_
  refine r_iincZ (z := 1) (y := 1) hX dX4_digest_142 rfl (by decide) rfl rfl ?_
  refine r_goto (tgt := 120) hX dX4_digest_145 (by decide) ?_
  refine r_iload hX dX4_digest_120 rfl ?_
  refine r_bipushZ hX dX4_digest_122 (by decide) ?_
  refine r_icmp_gtZ (tgt := 148) hX dX4_digest_124 (by decide) (by decide) (by decide) (fun q => absurd q (by decide)) (fun _ => ?_)
  refine r_lload_n hX dX4_digest_127 rfl rfl ?_
  refine r_ldc2Z (z := 31) hX kc_X4_227 (by decide) dX4_digest_128 ?_
  refine r_lmulZ hX dX4_digest_131 ?_
  refine r_aload_n hX dX4_digest_132 rfl rfl ?_
  refine r_iload_n hX dX4_digest_133 rfl rfl ?_
  refine r_iload hX dX4_digest_134 rfl ?_
  refine r_callV hX (z_X4_told ad ae cs K S 0 rest hS _ 1 (by omega) (by omega) _ (by omega)) kv_X4_193 14 rfl rfl rfl rfl (Nat.le_of_ble_eq_true rfl) ⟨(Nat.le_of_ble_eq_true rfl), (Nat.le_of_ble_eq_true rfl)⟩ ⟨(Nat.le_of_ble_eq_true rfl), (Nat.le_of_ble_eq_true rfl)⟩ dX4_digest_136 (fun _ _ z => False.elim z) (fun v9 ws9 h23 => ?_)
  obtain ⟨rfl, hw9⟩ := h23
  subst ws9
  dsimp only [mPush]
  refine r_i2lZ hX dX4_digest_139 (hbD1 _) ?_
  refine r_laddZ hX dX4_digest_140 ?_
  refine r_lstore_n hX dX4_digest_141 rfl (by decide) rfl ?_
  refine r_iincZ (z := 1) (y := 2) hX dX4_digest_142 rfl (by decide) rfl rfl ?_
  refine r_goto (tgt := 120) hX dX4_digest_145 (by decide) ?_
  refine r_iload hX dX4_digest_120 rfl ?_
  refine r_bipushZ hX dX4_digest_122 (by decide) ?_
  refine r_icmp_gtZ (tgt := 148) hX dX4_digest_124 (by decide) (by decide) (by decide) (fun q => absurd q (by decide)) (fun _ => ?_)
  refine r_lload_n hX dX4_digest_127 rfl rfl ?_
  refine r_ldc2Z (z := 31) hX kc_X4_227 (by decide) dX4_digest_128 ?_
  refine r_lmulZ hX dX4_digest_131 ?_
  refine r_aload_n hX dX4_digest_132 rfl rfl ?_
  refine r_iload_n hX dX4_digest_133 rfl rfl ?_
  refine r_iload hX dX4_digest_134 rfl ?_
  refine r_callV hX (z_X4_told ad ae cs K S 0 rest hS _ 1 (by omega) (by omega) _ (by omega)) kv_X4_193 14 rfl rfl rfl rfl (Nat.le_of_ble_eq_true rfl) ⟨(Nat.le_of_ble_eq_true rfl), (Nat.le_of_ble_eq_true rfl)⟩ ⟨(Nat.le_of_ble_eq_true rfl), (Nat.le_of_ble_eq_true rfl)⟩ dX4_digest_136 (fun _ _ z => False.elim z) (fun v9 ws9 h24 => ?_)
  obtain ⟨rfl, hw9⟩ := h24
  subst ws9
  dsimp only [mPush]
  refine r_i2lZ hX dX4_digest_139 (hbD1 _) ?_
  refine r_laddZ hX dX4_digest_140 ?_
  refine r_lstore_n hX dX4_digest_141 rfl (by decide) rfl ?_
  refine r_iincZ (z := 1) (y := 3) hX dX4_digest_142 rfl (by decide) rfl rfl ?_
  refine r_goto (tgt := 120) hX dX4_digest_145 (by decide) ?_
  refine r_iload hX dX4_digest_120 rfl ?_
  refine r_bipushZ hX dX4_digest_122 (by decide) ?_
  refine r_icmp_gtZ (tgt := 148) hX dX4_digest_124 (by decide) (by decide) (by decide) (fun q => absurd q (by decide)) (fun _ => ?_)
  refine r_lload_n hX dX4_digest_127 rfl rfl ?_
  refine r_ldc2Z (z := 31) hX kc_X4_227 (by decide) dX4_digest_128 ?_
  refine r_lmulZ hX dX4_digest_131 ?_
  refine r_aload_n hX dX4_digest_132 rfl rfl ?_
  refine r_iload_n hX dX4_digest_133 rfl rfl ?_
  refine r_iload hX dX4_digest_134 rfl ?_
  refine r_callV hX (z_X4_told ad ae cs K S 0 rest hS _ 1 (by omega) (by omega) _ (by omega)) kv_X4_193 14 rfl rfl rfl rfl (Nat.le_of_ble_eq_true rfl) ⟨(Nat.le_of_ble_eq_true rfl), (Nat.le_of_ble_eq_true rfl)⟩ ⟨(Nat.le_of_ble_eq_true rfl), (Nat.le_of_ble_eq_true rfl)⟩ dX4_digest_136 (fun _ _ z => False.elim z) (fun v9 ws9 h25 => ?_)
  obtain ⟨rfl, hw9⟩ := h25
  subst ws9
  dsimp only [mPush]
  refine r_i2lZ hX dX4_digest_139 (hbD1 _) ?_
  refine r_laddZ hX dX4_digest_140 ?_
  refine r_lstore_n hX dX4_digest_141 rfl (by decide) rfl ?_
  refine r_iincZ (z := 1) (y := 4) hX dX4_digest_142 rfl (by decide) rfl rfl ?_
  refine r_goto (tgt := 120) hX dX4_digest_145 (by decide) ?_
  refine r_iload hX dX4_digest_120 rfl ?_
  refine r_bipushZ hX dX4_digest_122 (by decide) ?_
  refine r_icmp_gtZ (tgt := 148) hX dX4_digest_124 (by decide) (by decide) (by decide) (fun q => absurd q (by decide)) (fun _ => ?_)
  refine r_lload_n hX dX4_digest_127 rfl rfl ?_
  refine r_ldc2Z (z := 31) hX kc_X4_227 (by decide) dX4_digest_128 ?_
  refine r_lmulZ hX dX4_digest_131 ?_
  refine r_aload_n hX dX4_digest_132 rfl rfl ?_
  refine r_iload_n hX dX4_digest_133 rfl rfl ?_
  refine r_iload hX dX4_digest_134 rfl ?_
  refine r_callV hX (z_X4_told ad ae cs K S 0 rest hS _ 1 (by omega) (by omega) _ (by omega)) kv_X4_193 14 rfl rfl rfl rfl (Nat.le_of_ble_eq_true rfl) ⟨(Nat.le_of_ble_eq_true rfl), (Nat.le_of_ble_eq_true rfl)⟩ ⟨(Nat.le_of_ble_eq_true rfl), (Nat.le_of_ble_eq_true rfl)⟩ dX4_digest_136 (fun _ _ z => False.elim z) (fun v9 ws9 h26 => ?_)
  obtain ⟨rfl, hw9⟩ := h26
  subst ws9
  dsimp only [mPush]
  refine r_i2lZ hX dX4_digest_139 (hbD1 _) ?_
  refine r_laddZ hX dX4_digest_140 ?_
  refine r_lstore_n hX dX4_digest_141 rfl (by decide) rfl ?_
  refine r_iincZ (z := 1) (y := 5) hX dX4_digest_142 rfl (by decide) rfl rfl ?_
  refine r_goto (tgt := 120) hX dX4_digest_145 (by decide) ?_
  refine r_iload hX dX4_digest_120 rfl ?_
  refine r_bipushZ hX dX4_digest_122 (by decide) ?_
  refine r_icmp_gtZ (tgt := 148) hX dX4_digest_124 (by decide) (by decide) (by decide) (fun q => absurd q (by decide)) (fun _ => ?_)
  refine r_lload_n hX dX4_digest_127 rfl rfl ?_
  refine r_ldc2Z (z := 31) hX kc_X4_227 (by decide) dX4_digest_128 ?_
  refine r_lmulZ hX dX4_digest_131 ?_
  refine r_aload_n hX dX4_digest_132 rfl rfl ?_
  refine r_iload_n hX dX4_digest_133 rfl rfl ?_
  refine r_iload hX dX4_digest_134 rfl ?_
  refine r_callV hX (z_X4_told ad ae cs K S 0 rest hS _ 1 (by omega) (by omega) _ (by omega)) kv_X4_193 14 rfl rfl rfl rfl (Nat.le_of_ble_eq_true rfl) ⟨(Nat.le_of_ble_eq_true rfl), (Nat.le_of_ble_eq_true rfl)⟩ ⟨(Nat.le_of_ble_eq_true rfl), (Nat.le_of_ble_eq_true rfl)⟩ dX4_digest_136 (fun _ _ z => False.elim z) (fun v9 ws9 h27 => ?_)
  obtain ⟨rfl, hw9⟩ := h27
  subst ws9
  dsimp only [mPush]
  refine r_i2lZ hX dX4_digest_139 (hbD1 _) ?_
  refine r_laddZ hX dX4_digest_140 ?_
  refine r_lstore_n hX dX4_digest_141 rfl (by decide) rfl ?_
  refine r_iincZ (z := 1) (y := 6) hX dX4_digest_142 rfl (by decide) rfl rfl ?_
  refine r_goto (tgt := 120) hX dX4_digest_145 (by decide) ?_
  refine r_iload hX dX4_digest_120 rfl ?_
  refine r_bipushZ hX dX4_digest_122 (by decide) ?_
  refine r_icmp_gtZ (tgt := 148) hX dX4_digest_124 (by decide) (by decide) (by decide) (fun q => absurd q (by decide)) (fun _ => ?_)
  refine r_lload_n hX dX4_digest_127 rfl rfl ?_
  refine r_ldc2Z (z := 31) hX kc_X4_227 (by decide) dX4_digest_128 ?_
  refine r_lmulZ hX dX4_digest_131 ?_
  refine r_aload_n hX dX4_digest_132 rfl rfl ?_
  refine r_iload_n hX dX4_digest_133 rfl rfl ?_
  refine r_iload hX dX4_digest_134 rfl ?_
  refine r_callV hX (z_X4_told ad ae cs K S 0 rest hS _ 1 (by omega) (by omega) _ (by omega)) kv_X4_193 14 rfl rfl rfl rfl (Nat.le_of_ble_eq_true rfl) ⟨(Nat.le_of_ble_eq_true rfl), (Nat.le_of_ble_eq_true rfl)⟩ ⟨(Nat.le_of_ble_eq_true rfl), (Nat.le_of_ble_eq_true rfl)⟩ dX4_digest_136 (fun _ _ z => False.elim z) (fun v9 ws9 h28 => ?_)
  obtain ⟨rfl, hw9⟩ := h28
  subst ws9
  dsimp only [mPush]
  refine r_i2lZ hX dX4_digest_139 (hbD1 _) ?_
  refine r_laddZ hX dX4_digest_140 ?_
  refine r_lstore_n hX dX4_digest_141 rfl (by decide) rfl ?_
  refine r_iincZ (z := 1) (y := 7) hX dX4_digest_142 rfl (by decide) rfl rfl ?_
  refine r_goto (tgt := 120) hX dX4_digest_145 (by decide) ?_
  refine r_iload hX dX4_digest_120 rfl ?_
  refine r_bipushZ hX dX4_digest_122 (by decide) ?_
  refine r_icmp_gtZ (tgt := 148) hX dX4_digest_124 (by decide) (by decide) (by decide) (fun q => absurd q (by decide)) (fun _ => ?_)
  refine r_lload_n hX dX4_digest_127 rfl rfl ?_
  refine r_ldc2Z (z := 31) hX kc_X4_227 (by decide) dX4_digest_128 ?_
  refine r_lmulZ hX dX4_digest_131 ?_
  refine r_aload_n hX dX4_digest_132 rfl rfl ?_
  refine r_iload_n hX dX4_digest_133 rfl rfl ?_
  refine r_iload hX dX4_digest_134 rfl ?_
  refine r_callV hX (z_X4_told ad ae cs K S 0 rest hS _ 1 (by omega) (by omega) _ (by omega)) kv_X4_193 14 rfl rfl rfl rfl (Nat.le_of_ble_eq_true rfl) ⟨(Nat.le_of_ble_eq_true rfl), (Nat.le_of_ble_eq_true rfl)⟩ ⟨(Nat.le_of_ble_eq_true rfl), (Nat.le_of_ble_eq_true rfl)⟩ dX4_digest_136 (fun _ _ z => False.elim z) (fun v9 ws9 h29 => ?_)
  obtain ⟨rfl, hw9⟩ := h29
  subst ws9
  dsimp only [mPush]
  refine r_i2lZ hX dX4_digest_139 (hbD1 _) ?_
  refine r_laddZ hX dX4_digest_140 ?_
  refine r_lstore_n hX dX4_digest_141 rfl (by decide) rfl ?_
  refine r_iincZ (z := 1) (y := 8) hX dX4_digest_142 rfl (by decide) rfl rfl ?_
  refine r_goto (tgt := 120) hX dX4_digest_145 (by decide) ?_
  refine r_iload hX dX4_digest_120 rfl ?_
  refine r_bipushZ hX dX4_digest_122 (by decide) ?_
  refine r_icmp_gtZ (tgt := 148) hX dX4_digest_124 (by decide) (by decide) (by decide) (fun q => absurd q (by decide)) (fun _ => ?_)
  refine r_lload_n hX dX4_digest_127 rfl rfl ?_
  refine r_ldc2Z (z := 31) hX kc_X4_227 (by decide) dX4_digest_128 ?_
  refine r_lmulZ hX dX4_digest_131 ?_
  refine r_aload_n hX dX4_digest_132 rfl rfl ?_
  refine r_iload_n hX dX4_digest_133 rfl rfl ?_
  refine r_iload hX dX4_digest_134 rfl ?_
  refine r_callV hX (z_X4_told ad ae cs K S 0 rest hS _ 1 (by omega) (by omega) _ (by omega)) kv_X4_193 14 rfl rfl rfl rfl (Nat.le_of_ble_eq_true rfl) ⟨(Nat.le_of_ble_eq_true rfl), (Nat.le_of_ble_eq_true rfl)⟩ ⟨(Nat.le_of_ble_eq_true rfl), (Nat.le_of_ble_eq_true rfl)⟩ dX4_digest_136 (fun _ _ z => False.elim z) (fun v9 ws9 h30 => ?_)
  obtain ⟨rfl, hw9⟩ := h30
  subst ws9
  dsimp only [mPush]
  refine r_i2lZ hX dX4_digest_139 (hbD1 _) ?_
  refine r_laddZ hX dX4_digest_140 ?_
  refine r_lstore_n hX dX4_digest_141 rfl (by decide) rfl ?_
  refine r_iincZ (z := 1) (y := 9) hX dX4_digest_142 rfl (by decide) rfl rfl ?_
  refine r_goto (tgt := 120) hX dX4_digest_145 (by decide) ?_
  refine r_iload hX dX4_digest_120 rfl ?_
  refine r_bipushZ hX dX4_digest_122 (by decide) ?_
  refine r_icmp_gtZ (tgt := 148) hX dX4_digest_124 (by decide) (by decide) (by decide) (fun q => absurd q (by decide)) (fun _ => ?_)
  refine r_lload_n hX dX4_digest_127 rfl rfl ?_
  refine r_ldc2Z (z := 31) hX kc_X4_227 (by decide) dX4_digest_128 ?_
  refine r_lmulZ hX dX4_digest_131 ?_
  refine r_aload_n hX dX4_digest_132 rfl rfl ?_
  refine r_iload_n hX dX4_digest_133 rfl rfl ?_
  refine r_iload hX dX4_digest_134 rfl ?_
  refine r_callV hX (z_X4_told ad ae cs K S 0 rest hS _ 1 (by omega) (by omega) _ (by omega)) kv_X4_193 14 rfl rfl rfl rfl (Nat.le_of_ble_eq_true rfl) ⟨(Nat.le_of_ble_eq_true rfl), (Nat.le_of_ble_eq_true rfl)⟩ ⟨(Nat.le_of_ble_eq_true rfl), (Nat.le_of_ble_eq_true rfl)⟩ dX4_digest_136 (fun _ _ z => False.elim z) (fun v9 ws9 h31 => ?_)
  obtain ⟨rfl, hw9⟩ := h31
  subst ws9
  dsimp only [mPush]
  refine r_i2lZ hX dX4_digest_139 (hbD1 _) ?_
  refine r_laddZ hX dX4_digest_140 ?_
  refine r_lstore_n hX dX4_digest_141 rfl (by decide) rfl ?_
  refine r_iincZ (z := 1) (y := 10) hX dX4_digest_142 rfl (by decide) rfl rfl ?_
  refine r_goto (tgt := 120) hX dX4_digest_145 (by decide) ?_
  refine r_iload hX dX4_digest_120 rfl ?_
  refine r_bipushZ hX dX4_digest_122 (by decide) ?_
  refine r_icmp_gtZ (tgt := 148) hX dX4_digest_124 (by decide) (by decide) (by decide) (fun q => absurd q (by decide)) (fun _ => ?_)
  refine r_lload_n hX dX4_digest_127 rfl rfl ?_
  refine r_ldc2Z (z := 31) hX kc_X4_227 (by decide) dX4_digest_128 ?_
  refine r_lmulZ hX dX4_digest_131 ?_
  refine r_aload_n hX dX4_digest_132 rfl rfl ?_
  refine r_iload_n hX dX4_digest_133 rfl rfl ?_
  refine r_iload hX dX4_digest_134 rfl ?_
  refine r_callV hX (z_X4_told ad ae cs K S 0 rest hS _ 1 (by omega) (by omega) _ (by omega)) kv_X4_193 14 rfl rfl rfl rfl (Nat.le_of_ble_eq_true rfl) ⟨(Nat.le_of_ble_eq_true rfl), (Nat.le_of_ble_eq_true rfl)⟩ ⟨(Nat.le_of_ble_eq_true rfl), (Nat.le_of_ble_eq_true rfl)⟩ dX4_digest_136 (fun _ _ z => False.elim z) (fun v9 ws9 h32 => ?_)
  obtain ⟨rfl, hw9⟩ := h32
  subst ws9
  dsimp only [mPush]
  refine r_i2lZ hX dX4_digest_139 (hbD1 _) ?_
  refine r_laddZ hX dX4_digest_140 ?_
  refine r_lstore_n hX dX4_digest_141 rfl (by decide) rfl ?_
  refine r_iincZ (z := 1) (y := 11) hX dX4_digest_142 rfl (by decide) rfl rfl ?_
  refine r_goto (tgt := 120) hX dX4_digest_145 (by decide) ?_
  refine r_iload hX dX4_digest_120 rfl ?_
  refine r_bipushZ hX dX4_digest_122 (by decide) ?_
  refine r_icmp_gtZ (tgt := 148) hX dX4_digest_124 (by decide) (by decide) (by decide) (fun q => absurd q (by decide)) (fun _ => ?_)
  refine r_lload_n hX dX4_digest_127 rfl rfl ?_
  refine r_ldc2Z (z := 31) hX kc_X4_227 (by decide) dX4_digest_128 ?_
  refine r_lmulZ hX dX4_digest_131 ?_
  refine r_aload_n hX dX4_digest_132 rfl rfl ?_
  refine r_iload_n hX dX4_digest_133 rfl rfl ?_
  refine r_iload hX dX4_digest_134 rfl ?_
  refine r_callV hX (z_X4_told ad ae cs K S 0 rest hS _ 1 (by omega) (by omega) _ (by omega)) kv_X4_193 14 rfl rfl rfl rfl (Nat.le_of_ble_eq_true rfl) ⟨(Nat.le_of_ble_eq_true rfl), (Nat.le_of_ble_eq_true rfl)⟩ ⟨(Nat.le_of_ble_eq_true rfl), (Nat.le_of_ble_eq_true rfl)⟩ dX4_digest_136 (fun _ _ z => False.elim z) (fun v9 ws9 h33 => ?_)
  obtain ⟨rfl, hw9⟩ := h33
  subst ws9
  dsimp only [mPush]
  refine r_i2lZ hX dX4_digest_139 (hbD1 _) ?_
  refine r_laddZ hX dX4_digest_140 ?_
  refine r_lstore_n hX dX4_digest_141 rfl (by decide) rfl ?_
  refine r_iincZ (z := 1) (y := 12) hX dX4_digest_142 rfl (by decide) rfl rfl ?_
  refine r_goto (tgt := 120) hX dX4_digest_145 (by decide) ?_
  refine r_iload hX dX4_digest_120 rfl ?_
  refine r_bipushZ hX dX4_digest_122 (by decide) ?_
  refine r_icmp_gtZ (tgt := 148) hX dX4_digest_124 (by decide) (by decide) (by decide) (fun q => absurd q (by decide)) (fun _ => ?_)
  refine r_lload_n hX dX4_digest_127 rfl rfl ?_
  refine r_ldc2Z (z := 31) hX kc_X4_227 (by decide) dX4_digest_128 ?_
  refine r_lmulZ hX dX4_digest_131 ?_
  refine r_aload_n hX dX4_digest_132 rfl rfl ?_
  refine r_iload_n hX dX4_digest_133 rfl rfl ?_
  refine r_iload hX dX4_digest_134 rfl ?_
  refine r_callV hX (z_X4_told ad ae cs K S 0 rest hS _ 1 (by omega) (by omega) _ (by omega)) kv_X4_193 14 rfl rfl rfl rfl (Nat.le_of_ble_eq_true rfl) ⟨(Nat.le_of_ble_eq_true rfl), (Nat.le_of_ble_eq_true rfl)⟩ ⟨(Nat.le_of_ble_eq_true rfl), (Nat.le_of_ble_eq_true rfl)⟩ dX4_digest_136 (fun _ _ z => False.elim z) (fun v9 ws9 h34 => ?_)
  obtain ⟨rfl, hw9⟩ := h34
  subst ws9
  dsimp only [mPush]
  refine r_i2lZ hX dX4_digest_139 (hbD1 _) ?_
  refine r_laddZ hX dX4_digest_140 ?_
  refine r_lstore_n hX dX4_digest_141 rfl (by decide) rfl ?_
  refine r_iincZ (z := 1) (y := 13) hX dX4_digest_142 rfl (by decide) rfl rfl ?_
  refine r_goto (tgt := 120) hX dX4_digest_145 (by decide) ?_
  refine r_iload hX dX4_digest_120 rfl ?_
  refine r_bipushZ hX dX4_digest_122 (by decide) ?_
  refine r_icmp_gtZ (tgt := 148) hX dX4_digest_124 (by decide) (by decide) (by decide) (fun _ => ?_) (fun q => absurd (by decide) q)
  refine r_iincZ (z := 1) (y := 2) hX dX4_digest_148 rfl (by decide) rfl rfl ?_
  refine r_goto (tgt := 112) hX dX4_digest_151 (by decide) ?_
  refine r_iload_n hX dX4_digest_112 rfl rfl ?_
  refine r_iconstZ hX dX4_digest_113 ?_
  refine r_icmp_geZ (tgt := 154) hX dX4_digest_114 (by decide) (by decide) (by decide) (fun q => absurd q (by decide)) (fun _ => ?_)
  refine r_iconstZ hX dX4_digest_117 ?_
  refine r_istore hX dX4_digest_118 (by decide) rfl ?_
  refine r_iload hX dX4_digest_120 rfl ?_
  refine r_bipushZ hX dX4_digest_122 (by decide) ?_
  refine r_icmp_gtZ (tgt := 148) hX dX4_digest_124 (by decide) (by decide) (by decide) (fun q => absurd q (by decide)) (fun _ => ?_)
  refine r_lload_n hX dX4_digest_127 rfl rfl ?_
  refine r_ldc2Z (z := 31) hX kc_X4_227 (by decide) dX4_digest_128 ?_
  refine r_lmulZ hX dX4_digest_131 ?_
  refine r_aload_n hX dX4_digest_132 rfl rfl ?_
  refine r_iload_n hX dX4_digest_133 rfl rfl ?_
  refine r_iload hX dX4_digest_134 rfl ?_
  refine r_callV hX (z_X4_told ad ae cs K S 0 rest hS _ 2 (by omega) (by omega) _ (by omega)) kv_X4_193 14 rfl rfl rfl rfl (Nat.le_of_ble_eq_true rfl) ⟨(Nat.le_of_ble_eq_true rfl), (Nat.le_of_ble_eq_true rfl)⟩ ⟨(Nat.le_of_ble_eq_true rfl), (Nat.le_of_ble_eq_true rfl)⟩ dX4_digest_136 (fun _ _ z => False.elim z) (fun v9 ws9 h35 => ?_)
  obtain ⟨rfl, hw9⟩ := h35
  subst ws9
  dsimp only [mPush]
  refine r_i2lZ hX dX4_digest_139 (hbD2 _) ?_
  refine r_laddZ hX dX4_digest_140 ?_
  refine r_lstore_n hX dX4_digest_141 rfl (by decide) rfl ?_
  refine r_iincZ (z := 1) (y := 1) hX dX4_digest_142 rfl (by decide) rfl rfl ?_
  refine r_goto (tgt := 120) hX dX4_digest_145 (by decide) ?_
  refine r_iload hX dX4_digest_120 rfl ?_
  refine r_bipushZ hX dX4_digest_122 (by decide) ?_
  refine r_icmp_gtZ (tgt := 148) hX dX4_digest_124 (by decide) (by decide) (by decide) (fun q => absurd q (by decide)) (fun _ => ?_)
  refine r_lload_n hX dX4_digest_127 rfl rfl ?_
  refine r_ldc2Z (z := 31) hX kc_X4_227 (by decide) dX4_digest_128 ?_
  refine r_lmulZ hX dX4_digest_131 ?_
  refine r_aload_n hX dX4_digest_132 rfl rfl ?_
  refine r_iload_n hX dX4_digest_133 rfl rfl ?_
  refine r_iload hX dX4_digest_134 rfl ?_
  refine r_callV hX (z_X4_told ad ae cs K S 0 rest hS _ 2 (by omega) (by omega) _ (by omega)) kv_X4_193 14 rfl rfl rfl rfl (Nat.le_of_ble_eq_true rfl) ⟨(Nat.le_of_ble_eq_true rfl), (Nat.le_of_ble_eq_true rfl)⟩ ⟨(Nat.le_of_ble_eq_true rfl), (Nat.le_of_ble_eq_true rfl)⟩ dX4_digest_136 (fun _ _ z => False.elim z) (fun v9 ws9 h36 => ?_)
  obtain ⟨rfl, hw9⟩ := h36
  subst ws9
  dsimp only [mPush]
  refine r_i2lZ hX dX4_digest_139 (hbD2 _) ?_
  refine r_laddZ hX dX4_digest_140 ?_
  refine r_lstore_n hX dX4_digest_141 rfl (by decide) rfl ?_
  refine r_iincZ (z := 1) (y := 2) hX dX4_digest_142 rfl (by decide) rfl rfl ?_
  refine r_goto (tgt := 120) hX dX4_digest_145 (by decide) ?_
  refine r_iload hX dX4_digest_120 rfl ?_
  refine r_bipushZ hX dX4_digest_122 (by decide) ?_
  refine r_icmp_gtZ (tgt := 148) hX dX4_digest_124 (by decide) (by decide) (by decide) (fun q => absurd q (by decide)) (fun _ => ?_)
  refine r_lload_n hX dX4_digest_127 rfl rfl ?_
  refine r_ldc2Z (z := 31) hX kc_X4_227 (by decide) dX4_digest_128 ?_
  refine r_lmulZ hX dX4_digest_131 ?_
  refine r_aload_n hX dX4_digest_132 rfl rfl ?_
  refine r_iload_n hX dX4_digest_133 rfl rfl ?_
  refine r_iload hX dX4_digest_134 rfl ?_
  refine r_callV hX (z_X4_told ad ae cs K S 0 rest hS _ 2 (by omega) (by omega) _ (by omega)) kv_X4_193 14 rfl rfl rfl rfl (Nat.le_of_ble_eq_true rfl) ⟨(Nat.le_of_ble_eq_true rfl), (Nat.le_of_ble_eq_true rfl)⟩ ⟨(Nat.le_of_ble_eq_true rfl), (Nat.le_of_ble_eq_true rfl)⟩ dX4_digest_136 (fun _ _ z => False.elim z) (fun v9 ws9 h37 => ?_)
  obtain ⟨rfl, hw9⟩ := h37
  subst ws9
  dsimp only [mPush]
  refine r_i2lZ hX dX4_digest_139 (hbD2 _) ?_
  refine r_laddZ hX dX4_digest_140 ?_
  refine r_lstore_n hX dX4_digest_141 rfl (by decide) rfl ?_
  refine r_iincZ (z := 1) (y := 3) hX dX4_digest_142 rfl (by decide) rfl rfl ?_
  refine r_goto (tgt := 120) hX dX4_digest_145 (by decide) ?_
  refine r_iload hX dX4_digest_120 rfl ?_
  refine r_bipushZ hX dX4_digest_122 (by decide) ?_
  refine r_icmp_gtZ (tgt := 148) hX dX4_digest_124 (by decide) (by decide) (by decide) (fun q => absurd q (by decide)) (fun _ => ?_)
  refine r_lload_n hX dX4_digest_127 rfl rfl ?_
  refine r_ldc2Z (z := 31) hX kc_X4_227 (by decide) dX4_digest_128 ?_
  refine r_lmulZ hX dX4_digest_131 ?_
  refine r_aload_n hX dX4_digest_132 rfl rfl ?_
  refine r_iload_n hX dX4_digest_133 rfl rfl ?_
  refine r_iload hX dX4_digest_134 rfl ?_
  refine r_callV hX (z_X4_told ad ae cs K S 0 rest hS _ 2 (by omega) (by omega) _ (by omega)) kv_X4_193 14 rfl rfl rfl rfl (Nat.le_of_ble_eq_true rfl) ⟨(Nat.le_of_ble_eq_true rfl), (Nat.le_of_ble_eq_true rfl)⟩ ⟨(Nat.le_of_ble_eq_true rfl), (Nat.le_of_ble_eq_true rfl)⟩ dX4_digest_136 (fun _ _ z => False.elim z) (fun v9 ws9 h38 => ?_)
  obtain ⟨rfl, hw9⟩ := h38
  subst ws9
  dsimp only [mPush]
  refine r_i2lZ hX dX4_digest_139 (hbD2 _) ?_
  refine r_laddZ hX dX4_digest_140 ?_
  refine r_lstore_n hX dX4_digest_141 rfl (by decide) rfl ?_
  refine r_iincZ (z := 1) (y := 4) hX dX4_digest_142 rfl (by decide) rfl rfl ?_
  refine r_goto (tgt := 120) hX dX4_digest_145 (by decide) ?_
  refine r_iload hX dX4_digest_120 rfl ?_
  refine r_bipushZ hX dX4_digest_122 (by decide) ?_
  refine r_icmp_gtZ (tgt := 148) hX dX4_digest_124 (by decide) (by decide) (by decide) (fun q => absurd q (by decide)) (fun _ => ?_)
  refine r_lload_n hX dX4_digest_127 rfl rfl ?_
  refine r_ldc2Z (z := 31) hX kc_X4_227 (by decide) dX4_digest_128 ?_
  refine r_lmulZ hX dX4_digest_131 ?_
  refine r_aload_n hX dX4_digest_132 rfl rfl ?_
  refine r_iload_n hX dX4_digest_133 rfl rfl ?_
  refine r_iload hX dX4_digest_134 rfl ?_
  refine r_callV hX (z_X4_told ad ae cs K S 0 rest hS _ 2 (by omega) (by omega) _ (by omega)) kv_X4_193 14 rfl rfl rfl rfl (Nat.le_of_ble_eq_true rfl) ⟨(Nat.le_of_ble_eq_true rfl), (Nat.le_of_ble_eq_true rfl)⟩ ⟨(Nat.le_of_ble_eq_true rfl), (Nat.le_of_ble_eq_true rfl)⟩ dX4_digest_136 (fun _ _ z => False.elim z) (fun v9 ws9 h39 => ?_)
  obtain ⟨rfl, hw9⟩ := h39
  subst ws9
  dsimp only [mPush]
  refine r_i2lZ hX dX4_digest_139 (hbD2 _) ?_
  refine r_laddZ hX dX4_digest_140 ?_
  refine r_lstore_n hX dX4_digest_141 rfl (by decide) rfl ?_
  refine r_iincZ (z := 1) (y := 5) hX dX4_digest_142 rfl (by decide) rfl rfl ?_
  refine r_goto (tgt := 120) hX dX4_digest_145 (by decide) ?_
  refine r_iload hX dX4_digest_120 rfl ?_
  refine r_bipushZ hX dX4_digest_122 (by decide) ?_
  refine r_icmp_gtZ (tgt := 148) hX dX4_digest_124 (by decide) (by decide) (by decide) (fun q => absurd q (by decide)) (fun _ => ?_)
  refine r_lload_n hX dX4_digest_127 rfl rfl ?_
  refine r_ldc2Z (z := 31) hX kc_X4_227 (by decide) dX4_digest_128 ?_
  refine r_lmulZ hX dX4_digest_131 ?_
  refine r_aload_n hX dX4_digest_132 rfl rfl ?_
  refine r_iload_n hX dX4_digest_133 rfl rfl ?_
  refine r_iload hX dX4_digest_134 rfl ?_
  refine r_callV hX (z_X4_told ad ae cs K S 0 rest hS _ 2 (by omega) (by omega) _ (by omega)) kv_X4_193 14 rfl rfl rfl rfl (Nat.le_of_ble_eq_true rfl) ⟨(Nat.le_of_ble_eq_true rfl), (Nat.le_of_ble_eq_true rfl)⟩ ⟨(Nat.le_of_ble_eq_true rfl), (Nat.le_of_ble_eq_true rfl)⟩ dX4_digest_136 (fun _ _ z => False.elim z) (fun v9 ws9 h40 => ?_)
  obtain ⟨rfl, hw9⟩ := h40
  subst ws9
  dsimp only [mPush]
  refine r_i2lZ hX dX4_digest_139 (hbD2 _) ?_
  refine r_laddZ hX dX4_digest_140 ?_
  refine r_lstore_n hX dX4_digest_141 rfl (by decide) rfl ?_
  refine r_iincZ (z := 1) (y := 6) hX dX4_digest_142 rfl (by decide) rfl rfl ?_
  refine r_goto (tgt := 120) hX dX4_digest_145 (by decide) ?_
  refine r_iload hX dX4_digest_120 rfl ?_
  refine r_bipushZ hX dX4_digest_122 (by decide) ?_
  refine r_icmp_gtZ (tgt := 148) hX dX4_digest_124 (by decide) (by decide) (by decide) (fun q => absurd q (by decide)) (fun _ => ?_)
  refine r_lload_n hX dX4_digest_127 rfl rfl ?_
  refine r_ldc2Z (z := 31) hX kc_X4_227 (by decide) dX4_digest_128 ?_
  refine r_lmulZ hX dX4_digest_131 ?_
  refine r_aload_n hX dX4_digest_132 rfl rfl ?_
  refine r_iload_n hX dX4_digest_133 rfl rfl ?_
  refine r_iload hX dX4_digest_134 rfl ?_
  refine r_callV hX (z_X4_told ad ae cs K S 0 rest hS _ 2 (by omega) (by omega) _ (by omega)) kv_X4_193 14 rfl rfl rfl rfl (Nat.le_of_ble_eq_true rfl) ⟨(Nat.le_of_ble_eq_true rfl), (Nat.le_of_ble_eq_true rfl)⟩ ⟨(Nat.le_of_ble_eq_true rfl), (Nat.le_of_ble_eq_true rfl)⟩ dX4_digest_136 (fun _ _ z => False.elim z) (fun v9 ws9 h41 => ?_)
  obtain ⟨rfl, hw9⟩ := h41
  subst ws9
  dsimp only [mPush]
  refine r_i2lZ hX dX4_digest_139 (hbD2 _) ?_
  refine r_laddZ hX dX4_digest_140 ?_
  refine r_lstore_n hX dX4_digest_141 rfl (by decide) rfl ?_
  refine r_iincZ (z := 1) (y := 7) hX dX4_digest_142 rfl (by decide) rfl rfl ?_
  refine r_goto (tgt := 120) hX dX4_digest_145 (by decide) ?_
  refine r_iload hX dX4_digest_120 rfl ?_
  refine r_bipushZ hX dX4_digest_122 (by decide) ?_
  refine r_icmp_gtZ (tgt := 148) hX dX4_digest_124 (by decide) (by decide) (by decide) (fun q => absurd q (by decide)) (fun _ => ?_)
  refine r_lload_n hX dX4_digest_127 rfl rfl ?_
  refine r_ldc2Z (z := 31) hX kc_X4_227 (by decide) dX4_digest_128 ?_
  refine r_lmulZ hX dX4_digest_131 ?_
  refine r_aload_n hX dX4_digest_132 rfl rfl ?_
  refine r_iload_n hX dX4_digest_133 rfl rfl ?_
  refine r_iload hX dX4_digest_134 rfl ?_
  refine r_callV hX (z_X4_told ad ae cs K S 0 rest hS _ 2 (by omega) (by omega) _ (by omega)) kv_X4_193 14 rfl rfl rfl rfl (Nat.le_of_ble_eq_true rfl) ⟨(Nat.le_of_ble_eq_true rfl), (Nat.le_of_ble_eq_true rfl)⟩ ⟨(Nat.le_of_ble_eq_true rfl), (Nat.le_of_ble_eq_true rfl)⟩ dX4_digest_136 (fun _ _ z => False.elim z) (fun v9 ws9 h42 => ?_)
  obtain ⟨rfl, hw9⟩ := h42
  subst ws9
  dsimp only [mPush]
  refine r_i2lZ hX dX4_digest_139 (hbD2 _) ?_
  refine r_laddZ hX dX4_digest_140 ?_
  refine r_lstore_n hX dX4_digest_141 rfl (by decide) rfl ?_
  refine r_iincZ (z := 1) (y := 8) hX dX4_digest_142 rfl (by decide) rfl rfl ?_
  refine r_goto (tgt := 120) hX dX4_digest_145 (by decide) ?_
  refine r_iload hX dX4_digest_120 rfl ?_
  refine r_bipushZ hX dX4_digest_122 (by decide) ?_
  refine r_icmp_gtZ (tgt := 148) hX dX4_digest_124 (by decide) (by decide) (by decide) (fun q => absurd q (by decide)) (fun _ => ?_)
  refine r_lload_n hX dX4_digest_127 rfl rfl ?_
  refine r_ldc2Z (z := 31) hX kc_X4_227 (by decide) dX4_digest_128 ?_
  refine r_lmulZ hX dX4_digest_131 ?_
  refine r_aload_n hX dX4_digest_132 rfl rfl ?_
  refine r_iload_n hX dX4_digest_133 rfl rfl ?_
  refine r_iload hX dX4_digest_134 rfl ?_
  refine r_callV hX (z_X4_told ad ae cs K S 0 rest hS _ 2 (by omega) (by omega) _ (by omega)) kv_X4_193 14 rfl rfl rfl rfl (Nat.le_of_ble_eq_true rfl) ⟨(Nat.le_of_ble_eq_true rfl), (Nat.le_of_ble_eq_true rfl)⟩ ⟨(Nat.le_of_ble_eq_true rfl), (Nat.le_of_ble_eq_true rfl)⟩ dX4_digest_136 (fun _ _ z => False.elim z) (fun v9 ws9 h43 => ?_)
  obtain ⟨rfl, hw9⟩ := h43
  subst ws9
  dsimp only [mPush]
  refine r_i2lZ hX dX4_digest_139 (hbD2 _) ?_
  refine r_laddZ hX dX4_digest_140 ?_
  refine r_lstore_n hX dX4_digest_141 rfl (by decide) rfl ?_
  refine r_iincZ (z := 1) (y := 9) hX dX4_digest_142 rfl (by decide) rfl rfl ?_
  refine r_goto (tgt := 120) hX dX4_digest_145 (by decide) ?_
  refine r_iload hX dX4_digest_120 rfl ?_
  refine r_bipushZ hX dX4_digest_122 (by decide) ?_
  refine r_icmp_gtZ (tgt := 148) hX dX4_digest_124 (by decide) (by decide) (by decide) (fun q => absurd q (by decide)) (fun _ => ?_)
  refine r_lload_n hX dX4_digest_127 rfl rfl ?_
  refine r_ldc2Z (z := 31) hX kc_X4_227 (by decide) dX4_digest_128 ?_
  refine r_lmulZ hX dX4_digest_131 ?_
  refine r_aload_n hX dX4_digest_132 rfl rfl ?_
  refine r_iload_n hX dX4_digest_133 rfl rfl ?_
  refine r_iload hX dX4_digest_134 rfl ?_
  refine r_callV hX (z_X4_told ad ae cs K S 0 rest hS _ 2 (by omega) (by omega) _ (by omega)) kv_X4_193 14 rfl rfl rfl rfl (Nat.le_of_ble_eq_true rfl) ⟨(Nat.le_of_ble_eq_true rfl), (Nat.le_of_ble_eq_true rfl)⟩ ⟨(Nat.le_of_ble_eq_true rfl), (Nat.le_of_ble_eq_true rfl)⟩ dX4_digest_136 (fun _ _ z => False.elim z) (fun v9 ws9 h44 => ?_)
  obtain ⟨rfl, hw9⟩ := h44
  subst ws9
  dsimp only [mPush]
  refine r_i2lZ hX dX4_digest_139 (hbD2 _) ?_
  refine r_laddZ hX dX4_digest_140 ?_
  refine r_lstore_n hX dX4_digest_141 rfl (by decide) rfl ?_
  refine r_iincZ (z := 1) (y := 10) hX dX4_digest_142 rfl (by decide) rfl rfl ?_
  refine r_goto (tgt := 120) hX dX4_digest_145 (by decide) ?_
  refine r_iload hX dX4_digest_120 rfl ?_
  refine r_bipushZ hX dX4_digest_122 (by decide) ?_
  refine r_icmp_gtZ (tgt := 148) hX dX4_digest_124 (by decide) (by decide) (by decide) (fun q => absurd q (by decide)) (fun _ => ?_)
  refine r_lload_n hX dX4_digest_127 rfl rfl ?_
  refine r_ldc2Z (z := 31) hX kc_X4_227 (by decide) dX4_digest_128 ?_
  refine r_lmulZ hX dX4_digest_131 ?_
  refine r_aload_n hX dX4_digest_132 rfl rfl ?_
  refine r_iload_n hX dX4_digest_133 rfl rfl ?_
  refine r_iload hX dX4_digest_134 rfl ?_
  refine r_callV hX (z_X4_told ad ae cs K S 0 rest hS _ 2 (by omega) (by omega) _ (by omega)) kv_X4_193 14 rfl rfl rfl rfl (Nat.le_of_ble_eq_true rfl) ⟨(Nat.le_of_ble_eq_true rfl), (Nat.le_of_ble_eq_true rfl)⟩ ⟨(Nat.le_of_ble_eq_true rfl), (Nat.le_of_ble_eq_true rfl)⟩ dX4_digest_136 (fun _ _ z => False.elim z) (fun v9 ws9 h45 => ?_)
  obtain ⟨rfl, hw9⟩ := h45
  subst ws9
  dsimp only [mPush]
  refine r_i2lZ hX dX4_digest_139 (hbD2 _) ?_
  refine r_laddZ hX dX4_digest_140 ?_
  refine r_lstore_n hX dX4_digest_141 rfl (by decide) rfl ?_
  refine r_iincZ (z := 1) (y := 11) hX dX4_digest_142 rfl (by decide) rfl rfl ?_
  refine r_goto (tgt := 120) hX dX4_digest_145 (by decide) ?_
  refine r_iload hX dX4_digest_120 rfl ?_
  refine r_bipushZ hX dX4_digest_122 (by decide) ?_
  refine r_icmp_gtZ (tgt := 148) hX dX4_digest_124 (by decide) (by decide) (by decide) (fun q => absurd q (by decide)) (fun _ => ?_)
  refine r_lload_n hX dX4_digest_127 rfl rfl ?_
  refine r_ldc2Z (z := 31) hX kc_X4_227 (by decide) dX4_digest_128 ?_
  refine r_lmulZ hX dX4_digest_131 ?_
  refine r_aload_n hX dX4_digest_132 rfl rfl ?_
  refine r_iload_n hX dX4_digest_133 rfl rfl ?_
  refine r_iload hX dX4_digest_134 rfl ?_
  refine r_callV hX (z_X4_told ad ae cs K S 0 rest hS _ 2 (by omega) (by omega) _ (by omega)) kv_X4_193 14 rfl rfl rfl rfl (Nat.le_of_ble_eq_true rfl) ⟨(Nat.le_of_ble_eq_true rfl), (Nat.le_of_ble_eq_true rfl)⟩ ⟨(Nat.le_of_ble_eq_true rfl), (Nat.le_of_ble_eq_true rfl)⟩ dX4_digest_136 (fun _ _ z => False.elim z) (fun v9 ws9 h46 => ?_)
  obtain ⟨rfl, hw9⟩ := h46
  subst ws9
  dsimp only [mPush]
  refine r_i2lZ hX dX4_digest_139 (hbD2 _) ?_
  refine r_laddZ hX dX4_digest_140 ?_
  refine r_lstore_n hX dX4_digest_141 rfl (by decide) rfl ?_
  refine r_iincZ (z := 1) (y := 12) hX dX4_digest_142 rfl (by decide) rfl rfl ?_
  refine r_goto (tgt := 120) hX dX4_digest_145 (by decide) ?_
  refine r_iload hX dX4_digest_120 rfl ?_
  refine r_bipushZ hX dX4_digest_122 (by decide) ?_
  refine r_icmp_gtZ (tgt := 148) hX dX4_digest_124 (by decide) (by decide) (by decide) (fun q => absurd q (by decide)) (fun _ => ?_)
  refine r_lload_n hX dX4_digest_127 rfl rfl ?_
  refine r_ldc2Z (z := 31) hX kc_X4_227 (by decide) dX4_digest_128 ?_
  refine r_lmulZ hX dX4_digest_131 ?_
  refine r_aload_n hX dX4_digest_132 rfl rfl ?_
  refine r_iload_n hX dX4_digest_133 rfl rfl ?_
  refine r_iload hX dX4_digest_134 rfl ?_
  refine r_callV hX (z_X4_told ad ae cs K S 0 rest hS _ 2 (by omega) (by omega) _ (by omega)) kv_X4_193 14 rfl rfl rfl rfl (Nat.le_of_ble_eq_true rfl) ⟨(Nat.le_of_ble_eq_true rfl), (Nat.le_of_ble_eq_true rfl)⟩ ⟨(Nat.le_of_ble_eq_true rfl), (Nat.le_of_ble_eq_true rfl)⟩ dX4_digest_136 (fun _ _ z => False.elim z) (fun v9 ws9 h47 => ?_)
  obtain ⟨rfl, hw9⟩ := h47
  subst ws9
  dsimp only [mPush]
  refine r_i2lZ hX dX4_digest_139 (hbD2 _) ?_
  refine r_laddZ hX dX4_digest_140 ?_
  refine r_lstore_n hX dX4_digest_141 rfl (by decide) rfl ?_
  refine r_iincZ (z := 1) (y := 13) hX dX4_digest_142 rfl (by decide) rfl rfl ?_
  refine r_goto (tgt := 120) hX dX4_digest_145 (by decide) ?_
  refine r_iload hX dX4_digest_120 rfl ?_
  refine r_bipushZ hX dX4_digest_122 (by decide) ?_
  refine r_icmp_gtZ (tgt := 148) hX dX4_digest_124 (by decide) (by decide) (by decide) (fun _ => ?_) (fun q => absurd (by decide) q)
  refine r_iincZ (z := 1) (y := 3) hX dX4_digest_148 rfl (by decide) rfl rfl ?_
  refine r_goto (tgt := 112) hX dX4_digest_151 (by decide) ?_
  refine r_iload_n hX dX4_digest_112 rfl rfl ?_
  refine r_iconstZ hX dX4_digest_113 ?_
  refine r_icmp_geZ (tgt := 154) hX dX4_digest_114 (by decide) (by decide) (by decide) (fun q => absurd q (by decide)) (fun _ => ?_)
  refine r_iconstZ hX dX4_digest_117 ?_
  refine r_istore hX dX4_digest_118 (by decide) rfl ?_
  refine r_iload hX dX4_digest_120 rfl ?_
  refine r_bipushZ hX dX4_digest_122 (by decide) ?_
  refine r_icmp_gtZ (tgt := 148) hX dX4_digest_124 (by decide) (by decide) (by decide) (fun q => absurd q (by decide)) (fun _ => ?_)
  refine r_lload_n hX dX4_digest_127 rfl rfl ?_
  refine r_ldc2Z (z := 31) hX kc_X4_227 (by decide) dX4_digest_128 ?_
  refine r_lmulZ hX dX4_digest_131 ?_
  refine r_aload_n hX dX4_digest_132 rfl rfl ?_
  refine r_iload_n hX dX4_digest_133 rfl rfl ?_
  refine r_iload hX dX4_digest_134 rfl ?_
  refine r_callV hX (z_X4_told ad ae cs K S 0 rest hS _ 3 (by omega) (by omega) _ (by omega)) kv_X4_193 14 rfl rfl rfl rfl (Nat.le_of_ble_eq_true rfl) ⟨(Nat.le_of_ble_eq_true rfl), (Nat.le_of_ble_eq_true rfl)⟩ ⟨(Nat.le_of_ble_eq_true rfl), (Nat.le_of_ble_eq_true rfl)⟩ dX4_digest_136 (fun _ _ z => False.elim z) (fun v9 ws9 h48 => ?_)
  obtain ⟨rfl, hw9⟩ := h48
  subst ws9
  dsimp only [mPush]
  refine r_i2lZ hX dX4_digest_139 (hbD3 _) ?_
  refine r_laddZ hX dX4_digest_140 ?_
  refine r_lstore_n hX dX4_digest_141 rfl (by decide) rfl ?_
  refine r_iincZ (z := 1) (y := 1) hX dX4_digest_142 rfl (by decide) rfl rfl ?_
  refine r_goto (tgt := 120) hX dX4_digest_145 (by decide) ?_
  refine r_iload hX dX4_digest_120 rfl ?_
  refine r_bipushZ hX dX4_digest_122 (by decide) ?_
  refine r_icmp_gtZ (tgt := 148) hX dX4_digest_124 (by decide) (by decide) (by decide) (fun q => absurd q (by decide)) (fun _ => ?_)
  refine r_lload_n hX dX4_digest_127 rfl rfl ?_
  refine r_ldc2Z (z := 31) hX kc_X4_227 (by decide) dX4_digest_128 ?_
  refine r_lmulZ hX dX4_digest_131 ?_
  refine r_aload_n hX dX4_digest_132 rfl rfl ?_
  refine r_iload_n hX dX4_digest_133 rfl rfl ?_
  refine r_iload hX dX4_digest_134 rfl ?_
  refine r_callV hX (z_X4_told ad ae cs K S 0 rest hS _ 3 (by omega) (by omega) _ (by omega)) kv_X4_193 14 rfl rfl rfl rfl (Nat.le_of_ble_eq_true rfl) ⟨(Nat.le_of_ble_eq_true rfl), (Nat.le_of_ble_eq_true rfl)⟩ ⟨(Nat.le_of_ble_eq_true rfl), (Nat.le_of_ble_eq_true rfl)⟩ dX4_digest_136 (fun _ _ z => False.elim z) (fun v9 ws9 h49 => ?_)
  obtain ⟨rfl, hw9⟩ := h49
  subst ws9
  dsimp only [mPush]
  refine r_i2lZ hX dX4_digest_139 (hbD3 _) ?_
  refine r_laddZ hX dX4_digest_140 ?_
  refine r_lstore_n hX dX4_digest_141 rfl (by decide) rfl ?_
  refine r_iincZ (z := 1) (y := 2) hX dX4_digest_142 rfl (by decide) rfl rfl ?_
  refine r_goto (tgt := 120) hX dX4_digest_145 (by decide) ?_
  refine r_iload hX dX4_digest_120 rfl ?_
  refine r_bipushZ hX dX4_digest_122 (by decide) ?_
  refine r_icmp_gtZ (tgt := 148) hX dX4_digest_124 (by decide) (by decide) (by decide) (fun q => absurd q (by decide)) (fun _ => ?_)
  refine r_lload_n hX dX4_digest_127 rfl rfl ?_
  refine r_ldc2Z (z := 31) hX kc_X4_227 (by decide) dX4_digest_128 ?_
  refine r_lmulZ hX dX4_digest_131 ?_
  refine r_aload_n hX dX4_digest_132 rfl rfl ?_
  refine r_iload_n hX dX4_digest_133 rfl rfl ?_
  refine r_iload hX dX4_digest_134 rfl ?_
  refine r_callV hX (z_X4_told ad ae cs K S 0 rest hS _ 3 (by omega) (by omega) _ (by omega)) kv_X4_193 14 rfl rfl rfl rfl (Nat.le_of_ble_eq_true rfl) ⟨(Nat.le_of_ble_eq_true rfl), (Nat.le_of_ble_eq_true rfl)⟩ ⟨(Nat.le_of_ble_eq_true rfl), (Nat.le_of_ble_eq_true rfl)⟩ dX4_digest_136 (fun _ _ z => False.elim z) (fun v9 ws9 h50 => ?_)
  obtain ⟨rfl, hw9⟩ := h50
  subst ws9
  dsimp only [mPush]
  refine r_i2lZ hX dX4_digest_139 (hbD3 _) ?_
  refine r_laddZ hX dX4_digest_140 ?_
  refine r_lstore_n hX dX4_digest_141 rfl (by decide) rfl ?_
  refine r_iincZ (z := 1) (y := 3) hX dX4_digest_142 rfl (by decide) rfl rfl ?_
  refine r_goto (tgt := 120) hX dX4_digest_145 (by decide) ?_
  refine r_iload hX dX4_digest_120 rfl ?_
  refine r_bipushZ hX dX4_digest_122 (by decide) ?_
  refine r_icmp_gtZ (tgt := 148) hX dX4_digest_124 (by decide) (by decide) (by decide) (fun q => absurd q (by decide)) (fun _ => ?_)
  refine r_lload_n hX dX4_digest_127 rfl rfl ?_
  refine r_ldc2Z (z := 31) hX kc_X4_227 (by decide) dX4_digest_128 ?_
  refine r_lmulZ hX dX4_digest_131 ?_
  refine r_aload_n hX dX4_digest_132 rfl rfl ?_
  refine r_iload_n hX dX4_digest_133 rfl rfl ?_
  refine r_iload hX dX4_digest_134 rfl ?_
  refine r_callV hX (z_X4_told ad ae cs K S 0 rest hS _ 3 (by omega) (by omega) _ (by omega)) kv_X4_193 14 rfl rfl rfl rfl (Nat.le_of_ble_eq_true rfl) ⟨(Nat.le_of_ble_eq_true rfl), (Nat.le_of_ble_eq_true rfl)⟩ ⟨(Nat.le_of_ble_eq_true rfl), (Nat.le_of_ble_eq_true rfl)⟩ dX4_digest_136 (fun _ _ z => False.elim z) (fun v9 ws9 h51 => ?_)
  obtain ⟨rfl, hw9⟩ := h51
  subst ws9
  dsimp only [mPush]
  refine r_i2lZ hX dX4_digest_139 (hbD3 _) ?_
  refine r_laddZ hX dX4_digest_140 ?_
  refine r_lstore_n hX dX4_digest_141 rfl (by decide) rfl ?_
  refine r_iincZ (z := 1) (y := 4) hX dX4_digest_142 rfl (by decide) rfl rfl ?_
  refine r_goto (tgt := 120) hX dX4_digest_145 (by decide) ?_
  refine r_iload hX dX4_digest_120 rfl ?_
  refine r_bipushZ hX dX4_digest_122 (by decide) ?_
  refine r_icmp_gtZ (tgt := 148) hX dX4_digest_124 (by decide) (by decide) (by decide) (fun q => absurd q (by decide)) (fun _ => ?_)
  refine r_lload_n hX dX4_digest_127 rfl rfl ?_
  refine r_ldc2Z (z := 31) hX kc_X4_227 (by decide) dX4_digest_128 ?_
  refine r_lmulZ hX dX4_digest_131 ?_
  refine r_aload_n hX dX4_digest_132 rfl rfl ?_
  refine r_iload_n hX dX4_digest_133 rfl rfl ?_
  refine r_iload hX dX4_digest_134 rfl ?_
  refine r_callV hX (z_X4_told ad ae cs K S 0 rest hS _ 3 (by omega) (by omega) _ (by omega)) kv_X4_193 14 rfl rfl rfl rfl (Nat.le_of_ble_eq_true rfl) ⟨(Nat.le_of_ble_eq_true rfl), (Nat.le_of_ble_eq_true rfl)⟩ ⟨(Nat.le_of_ble_eq_true rfl), (Nat.le_of_ble_eq_true rfl)⟩ dX4_digest_136 (fun _ _ z => False.elim z) (fun v9 ws9 h52 => ?_)
  obtain ⟨rfl, hw9⟩ := h52
  subst ws9
  dsimp only [mPush]
  refine r_i2lZ hX dX4_digest_139 (hbD3 _) ?_
  refine r_laddZ hX dX4_digest_140 ?_
  refine r_lstore_n hX dX4_digest_141 rfl (by decide) rfl ?_
  refine r_iincZ (z := 1) (y := 5) hX dX4_digest_142 rfl (by decide) rfl rfl ?_
  refine r_goto (tgt := 120) hX dX4_digest_145 (by decide) ?_
  refine r_iload hX dX4_digest_120 rfl ?_
  refine r_bipushZ hX dX4_digest_122 (by decide) ?_
  refine r_icmp_gtZ (tgt := 148) hX dX4_digest_124 (by decide) (by decide) (by decide) (fun q => absurd q (by decide)) (fun _ => ?_)
  refine r_lload_n hX dX4_digest_127 rfl rfl ?_
  refine r_ldc2Z (z := 31) hX kc_X4_227 (by decide) dX4_digest_128 ?_
  refine r_lmulZ hX dX4_digest_131 ?_
  refine r_aload_n hX dX4_digest_132 rfl rfl ?_
  refine r_iload_n hX dX4_digest_133 rfl rfl ?_
  refine r_iload hX dX4_digest_134 rfl ?_
  refine r_callV hX (z_X4_told ad ae cs K S 0 rest hS _ 3 (by omega) (by omega) _ (by omega)) kv_X4_193 14 rfl rfl rfl rfl (Nat.le_of_ble_eq_true rfl) ⟨(Nat.le_of_ble_eq_true rfl), (Nat.le_of_ble_eq_true rfl)⟩ ⟨(Nat.le_of_ble_eq_true rfl), (Nat.le_of_ble_eq_true rfl)⟩ dX4_digest_136 (fun _ _ z => False.elim z) (fun v9 ws9 h53 => ?_)
  obtain ⟨rfl, hw9⟩ := h53
  subst ws9
  dsimp only [mPush]
  refine r_i2lZ hX dX4_digest_139 (hbD3 _) ?_
  refine r_laddZ hX dX4_digest_140 ?_
  refine r_lstore_n hX dX4_digest_141 rfl (by decide) rfl ?_
  refine r_iincZ (z := 1) (y := 6) hX dX4_digest_142 rfl (by decide) rfl rfl ?_
  refine r_goto (tgt := 120) hX dX4_digest_145 (by decide) ?_
  refine r_iload hX dX4_digest_120 rfl ?_
  refine r_bipushZ hX dX4_digest_122 (by decide) ?_
  refine r_icmp_gtZ (tgt := 148) hX dX4_digest_124 (by decide) (by decide) (by decide) (fun q => absurd q (by decide)) (fun _ => ?_)
  refine r_lload_n hX dX4_digest_127 rfl rfl ?_
  refine r_ldc2Z (z := 31) hX kc_X4_227 (by decide) dX4_digest_128 ?_
  refine r_lmulZ hX dX4_digest_131 ?_
  refine r_aload_n hX dX4_digest_132 rfl rfl ?_
  refine r_iload_n hX dX4_digest_133 rfl rfl ?_
  refine r_iload hX dX4_digest_134 rfl ?_
  refine r_callV hX (z_X4_told ad ae cs K S 0 rest hS _ 3 (by omega) (by omega) _ (by omega)) kv_X4_193 14 rfl rfl rfl rfl (Nat.le_of_ble_eq_true rfl) ⟨(Nat.le_of_ble_eq_true rfl), (Nat.le_of_ble_eq_true rfl)⟩ ⟨(Nat.le_of_ble_eq_true rfl), (Nat.le_of_ble_eq_true rfl)⟩ dX4_digest_136 (fun _ _ z => False.elim z) (fun v9 ws9 h54 => ?_)
  obtain ⟨rfl, hw9⟩ := h54
  subst ws9
  dsimp only [mPush]
  refine r_i2lZ hX dX4_digest_139 (hbD3 _) ?_
  refine r_laddZ hX dX4_digest_140 ?_
  refine r_lstore_n hX dX4_digest_141 rfl (by decide) rfl ?_
  refine r_iincZ (z := 1) (y := 7) hX dX4_digest_142 rfl (by decide) rfl rfl ?_
  refine r_goto (tgt := 120) hX dX4_digest_145 (by decide) ?_
  refine r_iload hX dX4_digest_120 rfl ?_
  refine r_bipushZ hX dX4_digest_122 (by decide) ?_
  refine r_icmp_gtZ (tgt := 148) hX dX4_digest_124 (by decide) (by decide) (by decide) (fun q => absurd q (by decide)) (fun _ => ?_)
  refine r_lload_n hX dX4_digest_127 rfl rfl ?_
  refine r_ldc2Z (z := 31) hX kc_X4_227 (by decide) dX4_digest_128 ?_
  refine r_lmulZ hX dX4_digest_131 ?_
  refine r_aload_n hX dX4_digest_132 rfl rfl ?_
  refine r_iload_n hX dX4_digest_133 rfl rfl ?_
  refine r_iload hX dX4_digest_134 rfl ?_
  refine r_callV hX (z_X4_told ad ae cs K S 0 rest hS _ 3 (by omega) (by omega) _ (by omega)) kv_X4_193 14 rfl rfl rfl rfl (Nat.le_of_ble_eq_true rfl) ⟨(Nat.le_of_ble_eq_true rfl), (Nat.le_of_ble_eq_true rfl)⟩ ⟨(Nat.le_of_ble_eq_true rfl), (Nat.le_of_ble_eq_true rfl)⟩ dX4_digest_136 (fun _ _ z => False.elim z) (fun v9 ws9 h55 => ?_)
  obtain ⟨rfl, hw9⟩ := h55
  subst ws9
  dsimp only [mPush]
  refine r_i2lZ hX dX4_digest_139 (hbD3 _) ?_
  refine r_laddZ hX dX4_digest_140 ?_
  refine r_lstore_n hX dX4_digest_141 rfl (by decide) rfl ?_
  refine r_iincZ (z := 1) (y := 8) hX dX4_digest_142 rfl (by decide) rfl rfl ?_
  refine r_goto (tgt := 120) hX dX4_digest_145 (by decide) ?_
  refine r_iload hX dX4_digest_120 rfl ?_
  refine r_bipushZ hX dX4_digest_122 (by decide) ?_
  refine r_icmp_gtZ (tgt := 148) hX dX4_digest_124 (by decide) (by decide) (by decide) (fun q => absurd q (by decide)) (fun _ => ?_)
  refine r_lload_n hX dX4_digest_127 rfl rfl ?_
  refine r_ldc2Z (z := 31) hX kc_X4_227 (by decide) dX4_digest_128 ?_
  refine r_lmulZ hX dX4_digest_131 ?_
  refine r_aload_n hX dX4_digest_132 rfl rfl ?_
  refine r_iload_n hX dX4_digest_133 rfl rfl ?_
  refine r_iload hX dX4_digest_134 rfl ?_
  refine r_callV hX (z_X4_told ad ae cs K S 0 rest hS _ 3 (by omega) (by omega) _ (by omega)) kv_X4_193 14 rfl rfl rfl rfl (Nat.le_of_ble_eq_true rfl) ⟨(Nat.le_of_ble_eq_true rfl), (Nat.le_of_ble_eq_true rfl)⟩ ⟨(Nat.le_of_ble_eq_true rfl), (Nat.le_of_ble_eq_true rfl)⟩ dX4_digest_136 (fun _ _ z => False.elim z) (fun v9 ws9 h56 => ?_)
  obtain ⟨rfl, hw9⟩ := h56
  subst ws9
  dsimp only [mPush]
  refine r_i2lZ hX dX4_digest_139 (hbD3 _) ?_
  refine r_laddZ hX dX4_digest_140 ?_
  refine r_lstore_n hX dX4_digest_141 rfl (by decide) rfl ?_
  refine r_iincZ (z := 1) (y := 9) hX dX4_digest_142 rfl (by decide) rfl rfl ?_
  refine r_goto (tgt := 120) hX dX4_digest_145 (by decide) ?_
  refine r_iload hX dX4_digest_120 rfl ?_
  refine r_bipushZ hX dX4_digest_122 (by decide) ?_
  refine r_icmp_gtZ (tgt := 148) hX dX4_digest_124 (by decide) (by decide) (by decide) (fun q => absurd q (by decide)) (fun _ => ?_)
  refine r_lload_n hX dX4_digest_127 rfl rfl ?_
  refine r_ldc2Z (z := 31) hX kc_X4_227 (by decide) dX4_digest_128 ?_
  refine r_lmulZ hX dX4_digest_131 ?_
  refine r_aload_n hX dX4_digest_132 rfl rfl ?_
  refine r_iload_n hX dX4_digest_133 rfl rfl ?_
  refine r_iload hX dX4_digest_134 rfl ?_
  refine r_callV hX (z_X4_told ad ae cs K S 0 rest hS _ 3 (by omega) (by omega) _ (by omega)) kv_X4_193 14 rfl rfl rfl rfl (Nat.le_of_ble_eq_true rfl) ⟨(Nat.le_of_ble_eq_true rfl), (Nat.le_of_ble_eq_true rfl)⟩ ⟨(Nat.le_of_ble_eq_true rfl), (Nat.le_of_ble_eq_true rfl)⟩ dX4_digest_136 (fun _ _ z => False.elim z) (fun v9 ws9 h57 => ?_)
  obtain ⟨rfl, hw9⟩ := h57
  subst ws9
  dsimp only [mPush]
  refine r_i2lZ hX dX4_digest_139 (hbD3 _) ?_
  refine r_laddZ hX dX4_digest_140 ?_
  refine r_lstore_n hX dX4_digest_141 rfl (by decide) rfl ?_
  refine r_iincZ (z := 1) (y := 10) hX dX4_digest_142 rfl (by decide) rfl rfl ?_
  refine r_goto (tgt := 120) hX dX4_digest_145 (by decide) ?_
  refine r_iload hX dX4_digest_120 rfl ?_
  refine r_bipushZ hX dX4_digest_122 (by decide) ?_
  refine r_icmp_gtZ (tgt := 148) hX dX4_digest_124 (by decide) (by decide) (by decide) (fun q => absurd q (by decide)) (fun _ => ?_)
  refine r_lload_n hX dX4_digest_127 rfl rfl ?_
  refine r_ldc2Z (z := 31) hX kc_X4_227 (by decide) dX4_digest_128 ?_
  refine r_lmulZ hX dX4_digest_131 ?_
  refine r_aload_n hX dX4_digest_132 rfl rfl ?_
  refine r_iload_n hX dX4_digest_133 rfl rfl ?_
  refine r_iload hX dX4_digest_134 rfl ?_
  refine r_callV hX (z_X4_told ad ae cs K S 0 rest hS _ 3 (by omega) (by omega) _ (by omega)) kv_X4_193 14 rfl rfl rfl rfl (Nat.le_of_ble_eq_true rfl) ⟨(Nat.le_of_ble_eq_true rfl), (Nat.le_of_ble_eq_true rfl)⟩ ⟨(Nat.le_of_ble_eq_true rfl), (Nat.le_of_ble_eq_true rfl)⟩ dX4_digest_136 (fun _ _ z => False.elim z) (fun v9 ws9 h58 => ?_)
  obtain ⟨rfl, hw9⟩ := h58
  subst ws9
  dsimp only [mPush]
  refine r_i2lZ hX dX4_digest_139 (hbD3 _) ?_
  refine r_laddZ hX dX4_digest_140 ?_
  refine r_lstore_n hX dX4_digest_141 rfl (by decide) rfl ?_
  refine r_iincZ (z := 1) (y := 11) hX dX4_digest_142 rfl (by decide) rfl rfl ?_
  refine r_goto (tgt := 120) hX dX4_digest_145 (by decide) ?_
  refine r_iload hX dX4_digest_120 rfl ?_
  refine r_bipushZ hX dX4_digest_122 (by decide) ?_
  refine r_icmp_gtZ (tgt := 148) hX dX4_digest_124 (by decide) (by decide) (by decide) (fun q => absurd q (by decide)) (fun _ => ?_)
  refine r_lload_n hX dX4_digest_127 rfl rfl ?_
  refine r_ldc2Z (z := 31) hX kc_X4_227 (by decide) dX4_digest_128 ?_
  refine r_lmulZ hX dX4_digest_131 ?_
  refine r_aload_n hX dX4_digest_132 rfl rfl ?_
  refine r_iload_n hX dX4_digest_133 rfl rfl ?_
  refine r_iload hX dX4_digest_134 rfl ?_
  refine r_callV hX (z_X4_told ad ae cs K S 0 rest hS _ 3 (by omega) (by omega) _ (by omega)) kv_X4_193 14 rfl rfl rfl rfl (Nat.le_of_ble_eq_true rfl) ⟨(Nat.le_of_ble_eq_true rfl), (Nat.le_of_ble_eq_true rfl)⟩ ⟨(Nat.le_of_ble_eq_true rfl), (Nat.le_of_ble_eq_true rfl)⟩ dX4_digest_136 (fun _ _ z => False.elim z) (fun v9 ws9 h59 => ?_)
  obtain ⟨rfl, hw9⟩ := h59
  subst ws9
  dsimp only [mPush]
  refine r_i2lZ hX dX4_digest_139 (hbD3 _) ?_
  refine r_laddZ hX dX4_digest_140 ?_
  refine r_lstore_n hX dX4_digest_141 rfl (by decide) rfl ?_
  refine r_iincZ (z := 1) (y := 12) hX dX4_digest_142 rfl (by decide) rfl rfl ?_
  refine r_goto (tgt := 120) hX dX4_digest_145 (by decide) ?_
  refine r_iload hX dX4_digest_120 rfl ?_
  refine r_bipushZ hX dX4_digest_122 (by decide) ?_
  refine r_icmp_gtZ (tgt := 148) hX dX4_digest_124 (by decide) (by decide) (by decide) (fun q => absurd q (by decide)) (fun _ => ?_)
  refine r_lload_n hX dX4_digest_127 rfl rfl ?_
  refine r_ldc2Z (z := 31) hX kc_X4_227 (by decide) dX4_digest_128 ?_
  refine r_lmulZ hX dX4_digest_131 ?_
  refine r_aload_n hX dX4_digest_132 rfl rfl ?_
  refine r_iload_n hX dX4_digest_133 rfl rfl ?_
  refine r_iload hX dX4_digest_134 rfl ?_
  refine r_callV hX (z_X4_told ad ae cs K S 0 rest hS _ 3 (by omega) (by omega) _ (by omega)) kv_X4_193 14 rfl rfl rfl rfl (Nat.le_of_ble_eq_true rfl) ⟨(Nat.le_of_ble_eq_true rfl), (Nat.le_of_ble_eq_true rfl)⟩ ⟨(Nat.le_of_ble_eq_true rfl), (Nat.le_of_ble_eq_true rfl)⟩ dX4_digest_136 (fun _ _ z => False.elim z) (fun v9 ws9 h60 => ?_)
  obtain ⟨rfl, hw9⟩ := h60
  subst ws9
  dsimp only [mPush]
  refine r_i2lZ hX dX4_digest_139 (hbD3 _) ?_
  refine r_laddZ hX dX4_digest_140 ?_
  refine r_lstore_n hX dX4_digest_141 rfl (by decide) rfl ?_
  refine r_iincZ (z := 1) (y := 13) hX dX4_digest_142 rfl (by decide) rfl rfl ?_
  refine r_goto (tgt := 120) hX dX4_digest_145 (by decide) ?_
  refine r_iload hX dX4_digest_120 rfl ?_
  refine r_bipushZ hX dX4_digest_122 (by decide) ?_
  refine r_icmp_gtZ (tgt := 148) hX dX4_digest_124 (by decide) (by decide) (by decide) (fun _ => ?_) (fun q => absurd (by decide) q)
  refine r_iincZ (z := 1) (y := 4) hX dX4_digest_148 rfl (by decide) rfl rfl ?_
  refine r_goto (tgt := 112) hX dX4_digest_151 (by decide) ?_
  refine r_iload_n hX dX4_digest_112 rfl rfl ?_
  refine r_iconstZ hX dX4_digest_113 ?_
  refine r_icmp_geZ (tgt := 154) hX dX4_digest_114 (by decide) (by decide) (by decide) (fun _ => ?_) (fun q => absurd (by decide) q)
  refine r_iconstZ hX dX4_digest_154 ?_
  refine r_istore_n hX dX4_digest_155 rfl (by decide) rfl ?_
  refine r_iload_n hX dX4_digest_156 rfl rfl ?_
  refine r_iconstZ hX dX4_digest_157 ?_
  refine r_icmp_geZ (tgt := 197) hX dX4_digest_158 (by decide) (by decide) (by decide) (fun q => absurd q (by decide)) (fun _ => ?_)
  refine r_iconstZ hX dX4_digest_161 ?_
  refine r_istore hX dX4_digest_162 (by decide) rfl ?_
  refine r_iload hX dX4_digest_164 rfl ?_
  refine r_iconstZ hX dX4_digest_166 ?_
  refine r_icmp_gtZ (tgt := 191) hX dX4_digest_167 (by decide) (by decide) (by decide) (fun q => absurd q (by decide)) (fun _ => ?_)
  refine r_lload_n hX dX4_digest_170 rfl rfl ?_
  refine r_ldc2Z (z := 31) hX kc_X4_227 (by decide) dX4_digest_171 ?_
  refine r_lmulZ hX dX4_digest_174 ?_
  refine r_aload_n hX dX4_digest_175 rfl rfl ?_
  refine r_iload_n hX dX4_digest_176 rfl rfl ?_
  refine r_iload hX dX4_digest_177 rfl ?_
  refine r_callV hX (z_X4_clockTold ad ae cs K S 0 rest hS _ 0 (by omega) (by omega) _ (by omega)) kv_X4_216 14 rfl rfl rfl rfl (Nat.le_of_ble_eq_true rfl) ⟨(Nat.le_of_ble_eq_true rfl), (Nat.le_of_ble_eq_true rfl)⟩ ⟨(Nat.le_of_ble_eq_true rfl), (Nat.le_of_ble_eq_true rfl)⟩ dX4_digest_179 (fun _ _ z => False.elim z) (fun v9 ws9 h61 => ?_)
  obtain ⟨rfl, hw9⟩ := h61
  subst ws9
  dsimp only [mPush]
  refine r_i2lZ hX dX4_digest_182 (hbC0 _) ?_
  refine r_laddZ hX dX4_digest_183 ?_
  refine r_lstore_n hX dX4_digest_184 rfl (by decide) rfl ?_
  refine r_iincZ (z := 1) (y := 1) hX dX4_digest_185 rfl (by decide) rfl rfl ?_
  refine r_goto (tgt := 164) hX dX4_digest_188 (by decide) ?_
  refine r_iload hX dX4_digest_164 rfl ?_
  refine r_iconstZ hX dX4_digest_166 ?_
  refine r_icmp_gtZ (tgt := 191) hX dX4_digest_167 (by decide) (by decide) (by decide) (fun q => absurd q (by decide)) (fun _ => ?_)
  refine r_lload_n hX dX4_digest_170 rfl rfl ?_
  refine r_ldc2Z (z := 31) hX kc_X4_227 (by decide) dX4_digest_171 ?_
  refine r_lmulZ hX dX4_digest_174 ?_
  refine r_aload_n hX dX4_digest_175 rfl rfl ?_
  refine r_iload_n hX dX4_digest_176 rfl rfl ?_
  refine r_iload hX dX4_digest_177 rfl ?_
  refine r_callV hX (z_X4_clockTold ad ae cs K S 0 rest hS _ 0 (by omega) (by omega) _ (by omega)) kv_X4_216 14 rfl rfl rfl rfl (Nat.le_of_ble_eq_true rfl) ⟨(Nat.le_of_ble_eq_true rfl), (Nat.le_of_ble_eq_true rfl)⟩ ⟨(Nat.le_of_ble_eq_true rfl), (Nat.le_of_ble_eq_true rfl)⟩ dX4_digest_179 (fun _ _ z => False.elim z) (fun v9 ws9 h62 => ?_)
  obtain ⟨rfl, hw9⟩ := h62
  subst ws9
  dsimp only [mPush]
  refine r_i2lZ hX dX4_digest_182 (hbC0 _) ?_
  refine r_laddZ hX dX4_digest_183 ?_
  refine r_lstore_n hX dX4_digest_184 rfl (by decide) rfl ?_
  refine r_iincZ (z := 1) (y := 2) hX dX4_digest_185 rfl (by decide) rfl rfl ?_
  refine r_goto (tgt := 164) hX dX4_digest_188 (by decide) ?_
  refine r_iload hX dX4_digest_164 rfl ?_
  refine r_iconstZ hX dX4_digest_166 ?_
  refine r_icmp_gtZ (tgt := 191) hX dX4_digest_167 (by decide) (by decide) (by decide) (fun q => absurd q (by decide)) (fun _ => ?_)
  refine r_lload_n hX dX4_digest_170 rfl rfl ?_
  refine r_ldc2Z (z := 31) hX kc_X4_227 (by decide) dX4_digest_171 ?_
  refine r_lmulZ hX dX4_digest_174 ?_
  refine r_aload_n hX dX4_digest_175 rfl rfl ?_
  refine r_iload_n hX dX4_digest_176 rfl rfl ?_
  refine r_iload hX dX4_digest_177 rfl ?_
  refine r_callV hX (z_X4_clockTold ad ae cs K S 0 rest hS _ 0 (by omega) (by omega) _ (by omega)) kv_X4_216 14 rfl rfl rfl rfl (Nat.le_of_ble_eq_true rfl) ⟨(Nat.le_of_ble_eq_true rfl), (Nat.le_of_ble_eq_true rfl)⟩ ⟨(Nat.le_of_ble_eq_true rfl), (Nat.le_of_ble_eq_true rfl)⟩ dX4_digest_179 (fun _ _ z => False.elim z) (fun v9 ws9 h63 => ?_)
  obtain ⟨rfl, hw9⟩ := h63
  subst ws9
  dsimp only [mPush]
  refine r_i2lZ hX dX4_digest_182 (hbC0 _) ?_
  refine r_laddZ hX dX4_digest_183 ?_
  refine r_lstore_n hX dX4_digest_184 rfl (by decide) rfl ?_
  refine r_iincZ (z := 1) (y := 3) hX dX4_digest_185 rfl (by decide) rfl rfl ?_
  refine r_goto (tgt := 164) hX dX4_digest_188 (by decide) ?_
  refine r_iload hX dX4_digest_164 rfl ?_
  refine r_iconstZ hX dX4_digest_166 ?_
  refine r_icmp_gtZ (tgt := 191) hX dX4_digest_167 (by decide) (by decide) (by decide) (fun q => absurd q (by decide)) (fun _ => ?_)
  refine r_lload_n hX dX4_digest_170 rfl rfl ?_
  refine r_ldc2Z (z := 31) hX kc_X4_227 (by decide) dX4_digest_171 ?_
  refine r_lmulZ hX dX4_digest_174 ?_
  refine r_aload_n hX dX4_digest_175 rfl rfl ?_
  refine r_iload_n hX dX4_digest_176 rfl rfl ?_
  refine r_iload hX dX4_digest_177 rfl ?_
  refine r_callV hX (z_X4_clockTold ad ae cs K S 0 rest hS _ 0 (by omega) (by omega) _ (by omega)) kv_X4_216 14 rfl rfl rfl rfl (Nat.le_of_ble_eq_true rfl) ⟨(Nat.le_of_ble_eq_true rfl), (Nat.le_of_ble_eq_true rfl)⟩ ⟨(Nat.le_of_ble_eq_true rfl), (Nat.le_of_ble_eq_true rfl)⟩ dX4_digest_179 (fun _ _ z => False.elim z) (fun v9 ws9 h64 => ?_)
  obtain ⟨rfl, hw9⟩ := h64
  subst ws9
  dsimp only [mPush]
  refine r_i2lZ hX dX4_digest_182 (hbC0 _) ?_
  refine r_laddZ hX dX4_digest_183 ?_
  refine r_lstore_n hX dX4_digest_184 rfl (by decide) rfl ?_
  refine r_iincZ (z := 1) (y := 4) hX dX4_digest_185 rfl (by decide) rfl rfl ?_
  refine r_goto (tgt := 164) hX dX4_digest_188 (by decide) ?_
  refine r_iload hX dX4_digest_164 rfl ?_
  refine r_iconstZ hX dX4_digest_166 ?_
  refine r_icmp_gtZ (tgt := 191) hX dX4_digest_167 (by decide) (by decide) (by decide) (fun q => absurd q (by decide)) (fun _ => ?_)
  refine r_lload_n hX dX4_digest_170 rfl rfl ?_
  refine r_ldc2Z (z := 31) hX kc_X4_227 (by decide) dX4_digest_171 ?_
  refine r_lmulZ hX dX4_digest_174 ?_
  refine r_aload_n hX dX4_digest_175 rfl rfl ?_
  refine r_iload_n hX dX4_digest_176 rfl rfl ?_
  refine r_iload hX dX4_digest_177 rfl ?_
  refine r_callV hX (z_X4_clockTold ad ae cs K S 0 rest hS _ 0 (by omega) (by omega) _ (by omega)) kv_X4_216 14 rfl rfl rfl rfl (Nat.le_of_ble_eq_true rfl) ⟨(Nat.le_of_ble_eq_true rfl), (Nat.le_of_ble_eq_true rfl)⟩ ⟨(Nat.le_of_ble_eq_true rfl), (Nat.le_of_ble_eq_true rfl)⟩ dX4_digest_179 (fun _ _ z => False.elim z) (fun v9 ws9 h65 => ?_)
  obtain ⟨rfl, hw9⟩ := h65
  subst ws9
  dsimp only [mPush]
  refine r_i2lZ hX dX4_digest_182 (hbC0 _) ?_
  refine r_laddZ hX dX4_digest_183 ?_
  refine r_lstore_n hX dX4_digest_184 rfl (by decide) rfl ?_
  refine r_iincZ (z := 1) (y := 5) hX dX4_digest_185 rfl (by decide) rfl rfl ?_
  refine r_goto (tgt := 164) hX dX4_digest_188 (by decide) ?_
  refine r_iload hX dX4_digest_164 rfl ?_
  refine r_iconstZ hX dX4_digest_166 ?_
  refine r_icmp_gtZ (tgt := 191) hX dX4_digest_167 (by decide) (by decide) (by decide) (fun q => absurd q (by decide)) (fun _ => ?_)
  refine r_lload_n hX dX4_digest_170 rfl rfl ?_
  refine r_ldc2Z (z := 31) hX kc_X4_227 (by decide) dX4_digest_171 ?_
  refine r_lmulZ hX dX4_digest_174 ?_
  refine r_aload_n hX dX4_digest_175 rfl rfl ?_
  refine r_iload_n hX dX4_digest_176 rfl rfl ?_
  refine r_iload hX dX4_digest_177 rfl ?_
  refine r_callV hX (z_X4_clockTold ad ae cs K S 0 rest hS _ 0 (by omega) (by omega) _ (by omega)) kv_X4_216 14 rfl rfl rfl rfl (Nat.le_of_ble_eq_true rfl) ⟨(Nat.le_of_ble_eq_true rfl), (Nat.le_of_ble_eq_true rfl)⟩ ⟨(Nat.le_of_ble_eq_true rfl), (Nat.le_of_ble_eq_true rfl)⟩ dX4_digest_179 (fun _ _ z => False.elim z) (fun v9 ws9 h66 => ?_)
  obtain ⟨rfl, hw9⟩ := h66
  subst ws9
  dsimp only [mPush]
  refine r_i2lZ hX dX4_digest_182 (hbC0 _) ?_
  refine r_laddZ hX dX4_digest_183 ?_
  refine r_lstore_n hX dX4_digest_184 rfl (by decide) rfl ?_
  refine r_iincZ (z := 1) (y := 6) hX dX4_digest_185 rfl (by decide) rfl rfl ?_
  refine r_goto (tgt := 164) hX dX4_digest_188 (by decide) ?_
  refine r_iload hX dX4_digest_164 rfl ?_
  refine r_iconstZ hX dX4_digest_166 ?_
  refine r_icmp_gtZ (tgt := 191) hX dX4_digest_167 (by decide) (by decide) (by decide) (fun _ => ?_) (fun q => absurd (by decide) q)
  refine r_iincZ (z := 1) (y := 1) hX dX4_digest_191 rfl (by decide) rfl rfl ?_
  refine r_goto (tgt := 156) hX dX4_digest_194 (by decide) ?_
  refine r_iload_n hX dX4_digest_156 rfl rfl ?_
  refine r_iconstZ hX dX4_digest_157 ?_
  refine r_icmp_geZ (tgt := 197) hX dX4_digest_158 (by decide) (by decide) (by decide) (fun q => absurd q (by decide)) (fun _ => ?_)
  refine r_iconstZ hX dX4_digest_161 ?_
  refine r_istore hX dX4_digest_162 (by decide) rfl ?_
  refine r_iload hX dX4_digest_164 rfl ?_
  refine r_iconstZ hX dX4_digest_166 ?_
  refine r_icmp_gtZ (tgt := 191) hX dX4_digest_167 (by decide) (by decide) (by decide) (fun q => absurd q (by decide)) (fun _ => ?_)
  refine r_lload_n hX dX4_digest_170 rfl rfl ?_
  refine r_ldc2Z (z := 31) hX kc_X4_227 (by decide) dX4_digest_171 ?_
  refine r_lmulZ hX dX4_digest_174 ?_
  refine r_aload_n hX dX4_digest_175 rfl rfl ?_
  refine r_iload_n hX dX4_digest_176 rfl rfl ?_
  refine r_iload hX dX4_digest_177 rfl ?_
  refine r_callV hX (z_X4_clockTold ad ae cs K S 0 rest hS _ 1 (by omega) (by omega) _ (by omega)) kv_X4_216 14 rfl rfl rfl rfl (Nat.le_of_ble_eq_true rfl) ⟨(Nat.le_of_ble_eq_true rfl), (Nat.le_of_ble_eq_true rfl)⟩ ⟨(Nat.le_of_ble_eq_true rfl), (Nat.le_of_ble_eq_true rfl)⟩ dX4_digest_179 (fun _ _ z => False.elim z) (fun v9 ws9 h67 => ?_)
  obtain ⟨rfl, hw9⟩ := h67
  subst ws9
  dsimp only [mPush]
  refine r_i2lZ hX dX4_digest_182 (hbC1 _) ?_
  refine r_laddZ hX dX4_digest_183 ?_
  refine r_lstore_n hX dX4_digest_184 rfl (by decide) rfl ?_
  refine r_iincZ (z := 1) (y := 1) hX dX4_digest_185 rfl (by decide) rfl rfl ?_
  refine r_goto (tgt := 164) hX dX4_digest_188 (by decide) ?_
  refine r_iload hX dX4_digest_164 rfl ?_
  refine r_iconstZ hX dX4_digest_166 ?_
  refine r_icmp_gtZ (tgt := 191) hX dX4_digest_167 (by decide) (by decide) (by decide) (fun q => absurd q (by decide)) (fun _ => ?_)
  refine r_lload_n hX dX4_digest_170 rfl rfl ?_
  refine r_ldc2Z (z := 31) hX kc_X4_227 (by decide) dX4_digest_171 ?_
  refine r_lmulZ hX dX4_digest_174 ?_
  refine r_aload_n hX dX4_digest_175 rfl rfl ?_
  refine r_iload_n hX dX4_digest_176 rfl rfl ?_
  refine r_iload hX dX4_digest_177 rfl ?_
  refine r_callV hX (z_X4_clockTold ad ae cs K S 0 rest hS _ 1 (by omega) (by omega) _ (by omega)) kv_X4_216 14 rfl rfl rfl rfl (Nat.le_of_ble_eq_true rfl) ⟨(Nat.le_of_ble_eq_true rfl), (Nat.le_of_ble_eq_true rfl)⟩ ⟨(Nat.le_of_ble_eq_true rfl), (Nat.le_of_ble_eq_true rfl)⟩ dX4_digest_179 (fun _ _ z => False.elim z) (fun v9 ws9 h68 => ?_)
  obtain ⟨rfl, hw9⟩ := h68
  subst ws9
  dsimp only [mPush]
  refine r_i2lZ hX dX4_digest_182 (hbC1 _) ?_
  refine r_laddZ hX dX4_digest_183 ?_
  refine r_lstore_n hX dX4_digest_184 rfl (by decide) rfl ?_
  refine r_iincZ (z := 1) (y := 2) hX dX4_digest_185 rfl (by decide) rfl rfl ?_
  refine r_goto (tgt := 164) hX dX4_digest_188 (by decide) ?_
  refine r_iload hX dX4_digest_164 rfl ?_
  refine r_iconstZ hX dX4_digest_166 ?_
  refine r_icmp_gtZ (tgt := 191) hX dX4_digest_167 (by decide) (by decide) (by decide) (fun q => absurd q (by decide)) (fun _ => ?_)
  refine r_lload_n hX dX4_digest_170 rfl rfl ?_
  refine r_ldc2Z (z := 31) hX kc_X4_227 (by decide) dX4_digest_171 ?_
  refine r_lmulZ hX dX4_digest_174 ?_
  refine r_aload_n hX dX4_digest_175 rfl rfl ?_
  refine r_iload_n hX dX4_digest_176 rfl rfl ?_
  refine r_iload hX dX4_digest_177 rfl ?_
  refine r_callV hX (z_X4_clockTold ad ae cs K S 0 rest hS _ 1 (by omega) (by omega) _ (by omega)) kv_X4_216 14 rfl rfl rfl rfl (Nat.le_of_ble_eq_true rfl) ⟨(Nat.le_of_ble_eq_true rfl), (Nat.le_of_ble_eq_true rfl)⟩ ⟨(Nat.le_of_ble_eq_true rfl), (Nat.le_of_ble_eq_true rfl)⟩ dX4_digest_179 (fun _ _ z => False.elim z) (fun v9 ws9 h69 => ?_)
  obtain ⟨rfl, hw9⟩ := h69
  subst ws9
  dsimp only [mPush]
  refine r_i2lZ hX dX4_digest_182 (hbC1 _) ?_
  refine r_laddZ hX dX4_digest_183 ?_
  refine r_lstore_n hX dX4_digest_184 rfl (by decide) rfl ?_
  refine r_iincZ (z := 1) (y := 3) hX dX4_digest_185 rfl (by decide) rfl rfl ?_
  refine r_goto (tgt := 164) hX dX4_digest_188 (by decide) ?_
  refine r_iload hX dX4_digest_164 rfl ?_
  refine r_iconstZ hX dX4_digest_166 ?_
  refine r_icmp_gtZ (tgt := 191) hX dX4_digest_167 (by decide) (by decide) (by decide) (fun q => absurd q (by decide)) (fun _ => ?_)
  refine r_lload_n hX dX4_digest_170 rfl rfl ?_
  refine r_ldc2Z (z := 31) hX kc_X4_227 (by decide) dX4_digest_171 ?_
  refine r_lmulZ hX dX4_digest_174 ?_
  refine r_aload_n hX dX4_digest_175 rfl rfl ?_
  refine r_iload_n hX dX4_digest_176 rfl rfl ?_
  refine r_iload hX dX4_digest_177 rfl ?_
  refine r_callV hX (z_X4_clockTold ad ae cs K S 0 rest hS _ 1 (by omega) (by omega) _ (by omega)) kv_X4_216 14 rfl rfl rfl rfl (Nat.le_of_ble_eq_true rfl) ⟨(Nat.le_of_ble_eq_true rfl), (Nat.le_of_ble_eq_true rfl)⟩ ⟨(Nat.le_of_ble_eq_true rfl), (Nat.le_of_ble_eq_true rfl)⟩ dX4_digest_179 (fun _ _ z => False.elim z) (fun v9 ws9 h70 => ?_)
  obtain ⟨rfl, hw9⟩ := h70
  subst ws9
  dsimp only [mPush]
  refine r_i2lZ hX dX4_digest_182 (hbC1 _) ?_
  refine r_laddZ hX dX4_digest_183 ?_
  refine r_lstore_n hX dX4_digest_184 rfl (by decide) rfl ?_
  refine r_iincZ (z := 1) (y := 4) hX dX4_digest_185 rfl (by decide) rfl rfl ?_
  refine r_goto (tgt := 164) hX dX4_digest_188 (by decide) ?_
  refine r_iload hX dX4_digest_164 rfl ?_
  refine r_iconstZ hX dX4_digest_166 ?_
  refine r_icmp_gtZ (tgt := 191) hX dX4_digest_167 (by decide) (by decide) (by decide) (fun q => absurd q (by decide)) (fun _ => ?_)
  refine r_lload_n hX dX4_digest_170 rfl rfl ?_
  refine r_ldc2Z (z := 31) hX kc_X4_227 (by decide) dX4_digest_171 ?_
  refine r_lmulZ hX dX4_digest_174 ?_
  refine r_aload_n hX dX4_digest_175 rfl rfl ?_
  refine r_iload_n hX dX4_digest_176 rfl rfl ?_
  refine r_iload hX dX4_digest_177 rfl ?_
  refine r_callV hX (z_X4_clockTold ad ae cs K S 0 rest hS _ 1 (by omega) (by omega) _ (by omega)) kv_X4_216 14 rfl rfl rfl rfl (Nat.le_of_ble_eq_true rfl) ⟨(Nat.le_of_ble_eq_true rfl), (Nat.le_of_ble_eq_true rfl)⟩ ⟨(Nat.le_of_ble_eq_true rfl), (Nat.le_of_ble_eq_true rfl)⟩ dX4_digest_179 (fun _ _ z => False.elim z) (fun v9 ws9 h71 => ?_)
  obtain ⟨rfl, hw9⟩ := h71
  subst ws9
  dsimp only [mPush]
  refine r_i2lZ hX dX4_digest_182 (hbC1 _) ?_
  refine r_laddZ hX dX4_digest_183 ?_
  refine r_lstore_n hX dX4_digest_184 rfl (by decide) rfl ?_
  refine r_iincZ (z := 1) (y := 5) hX dX4_digest_185 rfl (by decide) rfl rfl ?_
  refine r_goto (tgt := 164) hX dX4_digest_188 (by decide) ?_
  refine r_iload hX dX4_digest_164 rfl ?_
  refine r_iconstZ hX dX4_digest_166 ?_
  refine r_icmp_gtZ (tgt := 191) hX dX4_digest_167 (by decide) (by decide) (by decide) (fun q => absurd q (by decide)) (fun _ => ?_)
  refine r_lload_n hX dX4_digest_170 rfl rfl ?_
  refine r_ldc2Z (z := 31) hX kc_X4_227 (by decide) dX4_digest_171 ?_
  refine r_lmulZ hX dX4_digest_174 ?_
  refine r_aload_n hX dX4_digest_175 rfl rfl ?_
  refine r_iload_n hX dX4_digest_176 rfl rfl ?_
  refine r_iload hX dX4_digest_177 rfl ?_
  refine r_callV hX (z_X4_clockTold ad ae cs K S 0 rest hS _ 1 (by omega) (by omega) _ (by omega)) kv_X4_216 14 rfl rfl rfl rfl (Nat.le_of_ble_eq_true rfl) ⟨(Nat.le_of_ble_eq_true rfl), (Nat.le_of_ble_eq_true rfl)⟩ ⟨(Nat.le_of_ble_eq_true rfl), (Nat.le_of_ble_eq_true rfl)⟩ dX4_digest_179 (fun _ _ z => False.elim z) (fun v9 ws9 h72 => ?_)
  obtain ⟨rfl, hw9⟩ := h72
  subst ws9
  dsimp only [mPush]
  refine r_i2lZ hX dX4_digest_182 (hbC1 _) ?_
  refine r_laddZ hX dX4_digest_183 ?_
  refine r_lstore_n hX dX4_digest_184 rfl (by decide) rfl ?_
  refine r_iincZ (z := 1) (y := 6) hX dX4_digest_185 rfl (by decide) rfl rfl ?_
  refine r_goto (tgt := 164) hX dX4_digest_188 (by decide) ?_
  refine r_iload hX dX4_digest_164 rfl ?_
  refine r_iconstZ hX dX4_digest_166 ?_
  refine r_icmp_gtZ (tgt := 191) hX dX4_digest_167 (by decide) (by decide) (by decide) (fun _ => ?_) (fun q => absurd (by decide) q)
  refine r_iincZ (z := 1) (y := 2) hX dX4_digest_191 rfl (by decide) rfl rfl ?_
  refine r_goto (tgt := 156) hX dX4_digest_194 (by decide) ?_
  refine r_iload_n hX dX4_digest_156 rfl rfl ?_
  refine r_iconstZ hX dX4_digest_157 ?_
  refine r_icmp_geZ (tgt := 197) hX dX4_digest_158 (by decide) (by decide) (by decide) (fun q => absurd q (by decide)) (fun _ => ?_)
  refine r_iconstZ hX dX4_digest_161 ?_
  refine r_istore hX dX4_digest_162 (by decide) rfl ?_
  refine r_iload hX dX4_digest_164 rfl ?_
  refine r_iconstZ hX dX4_digest_166 ?_
  refine r_icmp_gtZ (tgt := 191) hX dX4_digest_167 (by decide) (by decide) (by decide) (fun q => absurd q (by decide)) (fun _ => ?_)
  refine r_lload_n hX dX4_digest_170 rfl rfl ?_
  refine r_ldc2Z (z := 31) hX kc_X4_227 (by decide) dX4_digest_171 ?_
  refine r_lmulZ hX dX4_digest_174 ?_
  refine r_aload_n hX dX4_digest_175 rfl rfl ?_
  refine r_iload_n hX dX4_digest_176 rfl rfl ?_
  refine r_iload hX dX4_digest_177 rfl ?_
  refine r_callV hX (z_X4_clockTold ad ae cs K S 0 rest hS _ 2 (by omega) (by omega) _ (by omega)) kv_X4_216 14 rfl rfl rfl rfl (Nat.le_of_ble_eq_true rfl) ⟨(Nat.le_of_ble_eq_true rfl), (Nat.le_of_ble_eq_true rfl)⟩ ⟨(Nat.le_of_ble_eq_true rfl), (Nat.le_of_ble_eq_true rfl)⟩ dX4_digest_179 (fun _ _ z => False.elim z) (fun v9 ws9 h73 => ?_)
  obtain ⟨rfl, hw9⟩ := h73
  subst ws9
  dsimp only [mPush]
  refine r_i2lZ hX dX4_digest_182 (hbC2 _) ?_
  refine r_laddZ hX dX4_digest_183 ?_
  refine r_lstore_n hX dX4_digest_184 rfl (by decide) rfl ?_
  refine r_iincZ (z := 1) (y := 1) hX dX4_digest_185 rfl (by decide) rfl rfl ?_
  refine r_goto (tgt := 164) hX dX4_digest_188 (by decide) ?_
  refine r_iload hX dX4_digest_164 rfl ?_
  refine r_iconstZ hX dX4_digest_166 ?_
  refine r_icmp_gtZ (tgt := 191) hX dX4_digest_167 (by decide) (by decide) (by decide) (fun q => absurd q (by decide)) (fun _ => ?_)
  refine r_lload_n hX dX4_digest_170 rfl rfl ?_
  refine r_ldc2Z (z := 31) hX kc_X4_227 (by decide) dX4_digest_171 ?_
  refine r_lmulZ hX dX4_digest_174 ?_
  refine r_aload_n hX dX4_digest_175 rfl rfl ?_
  refine r_iload_n hX dX4_digest_176 rfl rfl ?_
  refine r_iload hX dX4_digest_177 rfl ?_
  refine r_callV hX (z_X4_clockTold ad ae cs K S 0 rest hS _ 2 (by omega) (by omega) _ (by omega)) kv_X4_216 14 rfl rfl rfl rfl (Nat.le_of_ble_eq_true rfl) ⟨(Nat.le_of_ble_eq_true rfl), (Nat.le_of_ble_eq_true rfl)⟩ ⟨(Nat.le_of_ble_eq_true rfl), (Nat.le_of_ble_eq_true rfl)⟩ dX4_digest_179 (fun _ _ z => False.elim z) (fun v9 ws9 h74 => ?_)
  obtain ⟨rfl, hw9⟩ := h74
  subst ws9
  dsimp only [mPush]
  refine r_i2lZ hX dX4_digest_182 (hbC2 _) ?_
  refine r_laddZ hX dX4_digest_183 ?_
  refine r_lstore_n hX dX4_digest_184 rfl (by decide) rfl ?_
  refine r_iincZ (z := 1) (y := 2) hX dX4_digest_185 rfl (by decide) rfl rfl ?_
  refine r_goto (tgt := 164) hX dX4_digest_188 (by decide) ?_
  refine r_iload hX dX4_digest_164 rfl ?_
  refine r_iconstZ hX dX4_digest_166 ?_
  refine r_icmp_gtZ (tgt := 191) hX dX4_digest_167 (by decide) (by decide) (by decide) (fun q => absurd q (by decide)) (fun _ => ?_)
  refine r_lload_n hX dX4_digest_170 rfl rfl ?_
  refine r_ldc2Z (z := 31) hX kc_X4_227 (by decide) dX4_digest_171 ?_
  refine r_lmulZ hX dX4_digest_174 ?_
  refine r_aload_n hX dX4_digest_175 rfl rfl ?_
  refine r_iload_n hX dX4_digest_176 rfl rfl ?_
  refine r_iload hX dX4_digest_177 rfl ?_
  refine r_callV hX (z_X4_clockTold ad ae cs K S 0 rest hS _ 2 (by omega) (by omega) _ (by omega)) kv_X4_216 14 rfl rfl rfl rfl (Nat.le_of_ble_eq_true rfl) ⟨(Nat.le_of_ble_eq_true rfl), (Nat.le_of_ble_eq_true rfl)⟩ ⟨(Nat.le_of_ble_eq_true rfl), (Nat.le_of_ble_eq_true rfl)⟩ dX4_digest_179 (fun _ _ z => False.elim z) (fun v9 ws9 h75 => ?_)
  obtain ⟨rfl, hw9⟩ := h75
  subst ws9
  dsimp only [mPush]
  refine r_i2lZ hX dX4_digest_182 (hbC2 _) ?_
  refine r_laddZ hX dX4_digest_183 ?_
  refine r_lstore_n hX dX4_digest_184 rfl (by decide) rfl ?_
  refine r_iincZ (z := 1) (y := 3) hX dX4_digest_185 rfl (by decide) rfl rfl ?_
  refine r_goto (tgt := 164) hX dX4_digest_188 (by decide) ?_
  refine r_iload hX dX4_digest_164 rfl ?_
  refine r_iconstZ hX dX4_digest_166 ?_
  refine r_icmp_gtZ (tgt := 191) hX dX4_digest_167 (by decide) (by decide) (by decide) (fun q => absurd q (by decide)) (fun _ => ?_)
  refine r_lload_n hX dX4_digest_170 rfl rfl ?_
  refine r_ldc2Z (z := 31) hX kc_X4_227 (by decide) dX4_digest_171 ?_
  refine r_lmulZ hX dX4_digest_174 ?_
  refine r_aload_n hX dX4_digest_175 rfl rfl ?_
  refine r_iload_n hX dX4_digest_176 rfl rfl ?_
  refine r_iload hX dX4_digest_177 rfl ?_
  refine r_callV hX (z_X4_clockTold ad ae cs K S 0 rest hS _ 2 (by omega) (by omega) _ (by omega)) kv_X4_216 14 rfl rfl rfl rfl (Nat.le_of_ble_eq_true rfl) ⟨(Nat.le_of_ble_eq_true rfl), (Nat.le_of_ble_eq_true rfl)⟩ ⟨(Nat.le_of_ble_eq_true rfl), (Nat.le_of_ble_eq_true rfl)⟩ dX4_digest_179 (fun _ _ z => False.elim z) (fun v9 ws9 h76 => ?_)
  obtain ⟨rfl, hw9⟩ := h76
  subst ws9
  dsimp only [mPush]
  refine r_i2lZ hX dX4_digest_182 (hbC2 _) ?_
  refine r_laddZ hX dX4_digest_183 ?_
  refine r_lstore_n hX dX4_digest_184 rfl (by decide) rfl ?_
  refine r_iincZ (z := 1) (y := 4) hX dX4_digest_185 rfl (by decide) rfl rfl ?_
  refine r_goto (tgt := 164) hX dX4_digest_188 (by decide) ?_
  refine r_iload hX dX4_digest_164 rfl ?_
  refine r_iconstZ hX dX4_digest_166 ?_
  refine r_icmp_gtZ (tgt := 191) hX dX4_digest_167 (by decide) (by decide) (by decide) (fun q => absurd q (by decide)) (fun _ => ?_)
  refine r_lload_n hX dX4_digest_170 rfl rfl ?_
  refine r_ldc2Z (z := 31) hX kc_X4_227 (by decide) dX4_digest_171 ?_
  refine r_lmulZ hX dX4_digest_174 ?_
  refine r_aload_n hX dX4_digest_175 rfl rfl ?_
  refine r_iload_n hX dX4_digest_176 rfl rfl ?_
  refine r_iload hX dX4_digest_177 rfl ?_
  refine r_callV hX (z_X4_clockTold ad ae cs K S 0 rest hS _ 2 (by omega) (by omega) _ (by omega)) kv_X4_216 14 rfl rfl rfl rfl (Nat.le_of_ble_eq_true rfl) ⟨(Nat.le_of_ble_eq_true rfl), (Nat.le_of_ble_eq_true rfl)⟩ ⟨(Nat.le_of_ble_eq_true rfl), (Nat.le_of_ble_eq_true rfl)⟩ dX4_digest_179 (fun _ _ z => False.elim z) (fun v9 ws9 h77 => ?_)
  obtain ⟨rfl, hw9⟩ := h77
  subst ws9
  dsimp only [mPush]
  refine r_i2lZ hX dX4_digest_182 (hbC2 _) ?_
  refine r_laddZ hX dX4_digest_183 ?_
  refine r_lstore_n hX dX4_digest_184 rfl (by decide) rfl ?_
  refine r_iincZ (z := 1) (y := 5) hX dX4_digest_185 rfl (by decide) rfl rfl ?_
  refine r_goto (tgt := 164) hX dX4_digest_188 (by decide) ?_
  refine r_iload hX dX4_digest_164 rfl ?_
  refine r_iconstZ hX dX4_digest_166 ?_
  refine r_icmp_gtZ (tgt := 191) hX dX4_digest_167 (by decide) (by decide) (by decide) (fun q => absurd q (by decide)) (fun _ => ?_)
  refine r_lload_n hX dX4_digest_170 rfl rfl ?_
  refine r_ldc2Z (z := 31) hX kc_X4_227 (by decide) dX4_digest_171 ?_
  refine r_lmulZ hX dX4_digest_174 ?_
  refine r_aload_n hX dX4_digest_175 rfl rfl ?_
  refine r_iload_n hX dX4_digest_176 rfl rfl ?_
  refine r_iload hX dX4_digest_177 rfl ?_
  refine r_callV hX (z_X4_clockTold ad ae cs K S 0 rest hS _ 2 (by omega) (by omega) _ (by omega)) kv_X4_216 14 rfl rfl rfl rfl (Nat.le_of_ble_eq_true rfl) ⟨(Nat.le_of_ble_eq_true rfl), (Nat.le_of_ble_eq_true rfl)⟩ ⟨(Nat.le_of_ble_eq_true rfl), (Nat.le_of_ble_eq_true rfl)⟩ dX4_digest_179 (fun _ _ z => False.elim z) (fun v9 ws9 h78 => ?_)
  obtain ⟨rfl, hw9⟩ := h78
  subst ws9
  dsimp only [mPush]
  refine r_i2lZ hX dX4_digest_182 (hbC2 _) ?_
  refine r_laddZ hX dX4_digest_183 ?_
  refine r_lstore_n hX dX4_digest_184 rfl (by decide) rfl ?_
  refine r_iincZ (z := 1) (y := 6) hX dX4_digest_185 rfl (by decide) rfl rfl ?_
  refine r_goto (tgt := 164) hX dX4_digest_188 (by decide) ?_
  refine r_iload hX dX4_digest_164 rfl ?_
  refine r_iconstZ hX dX4_digest_166 ?_
  refine r_icmp_gtZ (tgt := 191) hX dX4_digest_167 (by decide) (by decide) (by decide) (fun _ => ?_) (fun q => absurd (by decide) q)
  refine r_iincZ (z := 1) (y := 3) hX dX4_digest_191 rfl (by decide) rfl rfl ?_
  refine r_goto (tgt := 156) hX dX4_digest_194 (by decide) ?_
  refine r_iload_n hX dX4_digest_156 rfl rfl ?_
  refine r_iconstZ hX dX4_digest_157 ?_
  refine r_icmp_geZ (tgt := 197) hX dX4_digest_158 (by decide) (by decide) (by decide) (fun _ => ?_) (fun q => absurd (by decide) q)
  refine r_iconstZ hX dX4_digest_197 ?_
  refine r_istore_n hX dX4_digest_198 rfl (by decide) rfl ?_
  refine r_iload_n hX dX4_digest_199 rfl rfl ?_
  refine r_iconstZ hX dX4_digest_200 ?_
  refine r_icmp_geZ (tgt := 257) hX dX4_digest_201 (by decide) (by decide) (by decide) (fun q => absurd q (by decide)) (fun _ => ?_)
  refine r_iconstZ hX dX4_digest_204 ?_
  refine r_istore hX dX4_digest_205 (by decide) rfl ?_
  refine r_iload hX dX4_digest_207 rfl ?_
  refine r_iconstZ hX dX4_digest_209 ?_
  refine r_icmp_geZ (tgt := 251) hX dX4_digest_210 (by decide) (by decide) (by decide) (fun q => absurd q (by decide)) (fun _ => ?_)
  refine r_lload_n hX dX4_digest_213 rfl rfl ?_
  refine r_ldc2Z (z := 31) hX kc_X4_227 (by decide) dX4_digest_214 ?_
  refine r_lmulZ hX dX4_digest_217 ?_
  refine r_aload_n hX dX4_digest_218 rfl rfl ?_
  refine r_iload_n hX dX4_digest_219 rfl rfl ?_
  refine r_iload hX dX4_digest_220 rfl ?_
  refine r_callV hX (z_X4_ordered ad ae cs K S 0 rest hS _ 0 (by omega) (by omega) _ 0 (by omega) (by omega)) kv_X4_196 14 rfl rfl rfl rfl (Nat.le_of_ble_eq_true rfl) ⟨(Nat.le_of_ble_eq_true rfl), (Nat.le_of_ble_eq_true rfl)⟩ ⟨(Nat.le_of_ble_eq_true rfl), (Nat.le_of_ble_eq_true rfl)⟩ dX4_digest_222 (fun _ _ z => False.elim z) (fun v9 ws9 h79 => ?_)
  obtain ⟨rfl, hw9⟩ := h79
  subst ws9
  dsimp only [mPush]
  have hto79 := zTo_b (sse S 0) (sna S 0) (sow S 0) (sse S 0) (sna S 0) (sow S 0)
  refine r_i2lZ hX dX4_digest_225 (by omega) ?_
  refine r_laddZ hX dX4_digest_226 ?_
  refine r_ldc2Z (z := 31) hX kc_X4_227 (by decide) dX4_digest_227 ?_
  refine r_lmulZ hX dX4_digest_230 ?_
  refine r_aload_n hX dX4_digest_231 rfl rfl ?_
  refine r_iload_n hX dX4_digest_232 rfl rfl ?_
  refine r_iload hX dX4_digest_233 rfl ?_
  refine r_iconstZ hX dX4_digest_235 ?_
  refine r_callV hX (z_X4_is ad ae cs K S 0 rest hS _ 0 (by omega) (by omega) _ 0 (by omega) (by omega) _ (by omega)) kv_X4_199 14 rfl rfl rfl rfl (Nat.le_of_ble_eq_true rfl) ⟨(Nat.le_of_ble_eq_true rfl), (Nat.le_of_ble_eq_true rfl)⟩ ⟨(Nat.le_of_ble_eq_true rfl), (Nat.le_of_ble_eq_true rfl)⟩ dX4_digest_236 (fun _ _ z => False.elim z) (fun v9 ws9 h80 => ?_)
  obtain ⟨rfl, hw9⟩ := h80
  subst ws9
  dsimp only [mPush]
  rw [b2i_iZ]
  try clear hcb
  have hcb := cond_b (zSo (sse S 0) (sna S 0) (sow S 0) (sse S 0) (sna S 0) (sow S 0) 2)
  refine r_callS hX (z_X4_one _ _ _ (by omega)) ks_X4_84 rfl rfl (Nat.le_of_ble_eq_true rfl) ⟨(Nat.le_of_ble_eq_true rfl), (Nat.le_of_ble_eq_true rfl)⟩ ⟨(Nat.le_of_ble_eq_true rfl), (Nat.le_of_ble_eq_true rfl)⟩ dX4_digest_239 (fun _ _ z => False.elim z) (fun v9 ws9 h81 => ?_)
  obtain ⟨rfl, hw9⟩ := h81
  subst ws9
  dsimp only [mPush]
  refine r_i2lZ hX dX4_digest_242 (by omega) ?_
  refine r_laddZ hX dX4_digest_243 ?_
  refine r_lstore_n hX dX4_digest_244 rfl (by decide) rfl ?_
  refine r_iincZ (z := 1) (y := 1) hX dX4_digest_245 rfl (by decide) rfl rfl ?_
  refine r_goto (tgt := 207) hX dX4_digest_248 (by decide) ?_
  refine r_iload hX dX4_digest_207 rfl ?_
  refine r_iconstZ hX dX4_digest_209 ?_
  refine r_icmp_geZ (tgt := 251) hX dX4_digest_210 (by decide) (by decide) (by decide) (fun q => absurd q (by decide)) (fun _ => ?_)
  refine r_lload_n hX dX4_digest_213 rfl rfl ?_
  refine r_ldc2Z (z := 31) hX kc_X4_227 (by decide) dX4_digest_214 ?_
  refine r_lmulZ hX dX4_digest_217 ?_
  refine r_aload_n hX dX4_digest_218 rfl rfl ?_
  refine r_iload_n hX dX4_digest_219 rfl rfl ?_
  refine r_iload hX dX4_digest_220 rfl ?_
  refine r_callV hX (z_X4_ordered ad ae cs K S 0 rest hS _ 0 (by omega) (by omega) _ 1 (by omega) (by omega)) kv_X4_196 14 rfl rfl rfl rfl (Nat.le_of_ble_eq_true rfl) ⟨(Nat.le_of_ble_eq_true rfl), (Nat.le_of_ble_eq_true rfl)⟩ ⟨(Nat.le_of_ble_eq_true rfl), (Nat.le_of_ble_eq_true rfl)⟩ dX4_digest_222 (fun _ _ z => False.elim z) (fun v9 ws9 h82 => ?_)
  obtain ⟨rfl, hw9⟩ := h82
  subst ws9
  dsimp only [mPush]
  have hto82 := zTo_b (sse S 0) (sna S 0) (sow S 0) (sse S 1) (sna S 1) (sow S 1)
  refine r_i2lZ hX dX4_digest_225 (by omega) ?_
  refine r_laddZ hX dX4_digest_226 ?_
  refine r_ldc2Z (z := 31) hX kc_X4_227 (by decide) dX4_digest_227 ?_
  refine r_lmulZ hX dX4_digest_230 ?_
  refine r_aload_n hX dX4_digest_231 rfl rfl ?_
  refine r_iload_n hX dX4_digest_232 rfl rfl ?_
  refine r_iload hX dX4_digest_233 rfl ?_
  refine r_iconstZ hX dX4_digest_235 ?_
  refine r_callV hX (z_X4_is ad ae cs K S 0 rest hS _ 0 (by omega) (by omega) _ 1 (by omega) (by omega) _ (by omega)) kv_X4_199 14 rfl rfl rfl rfl (Nat.le_of_ble_eq_true rfl) ⟨(Nat.le_of_ble_eq_true rfl), (Nat.le_of_ble_eq_true rfl)⟩ ⟨(Nat.le_of_ble_eq_true rfl), (Nat.le_of_ble_eq_true rfl)⟩ dX4_digest_236 (fun _ _ z => False.elim z) (fun v9 ws9 h83 => ?_)
  obtain ⟨rfl, hw9⟩ := h83
  subst ws9
  dsimp only [mPush]
  rw [b2i_iZ]
  try clear hcb
  have hcb := cond_b (zSo (sse S 0) (sna S 0) (sow S 0) (sse S 1) (sna S 1) (sow S 1) 2)
  refine r_callS hX (z_X4_one _ _ _ (by omega)) ks_X4_84 rfl rfl (Nat.le_of_ble_eq_true rfl) ⟨(Nat.le_of_ble_eq_true rfl), (Nat.le_of_ble_eq_true rfl)⟩ ⟨(Nat.le_of_ble_eq_true rfl), (Nat.le_of_ble_eq_true rfl)⟩ dX4_digest_239 (fun _ _ z => False.elim z) (fun v9 ws9 h84 => ?_)
  obtain ⟨rfl, hw9⟩ := h84
  subst ws9
  dsimp only [mPush]
  refine r_i2lZ hX dX4_digest_242 (by omega) ?_
  refine r_laddZ hX dX4_digest_243 ?_
  refine r_lstore_n hX dX4_digest_244 rfl (by decide) rfl ?_
  refine r_iincZ (z := 1) (y := 2) hX dX4_digest_245 rfl (by decide) rfl rfl ?_
  refine r_goto (tgt := 207) hX dX4_digest_248 (by decide) ?_
  refine r_iload hX dX4_digest_207 rfl ?_
  refine r_iconstZ hX dX4_digest_209 ?_
  refine r_icmp_geZ (tgt := 251) hX dX4_digest_210 (by decide) (by decide) (by decide) (fun q => absurd q (by decide)) (fun _ => ?_)
  refine r_lload_n hX dX4_digest_213 rfl rfl ?_
  refine r_ldc2Z (z := 31) hX kc_X4_227 (by decide) dX4_digest_214 ?_
  refine r_lmulZ hX dX4_digest_217 ?_
  refine r_aload_n hX dX4_digest_218 rfl rfl ?_
  refine r_iload_n hX dX4_digest_219 rfl rfl ?_
  refine r_iload hX dX4_digest_220 rfl ?_
  refine r_callV hX (z_X4_ordered ad ae cs K S 0 rest hS _ 0 (by omega) (by omega) _ 2 (by omega) (by omega)) kv_X4_196 14 rfl rfl rfl rfl (Nat.le_of_ble_eq_true rfl) ⟨(Nat.le_of_ble_eq_true rfl), (Nat.le_of_ble_eq_true rfl)⟩ ⟨(Nat.le_of_ble_eq_true rfl), (Nat.le_of_ble_eq_true rfl)⟩ dX4_digest_222 (fun _ _ z => False.elim z) (fun v9 ws9 h85 => ?_)
  obtain ⟨rfl, hw9⟩ := h85
  subst ws9
  dsimp only [mPush]
  have hto85 := zTo_b (sse S 0) (sna S 0) (sow S 0) (sse S 2) (sna S 2) (sow S 2)
  refine r_i2lZ hX dX4_digest_225 (by omega) ?_
  refine r_laddZ hX dX4_digest_226 ?_
  refine r_ldc2Z (z := 31) hX kc_X4_227 (by decide) dX4_digest_227 ?_
  refine r_lmulZ hX dX4_digest_230 ?_
  refine r_aload_n hX dX4_digest_231 rfl rfl ?_
  refine r_iload_n hX dX4_digest_232 rfl rfl ?_
  refine r_iload hX dX4_digest_233 rfl ?_
  refine r_iconstZ hX dX4_digest_235 ?_
  refine r_callV hX (z_X4_is ad ae cs K S 0 rest hS _ 0 (by omega) (by omega) _ 2 (by omega) (by omega) _ (by omega)) kv_X4_199 14 rfl rfl rfl rfl (Nat.le_of_ble_eq_true rfl) ⟨(Nat.le_of_ble_eq_true rfl), (Nat.le_of_ble_eq_true rfl)⟩ ⟨(Nat.le_of_ble_eq_true rfl), (Nat.le_of_ble_eq_true rfl)⟩ dX4_digest_236 (fun _ _ z => False.elim z) (fun v9 ws9 h86 => ?_)
  obtain ⟨rfl, hw9⟩ := h86
  subst ws9
  dsimp only [mPush]
  rw [b2i_iZ]
  try clear hcb
  have hcb := cond_b (zSo (sse S 0) (sna S 0) (sow S 0) (sse S 2) (sna S 2) (sow S 2) 2)
  refine r_callS hX (z_X4_one _ _ _ (by omega)) ks_X4_84 rfl rfl (Nat.le_of_ble_eq_true rfl) ⟨(Nat.le_of_ble_eq_true rfl), (Nat.le_of_ble_eq_true rfl)⟩ ⟨(Nat.le_of_ble_eq_true rfl), (Nat.le_of_ble_eq_true rfl)⟩ dX4_digest_239 (fun _ _ z => False.elim z) (fun v9 ws9 h87 => ?_)
  obtain ⟨rfl, hw9⟩ := h87
  subst ws9
  dsimp only [mPush]
  refine r_i2lZ hX dX4_digest_242 (by omega) ?_
  refine r_laddZ hX dX4_digest_243 ?_
  refine r_lstore_n hX dX4_digest_244 rfl (by decide) rfl ?_
  refine r_iincZ (z := 1) (y := 3) hX dX4_digest_245 rfl (by decide) rfl rfl ?_
  refine r_goto (tgt := 207) hX dX4_digest_248 (by decide) ?_
  refine r_iload hX dX4_digest_207 rfl ?_
  refine r_iconstZ hX dX4_digest_209 ?_
  refine r_icmp_geZ (tgt := 251) hX dX4_digest_210 (by decide) (by decide) (by decide) (fun q => absurd q (by decide)) (fun _ => ?_)
  refine r_lload_n hX dX4_digest_213 rfl rfl ?_
  refine r_ldc2Z (z := 31) hX kc_X4_227 (by decide) dX4_digest_214 ?_
  refine r_lmulZ hX dX4_digest_217 ?_
  refine r_aload_n hX dX4_digest_218 rfl rfl ?_
  refine r_iload_n hX dX4_digest_219 rfl rfl ?_
  refine r_iload hX dX4_digest_220 rfl ?_
  refine r_callV hX (z_X4_ordered ad ae cs K S 0 rest hS _ 0 (by omega) (by omega) _ 3 (by omega) (by omega)) kv_X4_196 14 rfl rfl rfl rfl (Nat.le_of_ble_eq_true rfl) ⟨(Nat.le_of_ble_eq_true rfl), (Nat.le_of_ble_eq_true rfl)⟩ ⟨(Nat.le_of_ble_eq_true rfl), (Nat.le_of_ble_eq_true rfl)⟩ dX4_digest_222 (fun _ _ z => False.elim z) (fun v9 ws9 h88 => ?_)
  obtain ⟨rfl, hw9⟩ := h88
  subst ws9
  dsimp only [mPush]
  have hto88 := zTo_b (sse S 0) (sna S 0) (sow S 0) (sse S 3) (sna S 3) (sow S 3)
  refine r_i2lZ hX dX4_digest_225 (by omega) ?_
  refine r_laddZ hX dX4_digest_226 ?_
  refine r_ldc2Z (z := 31) hX kc_X4_227 (by decide) dX4_digest_227 ?_
  refine r_lmulZ hX dX4_digest_230 ?_
  refine r_aload_n hX dX4_digest_231 rfl rfl ?_
  refine r_iload_n hX dX4_digest_232 rfl rfl ?_
  refine r_iload hX dX4_digest_233 rfl ?_
  refine r_iconstZ hX dX4_digest_235 ?_
  refine r_callV hX (z_X4_is ad ae cs K S 0 rest hS _ 0 (by omega) (by omega) _ 3 (by omega) (by omega) _ (by omega)) kv_X4_199 14 rfl rfl rfl rfl (Nat.le_of_ble_eq_true rfl) ⟨(Nat.le_of_ble_eq_true rfl), (Nat.le_of_ble_eq_true rfl)⟩ ⟨(Nat.le_of_ble_eq_true rfl), (Nat.le_of_ble_eq_true rfl)⟩ dX4_digest_236 (fun _ _ z => False.elim z) (fun v9 ws9 h89 => ?_)
  obtain ⟨rfl, hw9⟩ := h89
  subst ws9
  dsimp only [mPush]
  rw [b2i_iZ]
  try clear hcb
  have hcb := cond_b (zSo (sse S 0) (sna S 0) (sow S 0) (sse S 3) (sna S 3) (sow S 3) 2)
  refine r_callS hX (z_X4_one _ _ _ (by omega)) ks_X4_84 rfl rfl (Nat.le_of_ble_eq_true rfl) ⟨(Nat.le_of_ble_eq_true rfl), (Nat.le_of_ble_eq_true rfl)⟩ ⟨(Nat.le_of_ble_eq_true rfl), (Nat.le_of_ble_eq_true rfl)⟩ dX4_digest_239 (fun _ _ z => False.elim z) (fun v9 ws9 h90 => ?_)
  obtain ⟨rfl, hw9⟩ := h90
  subst ws9
  dsimp only [mPush]
  refine r_i2lZ hX dX4_digest_242 (by omega) ?_
  refine r_laddZ hX dX4_digest_243 ?_
  refine r_lstore_n hX dX4_digest_244 rfl (by decide) rfl ?_
  refine r_iincZ (z := 1) (y := 4) hX dX4_digest_245 rfl (by decide) rfl rfl ?_
  refine r_goto (tgt := 207) hX dX4_digest_248 (by decide) ?_
  refine r_iload hX dX4_digest_207 rfl ?_
  refine r_iconstZ hX dX4_digest_209 ?_
  refine r_icmp_geZ (tgt := 251) hX dX4_digest_210 (by decide) (by decide) (by decide) (fun _ => ?_) (fun q => absurd (by decide) q)
  refine r_iincZ (z := 1) (y := 1) hX dX4_digest_251 rfl (by decide) rfl rfl ?_
  refine r_goto (tgt := 199) hX dX4_digest_254 (by decide) ?_
  refine r_iload_n hX dX4_digest_199 rfl rfl ?_
  refine r_iconstZ hX dX4_digest_200 ?_
  refine r_icmp_geZ (tgt := 257) hX dX4_digest_201 (by decide) (by decide) (by decide) (fun q => absurd q (by decide)) (fun _ => ?_)
  refine r_iconstZ hX dX4_digest_204 ?_
  refine r_istore hX dX4_digest_205 (by decide) rfl ?_
  refine r_iload hX dX4_digest_207 rfl ?_
  refine r_iconstZ hX dX4_digest_209 ?_
  refine r_icmp_geZ (tgt := 251) hX dX4_digest_210 (by decide) (by decide) (by decide) (fun q => absurd q (by decide)) (fun _ => ?_)
  refine r_lload_n hX dX4_digest_213 rfl rfl ?_
  refine r_ldc2Z (z := 31) hX kc_X4_227 (by decide) dX4_digest_214 ?_
  refine r_lmulZ hX dX4_digest_217 ?_
  refine r_aload_n hX dX4_digest_218 rfl rfl ?_
  refine r_iload_n hX dX4_digest_219 rfl rfl ?_
  refine r_iload hX dX4_digest_220 rfl ?_
  refine r_callV hX (z_X4_ordered ad ae cs K S 0 rest hS _ 1 (by omega) (by omega) _ 0 (by omega) (by omega)) kv_X4_196 14 rfl rfl rfl rfl (Nat.le_of_ble_eq_true rfl) ⟨(Nat.le_of_ble_eq_true rfl), (Nat.le_of_ble_eq_true rfl)⟩ ⟨(Nat.le_of_ble_eq_true rfl), (Nat.le_of_ble_eq_true rfl)⟩ dX4_digest_222 (fun _ _ z => False.elim z) (fun v9 ws9 h91 => ?_)
  obtain ⟨rfl, hw9⟩ := h91
  subst ws9
  dsimp only [mPush]
  have hto91 := zTo_b (sse S 1) (sna S 1) (sow S 1) (sse S 0) (sna S 0) (sow S 0)
  refine r_i2lZ hX dX4_digest_225 (by omega) ?_
  refine r_laddZ hX dX4_digest_226 ?_
  refine r_ldc2Z (z := 31) hX kc_X4_227 (by decide) dX4_digest_227 ?_
  refine r_lmulZ hX dX4_digest_230 ?_
  refine r_aload_n hX dX4_digest_231 rfl rfl ?_
  refine r_iload_n hX dX4_digest_232 rfl rfl ?_
  refine r_iload hX dX4_digest_233 rfl ?_
  refine r_iconstZ hX dX4_digest_235 ?_
  refine r_callV hX (z_X4_is ad ae cs K S 0 rest hS _ 1 (by omega) (by omega) _ 0 (by omega) (by omega) _ (by omega)) kv_X4_199 14 rfl rfl rfl rfl (Nat.le_of_ble_eq_true rfl) ⟨(Nat.le_of_ble_eq_true rfl), (Nat.le_of_ble_eq_true rfl)⟩ ⟨(Nat.le_of_ble_eq_true rfl), (Nat.le_of_ble_eq_true rfl)⟩ dX4_digest_236 (fun _ _ z => False.elim z) (fun v9 ws9 h92 => ?_)
  obtain ⟨rfl, hw9⟩ := h92
  subst ws9
  dsimp only [mPush]
  rw [b2i_iZ]
  try clear hcb
  have hcb := cond_b (zSo (sse S 1) (sna S 1) (sow S 1) (sse S 0) (sna S 0) (sow S 0) 2)
  refine r_callS hX (z_X4_one _ _ _ (by omega)) ks_X4_84 rfl rfl (Nat.le_of_ble_eq_true rfl) ⟨(Nat.le_of_ble_eq_true rfl), (Nat.le_of_ble_eq_true rfl)⟩ ⟨(Nat.le_of_ble_eq_true rfl), (Nat.le_of_ble_eq_true rfl)⟩ dX4_digest_239 (fun _ _ z => False.elim z) (fun v9 ws9 h93 => ?_)
  obtain ⟨rfl, hw9⟩ := h93
  subst ws9
  dsimp only [mPush]
  refine r_i2lZ hX dX4_digest_242 (by omega) ?_
  refine r_laddZ hX dX4_digest_243 ?_
  refine r_lstore_n hX dX4_digest_244 rfl (by decide) rfl ?_
  refine r_iincZ (z := 1) (y := 1) hX dX4_digest_245 rfl (by decide) rfl rfl ?_
  refine r_goto (tgt := 207) hX dX4_digest_248 (by decide) ?_
  refine r_iload hX dX4_digest_207 rfl ?_
  refine r_iconstZ hX dX4_digest_209 ?_
  refine r_icmp_geZ (tgt := 251) hX dX4_digest_210 (by decide) (by decide) (by decide) (fun q => absurd q (by decide)) (fun _ => ?_)
  refine r_lload_n hX dX4_digest_213 rfl rfl ?_
  refine r_ldc2Z (z := 31) hX kc_X4_227 (by decide) dX4_digest_214 ?_
  refine r_lmulZ hX dX4_digest_217 ?_
  refine r_aload_n hX dX4_digest_218 rfl rfl ?_
  refine r_iload_n hX dX4_digest_219 rfl rfl ?_
  refine r_iload hX dX4_digest_220 rfl ?_
  refine r_callV hX (z_X4_ordered ad ae cs K S 0 rest hS _ 1 (by omega) (by omega) _ 1 (by omega) (by omega)) kv_X4_196 14 rfl rfl rfl rfl (Nat.le_of_ble_eq_true rfl) ⟨(Nat.le_of_ble_eq_true rfl), (Nat.le_of_ble_eq_true rfl)⟩ ⟨(Nat.le_of_ble_eq_true rfl), (Nat.le_of_ble_eq_true rfl)⟩ dX4_digest_222 (fun _ _ z => False.elim z) (fun v9 ws9 h94 => ?_)
  obtain ⟨rfl, hw9⟩ := h94
  subst ws9
  dsimp only [mPush]
  have hto94 := zTo_b (sse S 1) (sna S 1) (sow S 1) (sse S 1) (sna S 1) (sow S 1)
  refine r_i2lZ hX dX4_digest_225 (by omega) ?_
  refine r_laddZ hX dX4_digest_226 ?_
  refine r_ldc2Z (z := 31) hX kc_X4_227 (by decide) dX4_digest_227 ?_
  refine r_lmulZ hX dX4_digest_230 ?_
  refine r_aload_n hX dX4_digest_231 rfl rfl ?_
  refine r_iload_n hX dX4_digest_232 rfl rfl ?_
  refine r_iload hX dX4_digest_233 rfl ?_
  refine r_iconstZ hX dX4_digest_235 ?_
  refine r_callV hX (z_X4_is ad ae cs K S 0 rest hS _ 1 (by omega) (by omega) _ 1 (by omega) (by omega) _ (by omega)) kv_X4_199 14 rfl rfl rfl rfl (Nat.le_of_ble_eq_true rfl) ⟨(Nat.le_of_ble_eq_true rfl), (Nat.le_of_ble_eq_true rfl)⟩ ⟨(Nat.le_of_ble_eq_true rfl), (Nat.le_of_ble_eq_true rfl)⟩ dX4_digest_236 (fun _ _ z => False.elim z) (fun v9 ws9 h95 => ?_)
  obtain ⟨rfl, hw9⟩ := h95
  subst ws9
  dsimp only [mPush]
  rw [b2i_iZ]
  try clear hcb
  have hcb := cond_b (zSo (sse S 1) (sna S 1) (sow S 1) (sse S 1) (sna S 1) (sow S 1) 2)
  refine r_callS hX (z_X4_one _ _ _ (by omega)) ks_X4_84 rfl rfl (Nat.le_of_ble_eq_true rfl) ⟨(Nat.le_of_ble_eq_true rfl), (Nat.le_of_ble_eq_true rfl)⟩ ⟨(Nat.le_of_ble_eq_true rfl), (Nat.le_of_ble_eq_true rfl)⟩ dX4_digest_239 (fun _ _ z => False.elim z) (fun v9 ws9 h96 => ?_)
  obtain ⟨rfl, hw9⟩ := h96
  subst ws9
  dsimp only [mPush]
  refine r_i2lZ hX dX4_digest_242 (by omega) ?_
  refine r_laddZ hX dX4_digest_243 ?_
  refine r_lstore_n hX dX4_digest_244 rfl (by decide) rfl ?_
  refine r_iincZ (z := 1) (y := 2) hX dX4_digest_245 rfl (by decide) rfl rfl ?_
  refine r_goto (tgt := 207) hX dX4_digest_248 (by decide) ?_
  refine r_iload hX dX4_digest_207 rfl ?_
  refine r_iconstZ hX dX4_digest_209 ?_
  refine r_icmp_geZ (tgt := 251) hX dX4_digest_210 (by decide) (by decide) (by decide) (fun q => absurd q (by decide)) (fun _ => ?_)
  refine r_lload_n hX dX4_digest_213 rfl rfl ?_
  refine r_ldc2Z (z := 31) hX kc_X4_227 (by decide) dX4_digest_214 ?_
  refine r_lmulZ hX dX4_digest_217 ?_
  refine r_aload_n hX dX4_digest_218 rfl rfl ?_
  refine r_iload_n hX dX4_digest_219 rfl rfl ?_
  refine r_iload hX dX4_digest_220 rfl ?_
  refine r_callV hX (z_X4_ordered ad ae cs K S 0 rest hS _ 1 (by omega) (by omega) _ 2 (by omega) (by omega)) kv_X4_196 14 rfl rfl rfl rfl (Nat.le_of_ble_eq_true rfl) ⟨(Nat.le_of_ble_eq_true rfl), (Nat.le_of_ble_eq_true rfl)⟩ ⟨(Nat.le_of_ble_eq_true rfl), (Nat.le_of_ble_eq_true rfl)⟩ dX4_digest_222 (fun _ _ z => False.elim z) (fun v9 ws9 h97 => ?_)
  obtain ⟨rfl, hw9⟩ := h97
  subst ws9
  dsimp only [mPush]
  have hto97 := zTo_b (sse S 1) (sna S 1) (sow S 1) (sse S 2) (sna S 2) (sow S 2)
  refine r_i2lZ hX dX4_digest_225 (by omega) ?_
  refine r_laddZ hX dX4_digest_226 ?_
  refine r_ldc2Z (z := 31) hX kc_X4_227 (by decide) dX4_digest_227 ?_
  refine r_lmulZ hX dX4_digest_230 ?_
  refine r_aload_n hX dX4_digest_231 rfl rfl ?_
  refine r_iload_n hX dX4_digest_232 rfl rfl ?_
  refine r_iload hX dX4_digest_233 rfl ?_
  refine r_iconstZ hX dX4_digest_235 ?_
  refine r_callV hX (z_X4_is ad ae cs K S 0 rest hS _ 1 (by omega) (by omega) _ 2 (by omega) (by omega) _ (by omega)) kv_X4_199 14 rfl rfl rfl rfl (Nat.le_of_ble_eq_true rfl) ⟨(Nat.le_of_ble_eq_true rfl), (Nat.le_of_ble_eq_true rfl)⟩ ⟨(Nat.le_of_ble_eq_true rfl), (Nat.le_of_ble_eq_true rfl)⟩ dX4_digest_236 (fun _ _ z => False.elim z) (fun v9 ws9 h98 => ?_)
  obtain ⟨rfl, hw9⟩ := h98
  subst ws9
  dsimp only [mPush]
  rw [b2i_iZ]
  try clear hcb
  have hcb := cond_b (zSo (sse S 1) (sna S 1) (sow S 1) (sse S 2) (sna S 2) (sow S 2) 2)
  refine r_callS hX (z_X4_one _ _ _ (by omega)) ks_X4_84 rfl rfl (Nat.le_of_ble_eq_true rfl) ⟨(Nat.le_of_ble_eq_true rfl), (Nat.le_of_ble_eq_true rfl)⟩ ⟨(Nat.le_of_ble_eq_true rfl), (Nat.le_of_ble_eq_true rfl)⟩ dX4_digest_239 (fun _ _ z => False.elim z) (fun v9 ws9 h99 => ?_)
  obtain ⟨rfl, hw9⟩ := h99
  subst ws9
  dsimp only [mPush]
  refine r_i2lZ hX dX4_digest_242 (by omega) ?_
  refine r_laddZ hX dX4_digest_243 ?_
  refine r_lstore_n hX dX4_digest_244 rfl (by decide) rfl ?_
  refine r_iincZ (z := 1) (y := 3) hX dX4_digest_245 rfl (by decide) rfl rfl ?_
  refine r_goto (tgt := 207) hX dX4_digest_248 (by decide) ?_
  refine r_iload hX dX4_digest_207 rfl ?_
  refine r_iconstZ hX dX4_digest_209 ?_
  refine r_icmp_geZ (tgt := 251) hX dX4_digest_210 (by decide) (by decide) (by decide) (fun q => absurd q (by decide)) (fun _ => ?_)
  refine r_lload_n hX dX4_digest_213 rfl rfl ?_
  refine r_ldc2Z (z := 31) hX kc_X4_227 (by decide) dX4_digest_214 ?_
  refine r_lmulZ hX dX4_digest_217 ?_
  refine r_aload_n hX dX4_digest_218 rfl rfl ?_
  refine r_iload_n hX dX4_digest_219 rfl rfl ?_
  refine r_iload hX dX4_digest_220 rfl ?_
  refine r_callV hX (z_X4_ordered ad ae cs K S 0 rest hS _ 1 (by omega) (by omega) _ 3 (by omega) (by omega)) kv_X4_196 14 rfl rfl rfl rfl (Nat.le_of_ble_eq_true rfl) ⟨(Nat.le_of_ble_eq_true rfl), (Nat.le_of_ble_eq_true rfl)⟩ ⟨(Nat.le_of_ble_eq_true rfl), (Nat.le_of_ble_eq_true rfl)⟩ dX4_digest_222 (fun _ _ z => False.elim z) (fun v9 ws9 h100 => ?_)
  obtain ⟨rfl, hw9⟩ := h100
  subst ws9
  dsimp only [mPush]
  have hto100 := zTo_b (sse S 1) (sna S 1) (sow S 1) (sse S 3) (sna S 3) (sow S 3)
  refine r_i2lZ hX dX4_digest_225 (by omega) ?_
  refine r_laddZ hX dX4_digest_226 ?_
  refine r_ldc2Z (z := 31) hX kc_X4_227 (by decide) dX4_digest_227 ?_
  refine r_lmulZ hX dX4_digest_230 ?_
  refine r_aload_n hX dX4_digest_231 rfl rfl ?_
  refine r_iload_n hX dX4_digest_232 rfl rfl ?_
  refine r_iload hX dX4_digest_233 rfl ?_
  refine r_iconstZ hX dX4_digest_235 ?_
  refine r_callV hX (z_X4_is ad ae cs K S 0 rest hS _ 1 (by omega) (by omega) _ 3 (by omega) (by omega) _ (by omega)) kv_X4_199 14 rfl rfl rfl rfl (Nat.le_of_ble_eq_true rfl) ⟨(Nat.le_of_ble_eq_true rfl), (Nat.le_of_ble_eq_true rfl)⟩ ⟨(Nat.le_of_ble_eq_true rfl), (Nat.le_of_ble_eq_true rfl)⟩ dX4_digest_236 (fun _ _ z => False.elim z) (fun v9 ws9 h101 => ?_)
  obtain ⟨rfl, hw9⟩ := h101
  subst ws9
  dsimp only [mPush]
  rw [b2i_iZ]
  try clear hcb
  have hcb := cond_b (zSo (sse S 1) (sna S 1) (sow S 1) (sse S 3) (sna S 3) (sow S 3) 2)
  refine r_callS hX (z_X4_one _ _ _ (by omega)) ks_X4_84 rfl rfl (Nat.le_of_ble_eq_true rfl) ⟨(Nat.le_of_ble_eq_true rfl), (Nat.le_of_ble_eq_true rfl)⟩ ⟨(Nat.le_of_ble_eq_true rfl), (Nat.le_of_ble_eq_true rfl)⟩ dX4_digest_239 (fun _ _ z => False.elim z) (fun v9 ws9 h102 => ?_)
  obtain ⟨rfl, hw9⟩ := h102
  subst ws9
  dsimp only [mPush]
  refine r_i2lZ hX dX4_digest_242 (by omega) ?_
  refine r_laddZ hX dX4_digest_243 ?_
  refine r_lstore_n hX dX4_digest_244 rfl (by decide) rfl ?_
  refine r_iincZ (z := 1) (y := 4) hX dX4_digest_245 rfl (by decide) rfl rfl ?_
  refine r_goto (tgt := 207) hX dX4_digest_248 (by decide) ?_
  refine r_iload hX dX4_digest_207 rfl ?_
  refine r_iconstZ hX dX4_digest_209 ?_
  refine r_icmp_geZ (tgt := 251) hX dX4_digest_210 (by decide) (by decide) (by decide) (fun _ => ?_) (fun q => absurd (by decide) q)
  refine r_iincZ (z := 1) (y := 2) hX dX4_digest_251 rfl (by decide) rfl rfl ?_
  refine r_goto (tgt := 199) hX dX4_digest_254 (by decide) ?_
  refine r_iload_n hX dX4_digest_199 rfl rfl ?_
  refine r_iconstZ hX dX4_digest_200 ?_
  refine r_icmp_geZ (tgt := 257) hX dX4_digest_201 (by decide) (by decide) (by decide) (fun q => absurd q (by decide)) (fun _ => ?_)
  refine r_iconstZ hX dX4_digest_204 ?_
  refine r_istore hX dX4_digest_205 (by decide) rfl ?_
  refine r_iload hX dX4_digest_207 rfl ?_
  refine r_iconstZ hX dX4_digest_209 ?_
  refine r_icmp_geZ (tgt := 251) hX dX4_digest_210 (by decide) (by decide) (by decide) (fun q => absurd q (by decide)) (fun _ => ?_)
  refine r_lload_n hX dX4_digest_213 rfl rfl ?_
  refine r_ldc2Z (z := 31) hX kc_X4_227 (by decide) dX4_digest_214 ?_
  refine r_lmulZ hX dX4_digest_217 ?_
  refine r_aload_n hX dX4_digest_218 rfl rfl ?_
  refine r_iload_n hX dX4_digest_219 rfl rfl ?_
  refine r_iload hX dX4_digest_220 rfl ?_
  refine r_callV hX (z_X4_ordered ad ae cs K S 0 rest hS _ 2 (by omega) (by omega) _ 0 (by omega) (by omega)) kv_X4_196 14 rfl rfl rfl rfl (Nat.le_of_ble_eq_true rfl) ⟨(Nat.le_of_ble_eq_true rfl), (Nat.le_of_ble_eq_true rfl)⟩ ⟨(Nat.le_of_ble_eq_true rfl), (Nat.le_of_ble_eq_true rfl)⟩ dX4_digest_222 (fun _ _ z => False.elim z) (fun v9 ws9 h103 => ?_)
  obtain ⟨rfl, hw9⟩ := h103
  subst ws9
  dsimp only [mPush]
  have hto103 := zTo_b (sse S 2) (sna S 2) (sow S 2) (sse S 0) (sna S 0) (sow S 0)
  refine r_i2lZ hX dX4_digest_225 (by omega) ?_
  refine r_laddZ hX dX4_digest_226 ?_
  refine r_ldc2Z (z := 31) hX kc_X4_227 (by decide) dX4_digest_227 ?_
  refine r_lmulZ hX dX4_digest_230 ?_
  refine r_aload_n hX dX4_digest_231 rfl rfl ?_
  refine r_iload_n hX dX4_digest_232 rfl rfl ?_
  refine r_iload hX dX4_digest_233 rfl ?_
  refine r_iconstZ hX dX4_digest_235 ?_
  refine r_callV hX (z_X4_is ad ae cs K S 0 rest hS _ 2 (by omega) (by omega) _ 0 (by omega) (by omega) _ (by omega)) kv_X4_199 14 rfl rfl rfl rfl (Nat.le_of_ble_eq_true rfl) ⟨(Nat.le_of_ble_eq_true rfl), (Nat.le_of_ble_eq_true rfl)⟩ ⟨(Nat.le_of_ble_eq_true rfl), (Nat.le_of_ble_eq_true rfl)⟩ dX4_digest_236 (fun _ _ z => False.elim z) (fun v9 ws9 h104 => ?_)
  obtain ⟨rfl, hw9⟩ := h104
  subst ws9
  dsimp only [mPush]
  rw [b2i_iZ]
  try clear hcb
  have hcb := cond_b (zSo (sse S 2) (sna S 2) (sow S 2) (sse S 0) (sna S 0) (sow S 0) 2)
  refine r_callS hX (z_X4_one _ _ _ (by omega)) ks_X4_84 rfl rfl (Nat.le_of_ble_eq_true rfl) ⟨(Nat.le_of_ble_eq_true rfl), (Nat.le_of_ble_eq_true rfl)⟩ ⟨(Nat.le_of_ble_eq_true rfl), (Nat.le_of_ble_eq_true rfl)⟩ dX4_digest_239 (fun _ _ z => False.elim z) (fun v9 ws9 h105 => ?_)
  obtain ⟨rfl, hw9⟩ := h105
  subst ws9
  dsimp only [mPush]
  refine r_i2lZ hX dX4_digest_242 (by omega) ?_
  refine r_laddZ hX dX4_digest_243 ?_
  refine r_lstore_n hX dX4_digest_244 rfl (by decide) rfl ?_
  refine r_iincZ (z := 1) (y := 1) hX dX4_digest_245 rfl (by decide) rfl rfl ?_
  refine r_goto (tgt := 207) hX dX4_digest_248 (by decide) ?_
  refine r_iload hX dX4_digest_207 rfl ?_
  refine r_iconstZ hX dX4_digest_209 ?_
  refine r_icmp_geZ (tgt := 251) hX dX4_digest_210 (by decide) (by decide) (by decide) (fun q => absurd q (by decide)) (fun _ => ?_)
  refine r_lload_n hX dX4_digest_213 rfl rfl ?_
  refine r_ldc2Z (z := 31) hX kc_X4_227 (by decide) dX4_digest_214 ?_
  refine r_lmulZ hX dX4_digest_217 ?_
  refine r_aload_n hX dX4_digest_218 rfl rfl ?_
  refine r_iload_n hX dX4_digest_219 rfl rfl ?_
  refine r_iload hX dX4_digest_220 rfl ?_
  refine r_callV hX (z_X4_ordered ad ae cs K S 0 rest hS _ 2 (by omega) (by omega) _ 1 (by omega) (by omega)) kv_X4_196 14 rfl rfl rfl rfl (Nat.le_of_ble_eq_true rfl) ⟨(Nat.le_of_ble_eq_true rfl), (Nat.le_of_ble_eq_true rfl)⟩ ⟨(Nat.le_of_ble_eq_true rfl), (Nat.le_of_ble_eq_true rfl)⟩ dX4_digest_222 (fun _ _ z => False.elim z) (fun v9 ws9 h106 => ?_)
  obtain ⟨rfl, hw9⟩ := h106
  subst ws9
  dsimp only [mPush]
  have hto106 := zTo_b (sse S 2) (sna S 2) (sow S 2) (sse S 1) (sna S 1) (sow S 1)
  refine r_i2lZ hX dX4_digest_225 (by omega) ?_
  refine r_laddZ hX dX4_digest_226 ?_
  refine r_ldc2Z (z := 31) hX kc_X4_227 (by decide) dX4_digest_227 ?_
  refine r_lmulZ hX dX4_digest_230 ?_
  refine r_aload_n hX dX4_digest_231 rfl rfl ?_
  refine r_iload_n hX dX4_digest_232 rfl rfl ?_
  refine r_iload hX dX4_digest_233 rfl ?_
  refine r_iconstZ hX dX4_digest_235 ?_
  refine r_callV hX (z_X4_is ad ae cs K S 0 rest hS _ 2 (by omega) (by omega) _ 1 (by omega) (by omega) _ (by omega)) kv_X4_199 14 rfl rfl rfl rfl (Nat.le_of_ble_eq_true rfl) ⟨(Nat.le_of_ble_eq_true rfl), (Nat.le_of_ble_eq_true rfl)⟩ ⟨(Nat.le_of_ble_eq_true rfl), (Nat.le_of_ble_eq_true rfl)⟩ dX4_digest_236 (fun _ _ z => False.elim z) (fun v9 ws9 h107 => ?_)
  obtain ⟨rfl, hw9⟩ := h107
  subst ws9
  dsimp only [mPush]
  rw [b2i_iZ]
  try clear hcb
  have hcb := cond_b (zSo (sse S 2) (sna S 2) (sow S 2) (sse S 1) (sna S 1) (sow S 1) 2)
  refine r_callS hX (z_X4_one _ _ _ (by omega)) ks_X4_84 rfl rfl (Nat.le_of_ble_eq_true rfl) ⟨(Nat.le_of_ble_eq_true rfl), (Nat.le_of_ble_eq_true rfl)⟩ ⟨(Nat.le_of_ble_eq_true rfl), (Nat.le_of_ble_eq_true rfl)⟩ dX4_digest_239 (fun _ _ z => False.elim z) (fun v9 ws9 h108 => ?_)
  obtain ⟨rfl, hw9⟩ := h108
  subst ws9
  dsimp only [mPush]
  refine r_i2lZ hX dX4_digest_242 (by omega) ?_
  refine r_laddZ hX dX4_digest_243 ?_
  refine r_lstore_n hX dX4_digest_244 rfl (by decide) rfl ?_
  refine r_iincZ (z := 1) (y := 2) hX dX4_digest_245 rfl (by decide) rfl rfl ?_
  refine r_goto (tgt := 207) hX dX4_digest_248 (by decide) ?_
  refine r_iload hX dX4_digest_207 rfl ?_
  refine r_iconstZ hX dX4_digest_209 ?_
  refine r_icmp_geZ (tgt := 251) hX dX4_digest_210 (by decide) (by decide) (by decide) (fun q => absurd q (by decide)) (fun _ => ?_)
  refine r_lload_n hX dX4_digest_213 rfl rfl ?_
  refine r_ldc2Z (z := 31) hX kc_X4_227 (by decide) dX4_digest_214 ?_
  refine r_lmulZ hX dX4_digest_217 ?_
  refine r_aload_n hX dX4_digest_218 rfl rfl ?_
  refine r_iload_n hX dX4_digest_219 rfl rfl ?_
  refine r_iload hX dX4_digest_220 rfl ?_
  refine r_callV hX (z_X4_ordered ad ae cs K S 0 rest hS _ 2 (by omega) (by omega) _ 2 (by omega) (by omega)) kv_X4_196 14 rfl rfl rfl rfl (Nat.le_of_ble_eq_true rfl) ⟨(Nat.le_of_ble_eq_true rfl), (Nat.le_of_ble_eq_true rfl)⟩ ⟨(Nat.le_of_ble_eq_true rfl), (Nat.le_of_ble_eq_true rfl)⟩ dX4_digest_222 (fun _ _ z => False.elim z) (fun v9 ws9 h109 => ?_)
  obtain ⟨rfl, hw9⟩ := h109
  subst ws9
  dsimp only [mPush]
  have hto109 := zTo_b (sse S 2) (sna S 2) (sow S 2) (sse S 2) (sna S 2) (sow S 2)
  refine r_i2lZ hX dX4_digest_225 (by omega) ?_
  refine r_laddZ hX dX4_digest_226 ?_
  refine r_ldc2Z (z := 31) hX kc_X4_227 (by decide) dX4_digest_227 ?_
  refine r_lmulZ hX dX4_digest_230 ?_
  refine r_aload_n hX dX4_digest_231 rfl rfl ?_
  refine r_iload_n hX dX4_digest_232 rfl rfl ?_
  refine r_iload hX dX4_digest_233 rfl ?_
  refine r_iconstZ hX dX4_digest_235 ?_
  refine r_callV hX (z_X4_is ad ae cs K S 0 rest hS _ 2 (by omega) (by omega) _ 2 (by omega) (by omega) _ (by omega)) kv_X4_199 14 rfl rfl rfl rfl (Nat.le_of_ble_eq_true rfl) ⟨(Nat.le_of_ble_eq_true rfl), (Nat.le_of_ble_eq_true rfl)⟩ ⟨(Nat.le_of_ble_eq_true rfl), (Nat.le_of_ble_eq_true rfl)⟩ dX4_digest_236 (fun _ _ z => False.elim z) (fun v9 ws9 h110 => ?_)
  obtain ⟨rfl, hw9⟩ := h110
  subst ws9
  dsimp only [mPush]
  rw [b2i_iZ]
  try clear hcb
  have hcb := cond_b (zSo (sse S 2) (sna S 2) (sow S 2) (sse S 2) (sna S 2) (sow S 2) 2)
  refine r_callS hX (z_X4_one _ _ _ (by omega)) ks_X4_84 rfl rfl (Nat.le_of_ble_eq_true rfl) ⟨(Nat.le_of_ble_eq_true rfl), (Nat.le_of_ble_eq_true rfl)⟩ ⟨(Nat.le_of_ble_eq_true rfl), (Nat.le_of_ble_eq_true rfl)⟩ dX4_digest_239 (fun _ _ z => False.elim z) (fun v9 ws9 h111 => ?_)
  obtain ⟨rfl, hw9⟩ := h111
  subst ws9
  dsimp only [mPush]
  refine r_i2lZ hX dX4_digest_242 (by omega) ?_
  refine r_laddZ hX dX4_digest_243 ?_
  refine r_lstore_n hX dX4_digest_244 rfl (by decide) rfl ?_
  refine r_iincZ (z := 1) (y := 3) hX dX4_digest_245 rfl (by decide) rfl rfl ?_
  refine r_goto (tgt := 207) hX dX4_digest_248 (by decide) ?_
  refine r_iload hX dX4_digest_207 rfl ?_
  refine r_iconstZ hX dX4_digest_209 ?_
  refine r_icmp_geZ (tgt := 251) hX dX4_digest_210 (by decide) (by decide) (by decide) (fun q => absurd q (by decide)) (fun _ => ?_)
  refine r_lload_n hX dX4_digest_213 rfl rfl ?_
  refine r_ldc2Z (z := 31) hX kc_X4_227 (by decide) dX4_digest_214 ?_
  refine r_lmulZ hX dX4_digest_217 ?_
  refine r_aload_n hX dX4_digest_218 rfl rfl ?_
  refine r_iload_n hX dX4_digest_219 rfl rfl ?_
  refine r_iload hX dX4_digest_220 rfl ?_
  refine r_callV hX (z_X4_ordered ad ae cs K S 0 rest hS _ 2 (by omega) (by omega) _ 3 (by omega) (by omega)) kv_X4_196 14 rfl rfl rfl rfl (Nat.le_of_ble_eq_true rfl) ⟨(Nat.le_of_ble_eq_true rfl), (Nat.le_of_ble_eq_true rfl)⟩ ⟨(Nat.le_of_ble_eq_true rfl), (Nat.le_of_ble_eq_true rfl)⟩ dX4_digest_222 (fun _ _ z => False.elim z) (fun v9 ws9 h112 => ?_)
  obtain ⟨rfl, hw9⟩ := h112
  subst ws9
  dsimp only [mPush]
  have hto112 := zTo_b (sse S 2) (sna S 2) (sow S 2) (sse S 3) (sna S 3) (sow S 3)
  refine r_i2lZ hX dX4_digest_225 (by omega) ?_
  refine r_laddZ hX dX4_digest_226 ?_
  refine r_ldc2Z (z := 31) hX kc_X4_227 (by decide) dX4_digest_227 ?_
  refine r_lmulZ hX dX4_digest_230 ?_
  refine r_aload_n hX dX4_digest_231 rfl rfl ?_
  refine r_iload_n hX dX4_digest_232 rfl rfl ?_
  refine r_iload hX dX4_digest_233 rfl ?_
  refine r_iconstZ hX dX4_digest_235 ?_
  refine r_callV hX (z_X4_is ad ae cs K S 0 rest hS _ 2 (by omega) (by omega) _ 3 (by omega) (by omega) _ (by omega)) kv_X4_199 14 rfl rfl rfl rfl (Nat.le_of_ble_eq_true rfl) ⟨(Nat.le_of_ble_eq_true rfl), (Nat.le_of_ble_eq_true rfl)⟩ ⟨(Nat.le_of_ble_eq_true rfl), (Nat.le_of_ble_eq_true rfl)⟩ dX4_digest_236 (fun _ _ z => False.elim z) (fun v9 ws9 h113 => ?_)
  obtain ⟨rfl, hw9⟩ := h113
  subst ws9
  dsimp only [mPush]
  rw [b2i_iZ]
  try clear hcb
  have hcb := cond_b (zSo (sse S 2) (sna S 2) (sow S 2) (sse S 3) (sna S 3) (sow S 3) 2)
  refine r_callS hX (z_X4_one _ _ _ (by omega)) ks_X4_84 rfl rfl (Nat.le_of_ble_eq_true rfl) ⟨(Nat.le_of_ble_eq_true rfl), (Nat.le_of_ble_eq_true rfl)⟩ ⟨(Nat.le_of_ble_eq_true rfl), (Nat.le_of_ble_eq_true rfl)⟩ dX4_digest_239 (fun _ _ z => False.elim z) (fun v9 ws9 h114 => ?_)
  obtain ⟨rfl, hw9⟩ := h114
  subst ws9
  dsimp only [mPush]
  refine r_i2lZ hX dX4_digest_242 (by omega) ?_
  refine r_laddZ hX dX4_digest_243 ?_
  refine r_lstore_n hX dX4_digest_244 rfl (by decide) rfl ?_
  refine r_iincZ (z := 1) (y := 4) hX dX4_digest_245 rfl (by decide) rfl rfl ?_
  refine r_goto (tgt := 207) hX dX4_digest_248 (by decide) ?_
  refine r_iload hX dX4_digest_207 rfl ?_
  refine r_iconstZ hX dX4_digest_209 ?_
  refine r_icmp_geZ (tgt := 251) hX dX4_digest_210 (by decide) (by decide) (by decide) (fun _ => ?_) (fun q => absurd (by decide) q)
  refine r_iincZ (z := 1) (y := 3) hX dX4_digest_251 rfl (by decide) rfl rfl ?_
  refine r_goto (tgt := 199) hX dX4_digest_254 (by decide) ?_
  refine r_iload_n hX dX4_digest_199 rfl rfl ?_
  refine r_iconstZ hX dX4_digest_200 ?_
  refine r_icmp_geZ (tgt := 257) hX dX4_digest_201 (by decide) (by decide) (by decide) (fun q => absurd q (by decide)) (fun _ => ?_)
  refine r_iconstZ hX dX4_digest_204 ?_
  refine r_istore hX dX4_digest_205 (by decide) rfl ?_
  refine r_iload hX dX4_digest_207 rfl ?_
  refine r_iconstZ hX dX4_digest_209 ?_
  refine r_icmp_geZ (tgt := 251) hX dX4_digest_210 (by decide) (by decide) (by decide) (fun q => absurd q (by decide)) (fun _ => ?_)
  refine r_lload_n hX dX4_digest_213 rfl rfl ?_
  refine r_ldc2Z (z := 31) hX kc_X4_227 (by decide) dX4_digest_214 ?_
  refine r_lmulZ hX dX4_digest_217 ?_
  refine r_aload_n hX dX4_digest_218 rfl rfl ?_
  refine r_iload_n hX dX4_digest_219 rfl rfl ?_
  refine r_iload hX dX4_digest_220 rfl ?_
  refine r_callV hX (z_X4_ordered ad ae cs K S 0 rest hS _ 3 (by omega) (by omega) _ 0 (by omega) (by omega)) kv_X4_196 14 rfl rfl rfl rfl (Nat.le_of_ble_eq_true rfl) ⟨(Nat.le_of_ble_eq_true rfl), (Nat.le_of_ble_eq_true rfl)⟩ ⟨(Nat.le_of_ble_eq_true rfl), (Nat.le_of_ble_eq_true rfl)⟩ dX4_digest_222 (fun _ _ z => False.elim z) (fun v9 ws9 h115 => ?_)
  obtain ⟨rfl, hw9⟩ := h115
  subst ws9
  dsimp only [mPush]
  have hto115 := zTo_b (sse S 3) (sna S 3) (sow S 3) (sse S 0) (sna S 0) (sow S 0)
  refine r_i2lZ hX dX4_digest_225 (by omega) ?_
  refine r_laddZ hX dX4_digest_226 ?_
  refine r_ldc2Z (z := 31) hX kc_X4_227 (by decide) dX4_digest_227 ?_
  refine r_lmulZ hX dX4_digest_230 ?_
  refine r_aload_n hX dX4_digest_231 rfl rfl ?_
  refine r_iload_n hX dX4_digest_232 rfl rfl ?_
  refine r_iload hX dX4_digest_233 rfl ?_
  refine r_iconstZ hX dX4_digest_235 ?_
  refine r_callV hX (z_X4_is ad ae cs K S 0 rest hS _ 3 (by omega) (by omega) _ 0 (by omega) (by omega) _ (by omega)) kv_X4_199 14 rfl rfl rfl rfl (Nat.le_of_ble_eq_true rfl) ⟨(Nat.le_of_ble_eq_true rfl), (Nat.le_of_ble_eq_true rfl)⟩ ⟨(Nat.le_of_ble_eq_true rfl), (Nat.le_of_ble_eq_true rfl)⟩ dX4_digest_236 (fun _ _ z => False.elim z) (fun v9 ws9 h116 => ?_)
  obtain ⟨rfl, hw9⟩ := h116
  subst ws9
  dsimp only [mPush]
  rw [b2i_iZ]
  try clear hcb
  have hcb := cond_b (zSo (sse S 3) (sna S 3) (sow S 3) (sse S 0) (sna S 0) (sow S 0) 2)
  refine r_callS hX (z_X4_one _ _ _ (by omega)) ks_X4_84 rfl rfl (Nat.le_of_ble_eq_true rfl) ⟨(Nat.le_of_ble_eq_true rfl), (Nat.le_of_ble_eq_true rfl)⟩ ⟨(Nat.le_of_ble_eq_true rfl), (Nat.le_of_ble_eq_true rfl)⟩ dX4_digest_239 (fun _ _ z => False.elim z) (fun v9 ws9 h117 => ?_)
  obtain ⟨rfl, hw9⟩ := h117
  subst ws9
  dsimp only [mPush]
  refine r_i2lZ hX dX4_digest_242 (by omega) ?_
  refine r_laddZ hX dX4_digest_243 ?_
  refine r_lstore_n hX dX4_digest_244 rfl (by decide) rfl ?_
  refine r_iincZ (z := 1) (y := 1) hX dX4_digest_245 rfl (by decide) rfl rfl ?_
  refine r_goto (tgt := 207) hX dX4_digest_248 (by decide) ?_
  refine r_iload hX dX4_digest_207 rfl ?_
  refine r_iconstZ hX dX4_digest_209 ?_
  refine r_icmp_geZ (tgt := 251) hX dX4_digest_210 (by decide) (by decide) (by decide) (fun q => absurd q (by decide)) (fun _ => ?_)
  refine r_lload_n hX dX4_digest_213 rfl rfl ?_
  refine r_ldc2Z (z := 31) hX kc_X4_227 (by decide) dX4_digest_214 ?_
  refine r_lmulZ hX dX4_digest_217 ?_
  refine r_aload_n hX dX4_digest_218 rfl rfl ?_
  refine r_iload_n hX dX4_digest_219 rfl rfl ?_
  refine r_iload hX dX4_digest_220 rfl ?_
  refine r_callV hX (z_X4_ordered ad ae cs K S 0 rest hS _ 3 (by omega) (by omega) _ 1 (by omega) (by omega)) kv_X4_196 14 rfl rfl rfl rfl (Nat.le_of_ble_eq_true rfl) ⟨(Nat.le_of_ble_eq_true rfl), (Nat.le_of_ble_eq_true rfl)⟩ ⟨(Nat.le_of_ble_eq_true rfl), (Nat.le_of_ble_eq_true rfl)⟩ dX4_digest_222 (fun _ _ z => False.elim z) (fun v9 ws9 h118 => ?_)
  obtain ⟨rfl, hw9⟩ := h118
  subst ws9
  dsimp only [mPush]
  have hto118 := zTo_b (sse S 3) (sna S 3) (sow S 3) (sse S 1) (sna S 1) (sow S 1)
  refine r_i2lZ hX dX4_digest_225 (by omega) ?_
  refine r_laddZ hX dX4_digest_226 ?_
  refine r_ldc2Z (z := 31) hX kc_X4_227 (by decide) dX4_digest_227 ?_
  refine r_lmulZ hX dX4_digest_230 ?_
  refine r_aload_n hX dX4_digest_231 rfl rfl ?_
  refine r_iload_n hX dX4_digest_232 rfl rfl ?_
  refine r_iload hX dX4_digest_233 rfl ?_
  refine r_iconstZ hX dX4_digest_235 ?_
  refine r_callV hX (z_X4_is ad ae cs K S 0 rest hS _ 3 (by omega) (by omega) _ 1 (by omega) (by omega) _ (by omega)) kv_X4_199 14 rfl rfl rfl rfl (Nat.le_of_ble_eq_true rfl) ⟨(Nat.le_of_ble_eq_true rfl), (Nat.le_of_ble_eq_true rfl)⟩ ⟨(Nat.le_of_ble_eq_true rfl), (Nat.le_of_ble_eq_true rfl)⟩ dX4_digest_236 (fun _ _ z => False.elim z) (fun v9 ws9 h119 => ?_)
  obtain ⟨rfl, hw9⟩ := h119
  subst ws9
  dsimp only [mPush]
  rw [b2i_iZ]
  try clear hcb
  have hcb := cond_b (zSo (sse S 3) (sna S 3) (sow S 3) (sse S 1) (sna S 1) (sow S 1) 2)
  refine r_callS hX (z_X4_one _ _ _ (by omega)) ks_X4_84 rfl rfl (Nat.le_of_ble_eq_true rfl) ⟨(Nat.le_of_ble_eq_true rfl), (Nat.le_of_ble_eq_true rfl)⟩ ⟨(Nat.le_of_ble_eq_true rfl), (Nat.le_of_ble_eq_true rfl)⟩ dX4_digest_239 (fun _ _ z => False.elim z) (fun v9 ws9 h120 => ?_)
  obtain ⟨rfl, hw9⟩ := h120
  subst ws9
  dsimp only [mPush]
  refine r_i2lZ hX dX4_digest_242 (by omega) ?_
  refine r_laddZ hX dX4_digest_243 ?_
  refine r_lstore_n hX dX4_digest_244 rfl (by decide) rfl ?_
  refine r_iincZ (z := 1) (y := 2) hX dX4_digest_245 rfl (by decide) rfl rfl ?_
  refine r_goto (tgt := 207) hX dX4_digest_248 (by decide) ?_
  refine r_iload hX dX4_digest_207 rfl ?_
  refine r_iconstZ hX dX4_digest_209 ?_
  refine r_icmp_geZ (tgt := 251) hX dX4_digest_210 (by decide) (by decide) (by decide) (fun q => absurd q (by decide)) (fun _ => ?_)
  refine r_lload_n hX dX4_digest_213 rfl rfl ?_
  refine r_ldc2Z (z := 31) hX kc_X4_227 (by decide) dX4_digest_214 ?_
  refine r_lmulZ hX dX4_digest_217 ?_
  refine r_aload_n hX dX4_digest_218 rfl rfl ?_
  refine r_iload_n hX dX4_digest_219 rfl rfl ?_
  refine r_iload hX dX4_digest_220 rfl ?_
  refine r_callV hX (z_X4_ordered ad ae cs K S 0 rest hS _ 3 (by omega) (by omega) _ 2 (by omega) (by omega)) kv_X4_196 14 rfl rfl rfl rfl (Nat.le_of_ble_eq_true rfl) ⟨(Nat.le_of_ble_eq_true rfl), (Nat.le_of_ble_eq_true rfl)⟩ ⟨(Nat.le_of_ble_eq_true rfl), (Nat.le_of_ble_eq_true rfl)⟩ dX4_digest_222 (fun _ _ z => False.elim z) (fun v9 ws9 h121 => ?_)
  obtain ⟨rfl, hw9⟩ := h121
  subst ws9
  dsimp only [mPush]
  have hto121 := zTo_b (sse S 3) (sna S 3) (sow S 3) (sse S 2) (sna S 2) (sow S 2)
  refine r_i2lZ hX dX4_digest_225 (by omega) ?_
  refine r_laddZ hX dX4_digest_226 ?_
  refine r_ldc2Z (z := 31) hX kc_X4_227 (by decide) dX4_digest_227 ?_
  refine r_lmulZ hX dX4_digest_230 ?_
  refine r_aload_n hX dX4_digest_231 rfl rfl ?_
  refine r_iload_n hX dX4_digest_232 rfl rfl ?_
  refine r_iload hX dX4_digest_233 rfl ?_
  refine r_iconstZ hX dX4_digest_235 ?_
  refine r_callV hX (z_X4_is ad ae cs K S 0 rest hS _ 3 (by omega) (by omega) _ 2 (by omega) (by omega) _ (by omega)) kv_X4_199 14 rfl rfl rfl rfl (Nat.le_of_ble_eq_true rfl) ⟨(Nat.le_of_ble_eq_true rfl), (Nat.le_of_ble_eq_true rfl)⟩ ⟨(Nat.le_of_ble_eq_true rfl), (Nat.le_of_ble_eq_true rfl)⟩ dX4_digest_236 (fun _ _ z => False.elim z) (fun v9 ws9 h122 => ?_)
  obtain ⟨rfl, hw9⟩ := h122
  subst ws9
  dsimp only [mPush]
  rw [b2i_iZ]
  try clear hcb
  have hcb := cond_b (zSo (sse S 3) (sna S 3) (sow S 3) (sse S 2) (sna S 2) (sow S 2) 2)
  refine r_callS hX (z_X4_one _ _ _ (by omega)) ks_X4_84 rfl rfl (Nat.le_of_ble_eq_true rfl) ⟨(Nat.le_of_ble_eq_true rfl), (Nat.le_of_ble_eq_true rfl)⟩ ⟨(Nat.le_of_ble_eq_true rfl), (Nat.le_of_ble_eq_true rfl)⟩ dX4_digest_239 (fun _ _ z => False.elim z) (fun v9 ws9 h123 => ?_)
  obtain ⟨rfl, hw9⟩ := h123
  subst ws9
  dsimp only [mPush]
  refine r_i2lZ hX dX4_digest_242 (by omega) ?_
  refine r_laddZ hX dX4_digest_243 ?_
  refine r_lstore_n hX dX4_digest_244 rfl (by decide) rfl ?_
  refine r_iincZ (z := 1) (y := 3) hX dX4_digest_245 rfl (by decide) rfl rfl ?_
  refine r_goto (tgt := 207) hX dX4_digest_248 (by decide) ?_
  refine r_iload hX dX4_digest_207 rfl ?_
  refine r_iconstZ hX dX4_digest_209 ?_
  refine r_icmp_geZ (tgt := 251) hX dX4_digest_210 (by decide) (by decide) (by decide) (fun q => absurd q (by decide)) (fun _ => ?_)
  refine r_lload_n hX dX4_digest_213 rfl rfl ?_
  refine r_ldc2Z (z := 31) hX kc_X4_227 (by decide) dX4_digest_214 ?_
  refine r_lmulZ hX dX4_digest_217 ?_
  refine r_aload_n hX dX4_digest_218 rfl rfl ?_
  refine r_iload_n hX dX4_digest_219 rfl rfl ?_
  refine r_iload hX dX4_digest_220 rfl ?_
  refine r_callV hX (z_X4_ordered ad ae cs K S 0 rest hS _ 3 (by omega) (by omega) _ 3 (by omega) (by omega)) kv_X4_196 14 rfl rfl rfl rfl (Nat.le_of_ble_eq_true rfl) ⟨(Nat.le_of_ble_eq_true rfl), (Nat.le_of_ble_eq_true rfl)⟩ ⟨(Nat.le_of_ble_eq_true rfl), (Nat.le_of_ble_eq_true rfl)⟩ dX4_digest_222 (fun _ _ z => False.elim z) (fun v9 ws9 h124 => ?_)
  obtain ⟨rfl, hw9⟩ := h124
  subst ws9
  dsimp only [mPush]
  have hto124 := zTo_b (sse S 3) (sna S 3) (sow S 3) (sse S 3) (sna S 3) (sow S 3)
  refine r_i2lZ hX dX4_digest_225 (by omega) ?_
  refine r_laddZ hX dX4_digest_226 ?_
  refine r_ldc2Z (z := 31) hX kc_X4_227 (by decide) dX4_digest_227 ?_
  refine r_lmulZ hX dX4_digest_230 ?_
  refine r_aload_n hX dX4_digest_231 rfl rfl ?_
  refine r_iload_n hX dX4_digest_232 rfl rfl ?_
  refine r_iload hX dX4_digest_233 rfl ?_
  refine r_iconstZ hX dX4_digest_235 ?_
  refine r_callV hX (z_X4_is ad ae cs K S 0 rest hS _ 3 (by omega) (by omega) _ 3 (by omega) (by omega) _ (by omega)) kv_X4_199 14 rfl rfl rfl rfl (Nat.le_of_ble_eq_true rfl) ⟨(Nat.le_of_ble_eq_true rfl), (Nat.le_of_ble_eq_true rfl)⟩ ⟨(Nat.le_of_ble_eq_true rfl), (Nat.le_of_ble_eq_true rfl)⟩ dX4_digest_236 (fun _ _ z => False.elim z) (fun v9 ws9 h125 => ?_)
  obtain ⟨rfl, hw9⟩ := h125
  subst ws9
  dsimp only [mPush]
  rw [b2i_iZ]
  try clear hcb
  have hcb := cond_b (zSo (sse S 3) (sna S 3) (sow S 3) (sse S 3) (sna S 3) (sow S 3) 2)
  refine r_callS hX (z_X4_one _ _ _ (by omega)) ks_X4_84 rfl rfl (Nat.le_of_ble_eq_true rfl) ⟨(Nat.le_of_ble_eq_true rfl), (Nat.le_of_ble_eq_true rfl)⟩ ⟨(Nat.le_of_ble_eq_true rfl), (Nat.le_of_ble_eq_true rfl)⟩ dX4_digest_239 (fun _ _ z => False.elim z) (fun v9 ws9 h126 => ?_)
  obtain ⟨rfl, hw9⟩ := h126
  subst ws9
  dsimp only [mPush]
  refine r_i2lZ hX dX4_digest_242 (by omega) ?_
  refine r_laddZ hX dX4_digest_243 ?_
  refine r_lstore_n hX dX4_digest_244 rfl (by decide) rfl ?_
  refine r_iincZ (z := 1) (y := 4) hX dX4_digest_245 rfl (by decide) rfl rfl ?_
  refine r_goto (tgt := 207) hX dX4_digest_248 (by decide) ?_
  refine r_iload hX dX4_digest_207 rfl ?_
  refine r_iconstZ hX dX4_digest_209 ?_
  refine r_icmp_geZ (tgt := 251) hX dX4_digest_210 (by decide) (by decide) (by decide) (fun _ => ?_) (fun q => absurd (by decide) q)
  refine r_iincZ (z := 1) (y := 4) hX dX4_digest_251 rfl (by decide) rfl rfl ?_
  refine r_goto (tgt := 199) hX dX4_digest_254 (by decide) ?_
  refine r_iload_n hX dX4_digest_199 rfl rfl ?_
  refine r_iconstZ hX dX4_digest_200 ?_
  refine r_icmp_geZ (tgt := 257) hX dX4_digest_201 (by decide) (by decide) (by decide) (fun _ => ?_) (fun q => absurd (by decide) q)
  refine r_iconstZ hX dX4_digest_257 ?_
  refine r_istore_n hX dX4_digest_258 rfl (by decide) rfl ?_
  refine r_iload_n hX dX4_digest_259 rfl rfl ?_
  refine r_bipushZ hX dX4_digest_260 (by decide) ?_
  refine r_icmp_geZ (tgt := 302) hX dX4_digest_262 (by decide) (by decide) (by decide) (fun q => absurd q (by decide)) (fun _ => ?_)
  refine r_iconstZ hX dX4_digest_265 ?_
  refine r_istore hX dX4_digest_266 (by decide) rfl ?_
  refine r_iload hX dX4_digest_268 rfl ?_
  refine r_bipushZ hX dX4_digest_270 (by decide) ?_
  refine r_icmp_geZ (tgt := 296) hX dX4_digest_272 (by decide) (by decide) (by decide) (fun q => absurd q (by decide)) (fun _ => ?_)
  refine r_lload_n hX dX4_digest_275 rfl rfl ?_
  refine r_ldc2Z (z := 31) hX kc_X4_227 (by decide) dX4_digest_276 ?_
  refine r_lmulZ hX dX4_digest_279 ?_
  refine r_aload_n hX dX4_digest_280 rfl rfl ?_
  refine r_iload_n hX dX4_digest_281 rfl rfl ?_
  refine r_iload hX dX4_digest_282 rfl ?_
  refine r_callV hX (z_X4_ordered ad ae cs K S 0 rest hS _ 4 (by omega) (by omega) _ 4 (by omega) (by omega)) kv_X4_196 14 rfl rfl rfl rfl (Nat.le_of_ble_eq_true rfl) ⟨(Nat.le_of_ble_eq_true rfl), (Nat.le_of_ble_eq_true rfl)⟩ ⟨(Nat.le_of_ble_eq_true rfl), (Nat.le_of_ble_eq_true rfl)⟩ dX4_digest_284 (fun _ _ z => False.elim z) (fun v9 ws9 h127 => ?_)
  obtain ⟨rfl, hw9⟩ := h127
  subst ws9
  dsimp only [mPush]
  have hto127 := zTo_b (sse S 4) (sna S 4) (sow S 4) (sse S 4) (sna S 4) (sow S 4)
  refine r_i2lZ hX dX4_digest_287 (by omega) ?_
  refine r_laddZ hX dX4_digest_288 ?_
  refine r_lstore_n hX dX4_digest_289 rfl (by decide) rfl ?_
  refine r_iincZ (z := 1) (y := 5) hX dX4_digest_290 rfl (by decide) rfl rfl ?_
  refine r_goto (tgt := 268) hX dX4_digest_293 (by decide) ?_
  refine r_iload hX dX4_digest_268 rfl ?_
  refine r_bipushZ hX dX4_digest_270 (by decide) ?_
  refine r_icmp_geZ (tgt := 296) hX dX4_digest_272 (by decide) (by decide) (by decide) (fun q => absurd q (by decide)) (fun _ => ?_)
  refine r_lload_n hX dX4_digest_275 rfl rfl ?_
  refine r_ldc2Z (z := 31) hX kc_X4_227 (by decide) dX4_digest_276 ?_
  refine r_lmulZ hX dX4_digest_279 ?_
  refine r_aload_n hX dX4_digest_280 rfl rfl ?_
  refine r_iload_n hX dX4_digest_281 rfl rfl ?_
  refine r_iload hX dX4_digest_282 rfl ?_
  refine r_callV hX (z_X4_ordered ad ae cs K S 0 rest hS _ 4 (by omega) (by omega) _ 5 (by omega) (by omega)) kv_X4_196 14 rfl rfl rfl rfl (Nat.le_of_ble_eq_true rfl) ⟨(Nat.le_of_ble_eq_true rfl), (Nat.le_of_ble_eq_true rfl)⟩ ⟨(Nat.le_of_ble_eq_true rfl), (Nat.le_of_ble_eq_true rfl)⟩ dX4_digest_284 (fun _ _ z => False.elim z) (fun v9 ws9 h128 => ?_)
  obtain ⟨rfl, hw9⟩ := h128
  subst ws9
  dsimp only [mPush]
  have hto128 := zTo_b (sse S 4) (sna S 4) (sow S 4) (sse S 5) (sna S 5) (sow S 5)
  refine r_i2lZ hX dX4_digest_287 (by omega) ?_
  refine r_laddZ hX dX4_digest_288 ?_
  refine r_lstore_n hX dX4_digest_289 rfl (by decide) rfl ?_
  refine r_iincZ (z := 1) (y := 6) hX dX4_digest_290 rfl (by decide) rfl rfl ?_
  refine r_goto (tgt := 268) hX dX4_digest_293 (by decide) ?_
  refine r_iload hX dX4_digest_268 rfl ?_
  refine r_bipushZ hX dX4_digest_270 (by decide) ?_
  refine r_icmp_geZ (tgt := 296) hX dX4_digest_272 (by decide) (by decide) (by decide) (fun q => absurd q (by decide)) (fun _ => ?_)
  refine r_lload_n hX dX4_digest_275 rfl rfl ?_
  refine r_ldc2Z (z := 31) hX kc_X4_227 (by decide) dX4_digest_276 ?_
  refine r_lmulZ hX dX4_digest_279 ?_
  refine r_aload_n hX dX4_digest_280 rfl rfl ?_
  refine r_iload_n hX dX4_digest_281 rfl rfl ?_
  refine r_iload hX dX4_digest_282 rfl ?_
  refine r_callV hX (z_X4_ordered ad ae cs K S 0 rest hS _ 4 (by omega) (by omega) _ 6 (by omega) (by omega)) kv_X4_196 14 rfl rfl rfl rfl (Nat.le_of_ble_eq_true rfl) ⟨(Nat.le_of_ble_eq_true rfl), (Nat.le_of_ble_eq_true rfl)⟩ ⟨(Nat.le_of_ble_eq_true rfl), (Nat.le_of_ble_eq_true rfl)⟩ dX4_digest_284 (fun _ _ z => False.elim z) (fun v9 ws9 h129 => ?_)
  obtain ⟨rfl, hw9⟩ := h129
  subst ws9
  dsimp only [mPush]
  have hto129 := zTo_b (sse S 4) (sna S 4) (sow S 4) (sse S 6) (sna S 6) (sow S 6)
  refine r_i2lZ hX dX4_digest_287 (by omega) ?_
  refine r_laddZ hX dX4_digest_288 ?_
  refine r_lstore_n hX dX4_digest_289 rfl (by decide) rfl ?_
  refine r_iincZ (z := 1) (y := 7) hX dX4_digest_290 rfl (by decide) rfl rfl ?_
  refine r_goto (tgt := 268) hX dX4_digest_293 (by decide) ?_
  refine r_iload hX dX4_digest_268 rfl ?_
  refine r_bipushZ hX dX4_digest_270 (by decide) ?_
  refine r_icmp_geZ (tgt := 296) hX dX4_digest_272 (by decide) (by decide) (by decide) (fun _ => ?_) (fun q => absurd (by decide) q)
  refine r_iincZ (z := 1) (y := 5) hX dX4_digest_296 rfl (by decide) rfl rfl ?_
  refine r_goto (tgt := 259) hX dX4_digest_299 (by decide) ?_
  refine r_iload_n hX dX4_digest_259 rfl rfl ?_
  refine r_bipushZ hX dX4_digest_260 (by decide) ?_
  refine r_icmp_geZ (tgt := 302) hX dX4_digest_262 (by decide) (by decide) (by decide) (fun q => absurd q (by decide)) (fun _ => ?_)
  refine r_iconstZ hX dX4_digest_265 ?_
  refine r_istore hX dX4_digest_266 (by decide) rfl ?_
  refine r_iload hX dX4_digest_268 rfl ?_
  refine r_bipushZ hX dX4_digest_270 (by decide) ?_
  refine r_icmp_geZ (tgt := 296) hX dX4_digest_272 (by decide) (by decide) (by decide) (fun q => absurd q (by decide)) (fun _ => ?_)
  refine r_lload_n hX dX4_digest_275 rfl rfl ?_
  refine r_ldc2Z (z := 31) hX kc_X4_227 (by decide) dX4_digest_276 ?_
  refine r_lmulZ hX dX4_digest_279 ?_
  refine r_aload_n hX dX4_digest_280 rfl rfl ?_
  refine r_iload_n hX dX4_digest_281 rfl rfl ?_
  refine r_iload hX dX4_digest_282 rfl ?_
  refine r_callV hX (z_X4_ordered ad ae cs K S 0 rest hS _ 5 (by omega) (by omega) _ 4 (by omega) (by omega)) kv_X4_196 14 rfl rfl rfl rfl (Nat.le_of_ble_eq_true rfl) ⟨(Nat.le_of_ble_eq_true rfl), (Nat.le_of_ble_eq_true rfl)⟩ ⟨(Nat.le_of_ble_eq_true rfl), (Nat.le_of_ble_eq_true rfl)⟩ dX4_digest_284 (fun _ _ z => False.elim z) (fun v9 ws9 h130 => ?_)
  obtain ⟨rfl, hw9⟩ := h130
  subst ws9
  dsimp only [mPush]
  have hto130 := zTo_b (sse S 5) (sna S 5) (sow S 5) (sse S 4) (sna S 4) (sow S 4)
  refine r_i2lZ hX dX4_digest_287 (by omega) ?_
  refine r_laddZ hX dX4_digest_288 ?_
  refine r_lstore_n hX dX4_digest_289 rfl (by decide) rfl ?_
  refine r_iincZ (z := 1) (y := 5) hX dX4_digest_290 rfl (by decide) rfl rfl ?_
  refine r_goto (tgt := 268) hX dX4_digest_293 (by decide) ?_
  refine r_iload hX dX4_digest_268 rfl ?_
  refine r_bipushZ hX dX4_digest_270 (by decide) ?_
  refine r_icmp_geZ (tgt := 296) hX dX4_digest_272 (by decide) (by decide) (by decide) (fun q => absurd q (by decide)) (fun _ => ?_)
  refine r_lload_n hX dX4_digest_275 rfl rfl ?_
  refine r_ldc2Z (z := 31) hX kc_X4_227 (by decide) dX4_digest_276 ?_
  refine r_lmulZ hX dX4_digest_279 ?_
  refine r_aload_n hX dX4_digest_280 rfl rfl ?_
  refine r_iload_n hX dX4_digest_281 rfl rfl ?_
  refine r_iload hX dX4_digest_282 rfl ?_
  refine r_callV hX (z_X4_ordered ad ae cs K S 0 rest hS _ 5 (by omega) (by omega) _ 5 (by omega) (by omega)) kv_X4_196 14 rfl rfl rfl rfl (Nat.le_of_ble_eq_true rfl) ⟨(Nat.le_of_ble_eq_true rfl), (Nat.le_of_ble_eq_true rfl)⟩ ⟨(Nat.le_of_ble_eq_true rfl), (Nat.le_of_ble_eq_true rfl)⟩ dX4_digest_284 (fun _ _ z => False.elim z) (fun v9 ws9 h131 => ?_)
  obtain ⟨rfl, hw9⟩ := h131
  subst ws9
  dsimp only [mPush]
  have hto131 := zTo_b (sse S 5) (sna S 5) (sow S 5) (sse S 5) (sna S 5) (sow S 5)
  refine r_i2lZ hX dX4_digest_287 (by omega) ?_
  refine r_laddZ hX dX4_digest_288 ?_
  refine r_lstore_n hX dX4_digest_289 rfl (by decide) rfl ?_
  refine r_iincZ (z := 1) (y := 6) hX dX4_digest_290 rfl (by decide) rfl rfl ?_
  refine r_goto (tgt := 268) hX dX4_digest_293 (by decide) ?_
  refine r_iload hX dX4_digest_268 rfl ?_
  refine r_bipushZ hX dX4_digest_270 (by decide) ?_
  refine r_icmp_geZ (tgt := 296) hX dX4_digest_272 (by decide) (by decide) (by decide) (fun q => absurd q (by decide)) (fun _ => ?_)
  refine r_lload_n hX dX4_digest_275 rfl rfl ?_
  refine r_ldc2Z (z := 31) hX kc_X4_227 (by decide) dX4_digest_276 ?_
  refine r_lmulZ hX dX4_digest_279 ?_
  refine r_aload_n hX dX4_digest_280 rfl rfl ?_
  refine r_iload_n hX dX4_digest_281 rfl rfl ?_
  refine r_iload hX dX4_digest_282 rfl ?_
  refine r_callV hX (z_X4_ordered ad ae cs K S 0 rest hS _ 5 (by omega) (by omega) _ 6 (by omega) (by omega)) kv_X4_196 14 rfl rfl rfl rfl (Nat.le_of_ble_eq_true rfl) ⟨(Nat.le_of_ble_eq_true rfl), (Nat.le_of_ble_eq_true rfl)⟩ ⟨(Nat.le_of_ble_eq_true rfl), (Nat.le_of_ble_eq_true rfl)⟩ dX4_digest_284 (fun _ _ z => False.elim z) (fun v9 ws9 h132 => ?_)
  obtain ⟨rfl, hw9⟩ := h132
  subst ws9
  dsimp only [mPush]
  have hto132 := zTo_b (sse S 5) (sna S 5) (sow S 5) (sse S 6) (sna S 6) (sow S 6)
  refine r_i2lZ hX dX4_digest_287 (by omega) ?_
  refine r_laddZ hX dX4_digest_288 ?_
  refine r_lstore_n hX dX4_digest_289 rfl (by decide) rfl ?_
  refine r_iincZ (z := 1) (y := 7) hX dX4_digest_290 rfl (by decide) rfl rfl ?_
  refine r_goto (tgt := 268) hX dX4_digest_293 (by decide) ?_
  refine r_iload hX dX4_digest_268 rfl ?_
  refine r_bipushZ hX dX4_digest_270 (by decide) ?_
  refine r_icmp_geZ (tgt := 296) hX dX4_digest_272 (by decide) (by decide) (by decide) (fun _ => ?_) (fun q => absurd (by decide) q)
  refine r_iincZ (z := 1) (y := 6) hX dX4_digest_296 rfl (by decide) rfl rfl ?_
  refine r_goto (tgt := 259) hX dX4_digest_299 (by decide) ?_
  refine r_iload_n hX dX4_digest_259 rfl rfl ?_
  refine r_bipushZ hX dX4_digest_260 (by decide) ?_
  refine r_icmp_geZ (tgt := 302) hX dX4_digest_262 (by decide) (by decide) (by decide) (fun q => absurd q (by decide)) (fun _ => ?_)
  refine r_iconstZ hX dX4_digest_265 ?_
  refine r_istore hX dX4_digest_266 (by decide) rfl ?_
  refine r_iload hX dX4_digest_268 rfl ?_
  refine r_bipushZ hX dX4_digest_270 (by decide) ?_
  refine r_icmp_geZ (tgt := 296) hX dX4_digest_272 (by decide) (by decide) (by decide) (fun q => absurd q (by decide)) (fun _ => ?_)
  refine r_lload_n hX dX4_digest_275 rfl rfl ?_
  refine r_ldc2Z (z := 31) hX kc_X4_227 (by decide) dX4_digest_276 ?_
  refine r_lmulZ hX dX4_digest_279 ?_
  refine r_aload_n hX dX4_digest_280 rfl rfl ?_
  refine r_iload_n hX dX4_digest_281 rfl rfl ?_
  refine r_iload hX dX4_digest_282 rfl ?_
  refine r_callV hX (z_X4_ordered ad ae cs K S 0 rest hS _ 6 (by omega) (by omega) _ 4 (by omega) (by omega)) kv_X4_196 14 rfl rfl rfl rfl (Nat.le_of_ble_eq_true rfl) ⟨(Nat.le_of_ble_eq_true rfl), (Nat.le_of_ble_eq_true rfl)⟩ ⟨(Nat.le_of_ble_eq_true rfl), (Nat.le_of_ble_eq_true rfl)⟩ dX4_digest_284 (fun _ _ z => False.elim z) (fun v9 ws9 h133 => ?_)
  obtain ⟨rfl, hw9⟩ := h133
  subst ws9
  dsimp only [mPush]
  have hto133 := zTo_b (sse S 6) (sna S 6) (sow S 6) (sse S 4) (sna S 4) (sow S 4)
  refine r_i2lZ hX dX4_digest_287 (by omega) ?_
  refine r_laddZ hX dX4_digest_288 ?_
  refine r_lstore_n hX dX4_digest_289 rfl (by decide) rfl ?_
  refine r_iincZ (z := 1) (y := 5) hX dX4_digest_290 rfl (by decide) rfl rfl ?_
  refine r_goto (tgt := 268) hX dX4_digest_293 (by decide) ?_
  refine r_iload hX dX4_digest_268 rfl ?_
  refine r_bipushZ hX dX4_digest_270 (by decide) ?_
  refine r_icmp_geZ (tgt := 296) hX dX4_digest_272 (by decide) (by decide) (by decide) (fun q => absurd q (by decide)) (fun _ => ?_)
  refine r_lload_n hX dX4_digest_275 rfl rfl ?_
  refine r_ldc2Z (z := 31) hX kc_X4_227 (by decide) dX4_digest_276 ?_
  refine r_lmulZ hX dX4_digest_279 ?_
  refine r_aload_n hX dX4_digest_280 rfl rfl ?_
  refine r_iload_n hX dX4_digest_281 rfl rfl ?_
  refine r_iload hX dX4_digest_282 rfl ?_
  refine r_callV hX (z_X4_ordered ad ae cs K S 0 rest hS _ 6 (by omega) (by omega) _ 5 (by omega) (by omega)) kv_X4_196 14 rfl rfl rfl rfl (Nat.le_of_ble_eq_true rfl) ⟨(Nat.le_of_ble_eq_true rfl), (Nat.le_of_ble_eq_true rfl)⟩ ⟨(Nat.le_of_ble_eq_true rfl), (Nat.le_of_ble_eq_true rfl)⟩ dX4_digest_284 (fun _ _ z => False.elim z) (fun v9 ws9 h134 => ?_)
  obtain ⟨rfl, hw9⟩ := h134
  subst ws9
  dsimp only [mPush]
  have hto134 := zTo_b (sse S 6) (sna S 6) (sow S 6) (sse S 5) (sna S 5) (sow S 5)
  refine r_i2lZ hX dX4_digest_287 (by omega) ?_
  refine r_laddZ hX dX4_digest_288 ?_
  refine r_lstore_n hX dX4_digest_289 rfl (by decide) rfl ?_
  refine r_iincZ (z := 1) (y := 6) hX dX4_digest_290 rfl (by decide) rfl rfl ?_
  refine r_goto (tgt := 268) hX dX4_digest_293 (by decide) ?_
  refine r_iload hX dX4_digest_268 rfl ?_
  refine r_bipushZ hX dX4_digest_270 (by decide) ?_
  refine r_icmp_geZ (tgt := 296) hX dX4_digest_272 (by decide) (by decide) (by decide) (fun q => absurd q (by decide)) (fun _ => ?_)
  refine r_lload_n hX dX4_digest_275 rfl rfl ?_
  refine r_ldc2Z (z := 31) hX kc_X4_227 (by decide) dX4_digest_276 ?_
  refine r_lmulZ hX dX4_digest_279 ?_
  refine r_aload_n hX dX4_digest_280 rfl rfl ?_
  refine r_iload_n hX dX4_digest_281 rfl rfl ?_
  refine r_iload hX dX4_digest_282 rfl ?_
  refine r_callV hX (z_X4_ordered ad ae cs K S 0 rest hS _ 6 (by omega) (by omega) _ 6 (by omega) (by omega)) kv_X4_196 14 rfl rfl rfl rfl (Nat.le_of_ble_eq_true rfl) ⟨(Nat.le_of_ble_eq_true rfl), (Nat.le_of_ble_eq_true rfl)⟩ ⟨(Nat.le_of_ble_eq_true rfl), (Nat.le_of_ble_eq_true rfl)⟩ dX4_digest_284 (fun _ _ z => False.elim z) (fun v9 ws9 h135 => ?_)
  obtain ⟨rfl, hw9⟩ := h135
  subst ws9
  dsimp only [mPush]
  have hto135 := zTo_b (sse S 6) (sna S 6) (sow S 6) (sse S 6) (sna S 6) (sow S 6)
  refine r_i2lZ hX dX4_digest_287 (by omega) ?_
  refine r_laddZ hX dX4_digest_288 ?_
  refine r_lstore_n hX dX4_digest_289 rfl (by decide) rfl ?_
  refine r_iincZ (z := 1) (y := 7) hX dX4_digest_290 rfl (by decide) rfl rfl ?_
  refine r_goto (tgt := 268) hX dX4_digest_293 (by decide) ?_
  refine r_iload hX dX4_digest_268 rfl ?_
  refine r_bipushZ hX dX4_digest_270 (by decide) ?_
  refine r_icmp_geZ (tgt := 296) hX dX4_digest_272 (by decide) (by decide) (by decide) (fun _ => ?_) (fun q => absurd (by decide) q)
  refine r_iincZ (z := 1) (y := 7) hX dX4_digest_296 rfl (by decide) rfl rfl ?_
  refine r_goto (tgt := 259) hX dX4_digest_299 (by decide) ?_
  refine r_iload_n hX dX4_digest_259 rfl rfl ?_
  refine r_bipushZ hX dX4_digest_260 (by decide) ?_
  refine r_icmp_geZ (tgt := 302) hX dX4_digest_262 (by decide) (by decide) (by decide) (fun _ => ?_) (fun q => absurd (by decide) q)
  refine r_iconstZ hX dX4_digest_302 ?_
  refine r_istore_n hX dX4_digest_303 rfl (by decide) rfl ?_
  refine r_iload_n hX dX4_digest_304 rfl rfl ?_
  refine r_iconstZ hX dX4_digest_305 ?_
  refine r_icmp_gtZ (tgt := 328) hX dX4_digest_306 (by decide) (by decide) (by decide) (fun q => absurd q (by decide)) (fun _ => ?_)
  refine r_lload_n hX dX4_digest_309 rfl rfl ?_
  refine r_ldc2Z (z := 31) hX kc_X4_227 (by decide) dX4_digest_310 ?_
  refine r_lmulZ hX dX4_digest_313 ?_
  refine r_aload_n hX dX4_digest_314 rfl rfl ?_
  refine r_iload_n hX dX4_digest_315 rfl rfl ?_
  refine r_callV hX (z_X4_houseTold ad ae cs K S 0 rest hS _ (by omega)) kv_X4_222 14 rfl rfl rfl rfl (Nat.le_of_ble_eq_true rfl) ⟨(Nat.le_of_ble_eq_true rfl), (Nat.le_of_ble_eq_true rfl)⟩ ⟨(Nat.le_of_ble_eq_true rfl), (Nat.le_of_ble_eq_true rfl)⟩ dX4_digest_316 (fun _ _ z => False.elim z) (fun v9 ws9 h136 => ?_)
  obtain ⟨rfl, hw9⟩ := h136
  subst ws9
  dsimp only [mPush]
  try clear hho
  have hho := iZ_rng (zHo S 0)
  rw [← iZ_self (zHo S 0)]
  refine r_i2lZ hX dX4_digest_319 (by omega) ?_
  refine r_laddZ hX dX4_digest_320 ?_
  refine r_lstore_n hX dX4_digest_321 rfl (by decide) rfl ?_
  refine r_iincZ (z := 1) (y := 1) hX dX4_digest_322 rfl (by decide) rfl rfl ?_
  refine r_goto (tgt := 304) hX dX4_digest_325 (by decide) ?_
  refine r_iload_n hX dX4_digest_304 rfl rfl ?_
  refine r_iconstZ hX dX4_digest_305 ?_
  refine r_icmp_gtZ (tgt := 328) hX dX4_digest_306 (by decide) (by decide) (by decide) (fun q => absurd q (by decide)) (fun _ => ?_)
  refine r_lload_n hX dX4_digest_309 rfl rfl ?_
  refine r_ldc2Z (z := 31) hX kc_X4_227 (by decide) dX4_digest_310 ?_
  refine r_lmulZ hX dX4_digest_313 ?_
  refine r_aload_n hX dX4_digest_314 rfl rfl ?_
  refine r_iload_n hX dX4_digest_315 rfl rfl ?_
  refine r_callV hX (z_X4_houseTold ad ae cs K S 0 rest hS _ (by omega)) kv_X4_222 14 rfl rfl rfl rfl (Nat.le_of_ble_eq_true rfl) ⟨(Nat.le_of_ble_eq_true rfl), (Nat.le_of_ble_eq_true rfl)⟩ ⟨(Nat.le_of_ble_eq_true rfl), (Nat.le_of_ble_eq_true rfl)⟩ dX4_digest_316 (fun _ _ z => False.elim z) (fun v9 ws9 h137 => ?_)
  obtain ⟨rfl, hw9⟩ := h137
  subst ws9
  dsimp only [mPush]
  try clear hho
  have hho := iZ_rng (zHo S 1)
  rw [← iZ_self (zHo S 1)]
  refine r_i2lZ hX dX4_digest_319 (by omega) ?_
  refine r_laddZ hX dX4_digest_320 ?_
  refine r_lstore_n hX dX4_digest_321 rfl (by decide) rfl ?_
  refine r_iincZ (z := 1) (y := 2) hX dX4_digest_322 rfl (by decide) rfl rfl ?_
  refine r_goto (tgt := 304) hX dX4_digest_325 (by decide) ?_
  refine r_iload_n hX dX4_digest_304 rfl rfl ?_
  refine r_iconstZ hX dX4_digest_305 ?_
  refine r_icmp_gtZ (tgt := 328) hX dX4_digest_306 (by decide) (by decide) (by decide) (fun q => absurd q (by decide)) (fun _ => ?_)
  refine r_lload_n hX dX4_digest_309 rfl rfl ?_
  refine r_ldc2Z (z := 31) hX kc_X4_227 (by decide) dX4_digest_310 ?_
  refine r_lmulZ hX dX4_digest_313 ?_
  refine r_aload_n hX dX4_digest_314 rfl rfl ?_
  refine r_iload_n hX dX4_digest_315 rfl rfl ?_
  refine r_callV hX (z_X4_houseTold ad ae cs K S 0 rest hS _ (by omega)) kv_X4_222 14 rfl rfl rfl rfl (Nat.le_of_ble_eq_true rfl) ⟨(Nat.le_of_ble_eq_true rfl), (Nat.le_of_ble_eq_true rfl)⟩ ⟨(Nat.le_of_ble_eq_true rfl), (Nat.le_of_ble_eq_true rfl)⟩ dX4_digest_316 (fun _ _ z => False.elim z) (fun v9 ws9 h138 => ?_)
  obtain ⟨rfl, hw9⟩ := h138
  subst ws9
  dsimp only [mPush]
  try clear hho
  have hho := iZ_rng (zHo S 2)
  rw [← iZ_self (zHo S 2)]
  refine r_i2lZ hX dX4_digest_319 (by omega) ?_
  refine r_laddZ hX dX4_digest_320 ?_
  refine r_lstore_n hX dX4_digest_321 rfl (by decide) rfl ?_
  refine r_iincZ (z := 1) (y := 3) hX dX4_digest_322 rfl (by decide) rfl rfl ?_
  refine r_goto (tgt := 304) hX dX4_digest_325 (by decide) ?_
  refine r_iload_n hX dX4_digest_304 rfl rfl ?_
  refine r_iconstZ hX dX4_digest_305 ?_
  refine r_icmp_gtZ (tgt := 328) hX dX4_digest_306 (by decide) (by decide) (by decide) (fun q => absurd q (by decide)) (fun _ => ?_)
  refine r_lload_n hX dX4_digest_309 rfl rfl ?_
  refine r_ldc2Z (z := 31) hX kc_X4_227 (by decide) dX4_digest_310 ?_
  refine r_lmulZ hX dX4_digest_313 ?_
  refine r_aload_n hX dX4_digest_314 rfl rfl ?_
  refine r_iload_n hX dX4_digest_315 rfl rfl ?_
  refine r_callV hX (z_X4_houseTold ad ae cs K S 0 rest hS _ (by omega)) kv_X4_222 14 rfl rfl rfl rfl (Nat.le_of_ble_eq_true rfl) ⟨(Nat.le_of_ble_eq_true rfl), (Nat.le_of_ble_eq_true rfl)⟩ ⟨(Nat.le_of_ble_eq_true rfl), (Nat.le_of_ble_eq_true rfl)⟩ dX4_digest_316 (fun _ _ z => False.elim z) (fun v9 ws9 h139 => ?_)
  obtain ⟨rfl, hw9⟩ := h139
  subst ws9
  dsimp only [mPush]
  try clear hho
  have hho := iZ_rng (zHo S 3)
  rw [← iZ_self (zHo S 3)]
  refine r_i2lZ hX dX4_digest_319 (by omega) ?_
  refine r_laddZ hX dX4_digest_320 ?_
  refine r_lstore_n hX dX4_digest_321 rfl (by decide) rfl ?_
  refine r_iincZ (z := 1) (y := 4) hX dX4_digest_322 rfl (by decide) rfl rfl ?_
  refine r_goto (tgt := 304) hX dX4_digest_325 (by decide) ?_
  refine r_iload_n hX dX4_digest_304 rfl rfl ?_
  refine r_iconstZ hX dX4_digest_305 ?_
  refine r_icmp_gtZ (tgt := 328) hX dX4_digest_306 (by decide) (by decide) (by decide) (fun _ => ?_) (fun q => absurd (by decide) q)
  refine r_lload_n hX dX4_digest_328 rfl rfl ?_
  refine r_ldc2Z (z := 31) hX kc_X4_227 (by decide) dX4_digest_329 ?_
  refine r_lmulZ hX dX4_digest_332 ?_
  refine r_lconstZ (v := 1) hX dX4_digest_333 rfl ?_
  refine r_laddZ hX dX4_digest_334 ?_
  exact r_lret hX hE dX4_digest_335 (Nat.le_of_ble_eq_true rfl) (Nat.le_of_ble_eq_true rfl) ⟨zl rfl, rfl⟩

