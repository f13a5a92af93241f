-- 7b zrdig
section
/-! The reference, exact (rows by a program of this repository). -/
theorem zRw_th {ad ae : Nat → Nat} {cs : ClassId × ClassId × ClassId} {K : mK} {S : mS} {th t : Int32} {rest : va_W} : (mRw ad ae cs K (mJof S th) rest).set 14 (ae 0, .inr (5, [.int t, .int S.2.2.2.1, .int S.2.2.2.2, .ref (ae 1), .ref (ae 2), .ref (ae 3), .ref (ae 4), .ref (ae 5), .ref (ae 6)])) = mRw ad ae cs K (mJof S t) rest := rfl
section ZR5
variable {X : mC} {own : String} {cc : ByteArray} {nL : Nat} {R : Room} {hh : List (Nat × Nat × Nat × Nat)} {tys : List (ClassId × FieldType)} {pc : Nat} {lv : List (Nat × Option Value)} {st : List Value} {ws : va_W} {k n : Nat}
theorem r_laddG {a b : Int} (hX : mOK X own cc nL R hh tys) (hd : decode cc pc = .ok (.ladd, 1)) (kk : ∀ g : Int, dgE a b g → mV X (pc + 1) lv (.long (lZ g) :: st) ws k n) : mV X pc lv (.long (lZ b) :: .long (lZ a) :: st) ws k n := r_laddZ hX hd (kk _ (rfl : a + b = a + b))
end ZR5
set_option maxHeartbeats 4000000 in
set_option maxRecDepth 20000 in
theorem z_X4_digest (ad ae : Nat → Nat) (cs : ClassId × ClassId × ClassId) (K : mK) (S : mS) (th : Int32) (rest : va_W) (hS : sWF S)  : mCt (mTy cs) yX4_digest cX4_digest 8 (some .long) ⟨7, 70, 280, 164⟩ [.ref (ae 0)] (mRw ad ae cs K (mJof S th) rest) (fun v ws' => v = some (.long (lZ (zDig S))) ∧ ws' = mRw ad ae cs K (mJof S 0) rest) mNo := by
  refine mCt.of (by decide +kernel) (Nat.le_of_ble_eq_true rfl) (fun X hX hE => ?_)
  replace hX : mOK X RX4 cX4_digest 8 ⟨7, 70, 280, 164⟩ [] (mTy cs) := hX
  have hbD0 : ∀ w : Int, -2147483648 ≤ zDP (sse S 0) (sna S 0) (sow S 0) w ∧ zDP (sse S 0) (sna S 0) (sow S 0) w ≤ 2147483647 := by
    have hr := zrg hS (d := 0) (by decide)
    have hs := hS.2.2.2.1 0 (by decide)
    exact fun w => zDP_b (by omega) (by omega) (by omega)
  have hbD1 : ∀ w : Int, -2147483648 ≤ zDP (sse S 1) (sna S 1) (sow S 1) w ∧ zDP (sse S 1) (sna S 1) (sow S 1) w ≤ 2147483647 := by
    have hr := zrg hS (d := 1) (by decide)
    have hs := hS.2.2.2.1 1 (by decide)
    exact fun w => zDP_b (by omega) (by omega) (by omega)
  have hbD2 : ∀ w : Int, -2147483648 ≤ zDP (sse S 2) (sna S 2) (sow S 2) w ∧ zDP (sse S 2) (sna S 2) (sow S 2) w ≤ 2147483647 := by
    have hr := zrg hS (d := 2) (by decide)
    have hs := hS.2.2.2.1 2 (by decide)
    exact fun w => zDP_b (by omega) (by omega) (by omega)
  have hbD3 : ∀ w : Int, -2147483648 ≤ zDP (sse S 3) (sna S 3) (sow S 3) w ∧ zDP (sse S 3) (sna S 3) (sow S 3) w ≤ 2147483647 := by
    have hr := zrg hS (d := 3) (by decide)
    have hs := hS.2.2.2.1 3 (by decide)
    exact fun w => zDP_b (by omega) (by omega) (by omega)
  have hbC0 : ∀ w : Int, -2147483648 ≤ zCP (sse S (0 + 4)) (sna S (0 + 4)) (sow S (0 + 4)) w ∧ zCP (sse S (0 + 4)) (sna S (0 + 4)) (sow S (0 + 4)) w ≤ 2147483647 := by
    have hr := zrg hS (d := 0 + 4) (by decide)
    have hs := hS.2.2.2.2 (0 + 4) (by decide) (by decide)
    exact fun w => zCP_b (by omega) (by omega) (by omega)
  have hbC1 : ∀ w : Int, -2147483648 ≤ zCP (sse S (1 + 4)) (sna S (1 + 4)) (sow S (1 + 4)) w ∧ zCP (sse S (1 + 4)) (sna S (1 + 4)) (sow S (1 + 4)) w ≤ 2147483647 := by
    have hr := zrg hS (d := 1 + 4) (by decide)
    have hs := hS.2.2.2.2 (1 + 4) (by decide) (by decide)
    exact fun w => zCP_b (by omega) (by omega) (by omega)
  have hbC2 : ∀ w : Int, -2147483648 ≤ zCP (sse S (2 + 4)) (sna S (2 + 4)) (sow S (2 + 4)) w ∧ zCP (sse S (2 + 4)) (sna S (2 + 4)) (sow S (2 + 4)) w ≤ 2147483647 := by
    have hr := zrg hS (d := 2 + 4) (by decide)
    have hs := hS.2.2.2.2 (2 + 4) (by decide) (by decide)
    exact fun w => zCP_b (by omega) (by omega) (by omega)
  have hn0 := hS.2.1 0 (by decide)
  have hn1 := hS.2.1 1 (by decide)
  have hn2 := hS.2.1 2 (by decide)
  have hn3 := hS.2.1 3 (by decide)
  have ho0 := hS.1 0 (by decide)
  have ho1 := hS.1 1 (by decide)
  have ho2 := hS.1 2 (by decide)
  have ho3 := hS.1 3 (by decide)
  refine r_aload_n hX dX4_digest_0 rfl rfl (r_iconst (v := 0) hX dX4_digest_1 (by decide) (r_put hX kf_X4_29 14 rfl rfl rfl rfl (Nat.le_of_ble_eq_true rfl) dX4_digest_2 (r_eqw (zRw_th (t := 0)) (r_ldc2Z (z := 6199) hX kc_X4_225 (by decide +kernel) dX4_digest_5 (r_lstore_n hX dX4_digest_8 rfl (by decide) rfl (r_aload_n hX dX4_digest_9 rfl rfl (r_get hX kf_X4_7 14 rfl rfl dX4_digest_10 ?_)))))))
  refine r_astore_n hX dX4_digest_13 rfl (by decide) rfl (r_aload_n hX dX4_digest_14 rfl rfl (r_alen (v := iZ 4) hX 15 0 rfl rfl rfl dX4_digest_15 (r_istore hX dX4_digest_16 (by decide) rfl (r_iconstZ hX dX4_digest_18 (r_istore hX dX4_digest_19 (by decide) rfl (r_iload hX dX4_digest_21 rfl (r_iload hX dX4_digest_23 rfl ?_)))))))
  refine r_icmp_geZ (tgt := 50) hX dX4_digest_25 (by decide) (by decide) (by decide) (fun q => absurd q (by decide)) (fun _ => ?_)
  refine r_aload_n hX dX4_digest_28 rfl rfl (r_iload hX dX4_digest_29 rfl (r_ialdZ hX 15 0 rfl rfl 0 (by decide) (by decide) (by decide) dX4_digest_31 (r_istore hX dX4_digest_32 (by decide) rfl (r_lload_n hX dX4_digest_34 rfl rfl (r_ldc2Z (z := 31) hX kc_X4_227 (by decide +kernel) dX4_digest_35 (r_lmulZ hX dX4_digest_38 (r_iload hX dX4_digest_39 rfl ?_)))))))
  refine r_i2lZ hX dX4_digest_41 (by first | with_reducible assumption | decide | omega) (r_laddG hX dX4_digest_42 (fun g1 hg1 => ?_))
  refine r_lstore_n hX dX4_digest_43 rfl (by decide) rfl (r_iincZ (z := 1) (y := 1) hX dX4_digest_44 rfl (by decide) rfl rfl (r_goto (tgt := 21) hX dX4_digest_47 (by decide) (r_iload hX dX4_digest_21 rfl (r_iload hX dX4_digest_23 rfl (r_icmp_geZ (tgt := 50) hX dX4_digest_25 (by decide) (by decide) (by decide) (fun q => absurd q (by decide)) (fun _ => ?_))))))
  refine r_aload_n hX dX4_digest_28 rfl rfl (r_iload hX dX4_digest_29 rfl (r_ialdZ hX 15 0 rfl rfl 1 (by decide) (by decide) (by decide) dX4_digest_31 (r_istore hX dX4_digest_32 (by decide) rfl (r_lload_n hX dX4_digest_34 rfl rfl (r_ldc2Z (z := 31) hX kc_X4_227 (by decide +kernel) dX4_digest_35 (r_lmulZ hX dX4_digest_38 (r_iload hX dX4_digest_39 rfl ?_)))))))
  refine r_i2lZ hX dX4_digest_41 (by first | with_reducible assumption | decide | omega) (r_laddG hX dX4_digest_42 (fun g2 hg2 => ?_))
  refine r_lstore_n hX dX4_digest_43 rfl (by decide) rfl (r_lc6 (i0 := 0) (i1 := 1) (i2 := 3) (i3 := 4) (i4 := 5) (i5 := 6) rfl rfl rfl rfl rfl rfl (r_iincZ (z := 1) (y := 2) hX dX4_digest_44 rfl (by decide) rfl rfl (r_goto (tgt := 21) hX dX4_digest_47 (by decide) (r_iload hX dX4_digest_21 rfl (r_iload hX dX4_digest_23 rfl (r_icmp_geZ (tgt := 50) hX dX4_digest_25 (by decide) (by decide) (by decide) (fun q => absurd q (by decide)) (fun _ => ?_)))))))
  refine r_aload_n hX dX4_digest_28 rfl rfl (r_iload hX dX4_digest_29 rfl (r_ialdZ hX 15 0 rfl rfl 2 (by decide) (by decide) (by decide) dX4_digest_31 (r_istore hX dX4_digest_32 (by decide) rfl (r_lload_n hX dX4_digest_34 rfl rfl (r_ldc2Z (z := 31) hX kc_X4_227 (by decide +kernel) dX4_digest_35 (r_lmulZ hX dX4_digest_38 (r_iload hX dX4_digest_39 rfl ?_)))))))
  refine r_i2lZ hX dX4_digest_41 (by first | with_reducible assumption | decide | omega) (r_laddG hX dX4_digest_42 (fun g3 hg3 => ?_))
  refine r_lstore_n hX dX4_digest_43 rfl (by decide) rfl (r_iincZ (z := 1) (y := 3) hX dX4_digest_44 rfl (by decide) rfl rfl (r_goto (tgt := 21) hX dX4_digest_47 (by decide) (r_iload hX dX4_digest_21 rfl (r_iload hX dX4_digest_23 rfl (r_icmp_geZ (tgt := 50) hX dX4_digest_25 (by decide) (by decide) (by decide) (fun q => absurd q (by decide)) (fun _ => ?_))))))
  refine r_aload_n hX dX4_digest_28 rfl rfl (r_iload hX dX4_digest_29 rfl (r_ialdZ hX 15 0 rfl rfl 3 (by decide) (by decide) (by decide) dX4_digest_31 (r_istore hX dX4_digest_32 (by decide) rfl (r_lload_n hX dX4_digest_34 rfl rfl (r_ldc2Z (z := 31) hX kc_X4_227 (by decide +kernel) dX4_digest_35 (r_lmulZ hX dX4_digest_38 (r_iload hX dX4_digest_39 rfl ?_)))))))
  refine r_i2lZ hX dX4_digest_41 (by first | with_reducible assumption | decide | omega) (r_laddG hX dX4_digest_42 (fun g4 hg4 => ?_))
  refine r_lstore_n hX dX4_digest_43 rfl (by decide) rfl (r_iincZ (z := 1) (y := 4) hX dX4_digest_44 rfl (by decide) rfl rfl (r_goto (tgt := 21) hX dX4_digest_47 (by decide) (r_iload hX dX4_digest_21 rfl (r_iload hX dX4_digest_23 rfl (r_icmp_geZ (tgt := 50) hX dX4_digest_25 (by decide) (by decide) (by decide) (fun _ => ?_) (fun q => absurd (by decide) q))))))
  refine r_aload_n hX dX4_digest_50 rfl rfl (r_get hX kf_X4_13 14 rfl rfl dX4_digest_51 (r_astore_n hX dX4_digest_54 rfl (by decide) rfl (r_aload_n hX dX4_digest_55 rfl rfl (r_alen (v := iZ 4) hX 16 1 rfl rfl rfl dX4_digest_56 (r_istore hX dX4_digest_57 (by decide) rfl (r_iconstZ hX dX4_digest_59 (r_istore hX dX4_digest_60 (by decide) rfl ?_)))))))
  refine r_lc6 (i0 := 0) (i1 := 1) (i2 := 3) (i3 := 4) (i4 := 5) (i5 := 6) rfl rfl rfl rfl rfl rfl (r_iload hX dX4_digest_62 rfl (r_iload hX dX4_digest_64 rfl (r_icmp_geZ (tgt := 110) hX dX4_digest_66 (by decide) (by decide) (by decide) (fun q => absurd q (by decide)) (fun _ => ?_))))
  refine r_aload_n hX dX4_digest_69 rfl rfl (r_iload hX dX4_digest_70 rfl (r_laldZ hX 16 1 rfl rfl 0 (by decide) (by decide) (by decide) dX4_digest_72 (r_lstore hX dX4_digest_73 (by decide) rfl (r_lload_n hX dX4_digest_75 rfl rfl (r_ldc2Z (z := 31) hX kc_X4_227 (by decide +kernel) dX4_digest_76 (r_lmulZ hX dX4_digest_79 (r_lload hX dX4_digest_80 rfl ?_)))))))
  refine r_ldc2Z (z := 1000000000) hX kc_X4_96 (by decide +kernel) dX4_digest_82 (r_callS hX (c_X4_whole_x _ _ _ _ (by first | with_reducible assumption | decide | omega) (by first | with_reducible assumption | decide | omega) (by first | with_reducible assumption | decide | omega) (by first | with_reducible assumption | decide | omega)) ks_X4_92 rfl rfl (Nat.le_of_ble_eq_true rfl) ⟨(Nat.le_of_ble_eq_true rfl), (Nat.le_of_ble_eq_true rfl)⟩ ⟨(Nat.le_of_ble_eq_true rfl), (Nat.le_of_ble_eq_true rfl)⟩ dX4_digest_85 (fun _ _ z => False.elim z) (fun v9 ws9 h1 => ?_))
  obtain ⟨rfl, hw9⟩ := h1
  subst ws9
  dsimp only [mPush]
  refine r_laddG hX dX4_digest_88 (fun g5 hg5 => ?_)
  refine r_ldc2Z (z := 31) hX kc_X4_227 (by decide +kernel) dX4_digest_89 (r_lmulZ hX dX4_digest_92 (r_lload hX dX4_digest_93 rfl (r_ldc2Z (z := 1000000000) hX kc_X4_96 (by decide +kernel) dX4_digest_95 (r_callS hX (c_X4_rest_x _ _ _ _ (by first | with_reducible assumption | decide | omega) (by first | with_reducible assumption | decide | omega) (by first | with_reducible assumption | decide | omega) (by first | with_reducible assumption | decide | omega)) ks_X4_102 rfl rfl (Nat.le_of_ble_eq_true rfl) ⟨(Nat.le_of_ble_eq_true rfl), (Nat.le_of_ble_eq_true rfl)⟩ ⟨(Nat.le_of_ble_eq_true rfl), (Nat.le_of_ble_eq_true rfl)⟩ dX4_digest_98 (fun _ _ z => False.elim z) (fun v9 ws9 h2 => ?_)))))
  obtain ⟨rfl, hw9⟩ := h2
  subst ws9
  dsimp only [mPush]
  refine r_i2lZ hX dX4_digest_101 (by first | with_reducible assumption | decide | omega) (r_laddG hX dX4_digest_102 (fun g6 hg6 => ?_))
  refine r_lstore_n hX dX4_digest_103 rfl (by decide) rfl (r_iincZ (z := 1) (y := 1) hX dX4_digest_104 rfl (by decide) rfl rfl (r_goto (tgt := 62) hX dX4_digest_107 (by decide) (r_iload hX dX4_digest_62 rfl (r_iload hX dX4_digest_64 rfl (r_icmp_geZ (tgt := 110) hX dX4_digest_66 (by decide) (by decide) (by decide) (fun q => absurd q (by decide)) (fun _ => ?_))))))
  refine r_aload_n hX dX4_digest_69 rfl rfl (r_iload hX dX4_digest_70 rfl (r_laldZ hX 16 1 rfl rfl 1 (by decide) (by decide) (by decide) dX4_digest_72 (r_lstore hX dX4_digest_73 (by decide) rfl (r_lload_n hX dX4_digest_75 rfl rfl (r_ldc2Z (z := 31) hX kc_X4_227 (by decide +kernel) dX4_digest_76 (r_lmulZ hX dX4_digest_79 (r_lload hX dX4_digest_80 rfl ?_)))))))
  refine r_ldc2Z (z := 1000000000) hX kc_X4_96 (by decide +kernel) dX4_digest_82 (r_callS hX (c_X4_whole_x _ _ _ _ (by first | with_reducible assumption | decide | omega) (by first | with_reducible assumption | decide | omega) (by first | with_reducible assumption | decide | omega) (by first | with_reducible assumption | decide | omega)) ks_X4_92 rfl rfl (Nat.le_of_ble_eq_true rfl) ⟨(Nat.le_of_ble_eq_true rfl), (Nat.le_of_ble_eq_true rfl)⟩ ⟨(Nat.le_of_ble_eq_true rfl), (Nat.le_of_ble_eq_true rfl)⟩ dX4_digest_85 (fun _ _ z => False.elim z) (fun v9 ws9 h3 => ?_))
  obtain ⟨rfl, hw9⟩ := h3
  subst ws9
  dsimp only [mPush]
  refine r_laddG hX dX4_digest_88 (fun g7 hg7 => ?_)
  refine r_ldc2Z (z := 31) hX kc_X4_227 (by decide +kernel) dX4_digest_89 (r_lmulZ hX dX4_digest_92 (r_lload hX dX4_digest_93 rfl (r_ldc2Z (z := 1000000000) hX kc_X4_96 (by decide +kernel) dX4_digest_95 (r_callS hX (c_X4_rest_x _ _ _ _ (by first | with_reducible assumption | decide | omega) (by first | with_reducible assumption | decide | omega) (by first | with_reducible assumption | decide | omega) (by first | with_reducible assumption | decide | omega)) ks_X4_102 rfl rfl (Nat.le_of_ble_eq_true rfl) ⟨(Nat.le_of_ble_eq_true rfl), (Nat.le_of_ble_eq_true rfl)⟩ ⟨(Nat.le_of_ble_eq_true rfl), (Nat.le_of_ble_eq_true rfl)⟩ dX4_digest_98 (fun _ _ z => False.elim z) (fun v9 ws9 h4 => ?_)))))
  obtain ⟨rfl, hw9⟩ := h4
  subst ws9
  dsimp only [mPush]
  refine r_i2lZ hX dX4_digest_101 (by first | with_reducible assumption | decide | omega) (r_laddG hX dX4_digest_102 (fun g8 hg8 => ?_))
  refine r_lstore_n hX dX4_digest_103 rfl (by decide) rfl (r_iincZ (z := 1) (y := 2) hX dX4_digest_104 rfl (by decide) rfl rfl (r_goto (tgt := 62) hX dX4_digest_107 (by decide) (r_iload hX dX4_digest_62 rfl (r_iload hX dX4_digest_64 rfl (r_icmp_geZ (tgt := 110) hX dX4_digest_66 (by decide) (by decide) (by decide) (fun q => absurd q (by decide)) (fun _ => ?_))))))
  refine r_aload_n hX dX4_digest_69 rfl rfl (r_iload hX dX4_digest_70 rfl (r_laldZ hX 16 1 rfl rfl 2 (by decide) (by decide) (by decide) dX4_digest_72 (r_lstore hX dX4_digest_73 (by decide) rfl (r_lc6 (i0 := 0) (i1 := 1) (i2 := 3) (i3 := 4) (i4 := 5) (i5 := 6) rfl rfl rfl rfl rfl rfl (r_lload_n hX dX4_digest_75 rfl rfl (r_ldc2Z (z := 31) hX kc_X4_227 (by decide +kernel) dX4_digest_76 (r_lmulZ hX dX4_digest_79 ?_)))))))
  refine r_lload hX dX4_digest_80 rfl (r_ldc2Z (z := 1000000000) hX kc_X4_96 (by decide +kernel) dX4_digest_82 (r_callS hX (c_X4_whole_x _ _ _ _ (by first | with_reducible assumption | decide | omega) (by first | with_reducible assumption | decide | omega) (by first | with_reducible assumption | decide | omega) (by first | with_reducible assumption | decide | omega)) ks_X4_92 rfl rfl (Nat.le_of_ble_eq_true rfl) ⟨(Nat.le_of_ble_eq_true rfl), (Nat.le_of_ble_eq_true rfl)⟩ ⟨(Nat.le_of_ble_eq_true rfl), (Nat.le_of_ble_eq_true rfl)⟩ dX4_digest_85 (fun _ _ z => False.elim z) (fun v9 ws9 h5 => ?_)))
  obtain ⟨rfl, hw9⟩ := h5
  subst ws9
  dsimp only [mPush]
  refine r_laddG hX dX4_digest_88 (fun g9 hg9 => ?_)
  refine r_ldc2Z (z := 31) hX kc_X4_227 (by decide +kernel) dX4_digest_89 (r_lmulZ hX dX4_digest_92 (r_lload hX dX4_digest_93 rfl (r_ldc2Z (z := 1000000000) hX kc_X4_96 (by decide +kernel) dX4_digest_95 (r_callS hX (c_X4_rest_x _ _ _ _ (by first | with_reducible assumption | decide | omega) (by first | with_reducible assumption | decide | omega) (by first | with_reducible assumption | decide | omega) (by first | with_reducible assumption | decide | omega)) ks_X4_102 rfl rfl (Nat.le_of_ble_eq_true rfl) ⟨(Nat.le_of_ble_eq_true rfl), (Nat.le_of_ble_eq_true rfl)⟩ ⟨(Nat.le_of_ble_eq_true rfl), (Nat.le_of_ble_eq_true rfl)⟩ dX4_digest_98 (fun _ _ z => False.elim z) (fun v9 ws9 h6 => ?_)))))
  obtain ⟨rfl, hw9⟩ := h6
  subst ws9
  dsimp only [mPush]
  refine r_i2lZ hX dX4_digest_101 (by first | with_reducible assumption | decide | omega) (r_laddG hX dX4_digest_102 (fun g10 hg10 => ?_))
  refine r_lstore_n hX dX4_digest_103 rfl (by decide) rfl (r_iincZ (z := 1) (y := 3) hX dX4_digest_104 rfl (by decide) rfl rfl (r_goto (tgt := 62) hX dX4_digest_107 (by decide) (r_iload hX dX4_digest_62 rfl (r_iload hX dX4_digest_64 rfl (r_icmp_geZ (tgt := 110) hX dX4_digest_66 (by decide) (by decide) (by decide) (fun q => absurd q (by decide)) (fun _ => ?_))))))
  refine r_aload_n hX dX4_digest_69 rfl rfl (r_iload hX dX4_digest_70 rfl (r_laldZ hX 16 1 rfl rfl 3 (by decide) (by decide) (by decide) dX4_digest_72 (r_lstore hX dX4_digest_73 (by decide) rfl (r_lload_n hX dX4_digest_75 rfl rfl (r_ldc2Z (z := 31) hX kc_X4_227 (by decide +kernel) dX4_digest_76 (r_lmulZ hX dX4_digest_79 (r_lload hX dX4_digest_80 rfl ?_)))))))
  refine r_ldc2Z (z := 1000000000) hX kc_X4_96 (by decide +kernel) dX4_digest_82 (r_callS hX (c_X4_whole_x _ _ _ _ (by first | with_reducible assumption | decide | omega) (by first | with_reducible assumption | decide | omega) (by first | with_reducible assumption | decide | omega) (by first | with_reducible assumption | decide | omega)) ks_X4_92 rfl rfl (Nat.le_of_ble_eq_true rfl) ⟨(Nat.le_of_ble_eq_true rfl), (Nat.le_of_ble_eq_true rfl)⟩ ⟨(Nat.le_of_ble_eq_true rfl), (Nat.le_of_ble_eq_true rfl)⟩ dX4_digest_85 (fun _ _ z => False.elim z) (fun v9 ws9 h7 => ?_))
  obtain ⟨rfl, hw9⟩ := h7
  subst ws9
  dsimp only [mPush]
  refine r_laddG hX dX4_digest_88 (fun g11 hg11 => ?_)
  refine r_ldc2Z (z := 31) hX kc_X4_227 (by decide +kernel) dX4_digest_89 (r_lmulZ hX dX4_digest_92 (r_lload hX dX4_digest_93 rfl (r_ldc2Z (z := 1000000000) hX kc_X4_96 (by decide +kernel) dX4_digest_95 (r_callS hX (c_X4_rest_x _ _ _ _ (by first | with_reducible assumption | decide | omega) (by first | with_reducible assumption | decide | omega) (by first | with_reducible assumption | decide | omega) (by first | with_reducible assumption | decide | omega)) ks_X4_102 rfl rfl (Nat.le_of_ble_eq_true rfl) ⟨(Nat.le_of_ble_eq_true rfl), (Nat.le_of_ble_eq_true rfl)⟩ ⟨(Nat.le_of_ble_eq_true rfl), (Nat.le_of_ble_eq_true rfl)⟩ dX4_digest_98 (fun _ _ z => False.elim z) (fun v9 ws9 h8 => ?_)))))
  obtain ⟨rfl, hw9⟩ := h8
  subst ws9
  dsimp only [mPush]
  refine r_i2lZ hX dX4_digest_101 (by first | with_reducible assumption | decide | omega) (r_laddG hX dX4_digest_102 (fun g12 hg12 => ?_))
  refine r_lstore_n hX dX4_digest_103 rfl (by decide) rfl (r_iincZ (z := 1) (y := 4) hX dX4_digest_104 rfl (by decide) rfl rfl (r_goto (tgt := 62) hX dX4_digest_107 (by decide) (r_iload hX dX4_digest_62 rfl (r_iload hX dX4_digest_64 rfl (r_icmp_geZ (tgt := 110) hX dX4_digest_66 (by decide) (by decide) (by decide) (fun _ => ?_) (fun q => absurd (by decide) q))))))
  refine r_iconstZ hX dX4_digest_110 (r_istore_n hX dX4_digest_111 rfl (by decide) rfl (r_iload_n hX dX4_digest_112 rfl rfl (r_iconstZ hX dX4_digest_113 (r_icmp_geZ (tgt := 154) hX dX4_digest_114 (by decide) (by decide) (by decide) (fun q => absurd q (by decide)) (fun _ => ?_)))))
  refine r_iconstZ hX dX4_digest_117 (r_istore hX dX4_digest_118 (by decide) rfl (r_iload hX dX4_digest_120 rfl (r_bipushZ hX dX4_digest_122 (by decide +kernel) (r_icmp_gtZ (tgt := 148) hX dX4_digest_124 (by decide) (by decide) (by decide) (fun q => absurd q (by decide)) (fun _ => ?_)))))
  refine r_lload_n hX dX4_digest_127 rfl rfl (r_ldc2Z (z := 31) hX kc_X4_227 (by decide +kernel) dX4_digest_128 (r_lmulZ hX dX4_digest_131 (r_aload_n hX dX4_digest_132 rfl rfl (r_iload_n hX dX4_digest_133 rfl rfl (r_iload hX dX4_digest_134 rfl (r_callV hX (z_X4_told ad ae cs K S 0 rest hS _ 0 (by first | with_reducible assumption | decide | omega) (by first | with_reducible assumption | decide | omega) _ (by first | with_reducible assumption | decide | omega)) kv_X4_193 14 rfl rfl rfl rfl (Nat.le_of_ble_eq_true rfl) ⟨(Nat.le_of_ble_eq_true rfl), (Nat.le_of_ble_eq_true rfl)⟩ ⟨(Nat.le_of_ble_eq_true rfl), (Nat.le_of_ble_eq_true rfl)⟩ dX4_digest_136 (fun _ _ z => False.elim z) (fun v9 ws9 h9 => ?_)))))))
  obtain ⟨rfl, hw9⟩ := h9
  subst ws9
  dsimp only [mPush]
  refine r_i2lZ hX dX4_digest_139 (hbD0 _) (r_laddG hX dX4_digest_140 (fun g13 hg13 => ?_))
  refine r_lstore_n hX dX4_digest_141 rfl (by decide) rfl (r_lc6 (i0 := 0) (i1 := 1) (i2 := 3) (i3 := 4) (i4 := 5) (i5 := 6) rfl rfl rfl rfl rfl rfl (r_iincZ (z := 1) (y := 1) hX dX4_digest_142 rfl (by decide) rfl rfl (r_goto (tgt := 120) hX dX4_digest_145 (by decide) (r_iload hX dX4_digest_120 rfl (r_bipushZ hX dX4_digest_122 (by decide +kernel) (r_icmp_gtZ (tgt := 148) hX dX4_digest_124 (by decide) (by decide) (by decide) (fun q => absurd q (by decide)) (fun _ => ?_)))))))
  refine r_lload_n hX dX4_digest_127 rfl rfl (r_ldc2Z (z := 31) hX kc_X4_227 (by decide +kernel) dX4_digest_128 (r_lmulZ hX dX4_digest_131 (r_aload_n hX dX4_digest_132 rfl rfl (r_iload_n hX dX4_digest_133 rfl rfl (r_iload hX dX4_digest_134 rfl (r_callV hX (z_X4_told ad ae cs K S 0 rest hS _ 0 (by first | with_reducible assumption | decide | omega) (by first | with_reducible assumption | decide | omega) _ (by first | with_reducible assumption | decide | omega)) kv_X4_193 14 rfl rfl rfl rfl (Nat.le_of_ble_eq_true rfl) ⟨(Nat.le_of_ble_eq_true rfl), (Nat.le_of_ble_eq_true rfl)⟩ ⟨(Nat.le_of_ble_eq_true rfl), (Nat.le_of_ble_eq_true rfl)⟩ dX4_digest_136 (fun _ _ z => False.elim z) (fun v9 ws9 h10 => ?_)))))))
  obtain ⟨rfl, hw9⟩ := h10
  subst ws9
  dsimp only [mPush]
  refine r_i2lZ hX dX4_digest_139 (hbD0 _) (r_laddG hX dX4_digest_140 (fun g14 hg14 => ?_))
  refine r_lstore_n hX dX4_digest_141 rfl (by decide) rfl (r_iincZ (z := 1) (y := 2) hX dX4_digest_142 rfl (by decide) rfl rfl (r_goto (tgt := 120) hX dX4_digest_145 (by decide) (r_iload hX dX4_digest_120 rfl (r_bipushZ hX dX4_digest_122 (by decide +kernel) (r_icmp_gtZ (tgt := 148) hX dX4_digest_124 (by decide) (by decide) (by decide) (fun q => absurd q (by decide)) (fun _ => ?_))))))
  refine r_lload_n hX dX4_digest_127 rfl rfl (r_ldc2Z (z := 31) hX kc_X4_227 (by decide +kernel) dX4_digest_128 (r_lmulZ hX dX4_digest_131 (r_aload_n hX dX4_digest_132 rfl rfl (r_iload_n hX dX4_digest_133 rfl rfl (r_iload hX dX4_digest_134 rfl (r_callV hX (z_X4_told ad ae cs K S 0 rest hS _ 0 (by first | with_reducible assumption | decide | omega) (by first | with_reducible assumption | decide | omega) _ (by first | with_reducible assumption | decide | omega)) kv_X4_193 14 rfl rfl rfl rfl (Nat.le_of_ble_eq_true rfl) ⟨(Nat.le_of_ble_eq_true rfl), (Nat.le_of_ble_eq_true rfl)⟩ ⟨(Nat.le_of_ble_eq_true rfl), (Nat.le_of_ble_eq_true rfl)⟩ dX4_digest_136 (fun _ _ z => False.elim z) (fun v9 ws9 h11 => ?_)))))))
  obtain ⟨rfl, hw9⟩ := h11
  subst ws9
  dsimp only [mPush]
  refine r_i2lZ hX dX4_digest_139 (hbD0 _) (r_laddG hX dX4_digest_140 (fun g15 hg15 => ?_))
  refine r_lstore_n hX dX4_digest_141 rfl (by decide) rfl (r_iincZ (z := 1) (y := 3) hX dX4_digest_142 rfl (by decide) rfl rfl (r_goto (tgt := 120) hX dX4_digest_145 (by decide) (r_iload hX dX4_digest_120 rfl (r_bipushZ hX dX4_digest_122 (by decide +kernel) (r_icmp_gtZ (tgt := 148) hX dX4_digest_124 (by decide) (by decide) (by decide) (fun q => absurd q (by decide)) (fun _ => ?_))))))
  refine r_lload_n hX dX4_digest_127 rfl rfl (r_ldc2Z (z := 31) hX kc_X4_227 (by decide +kernel) dX4_digest_128 (r_lmulZ hX dX4_digest_131 (r_aload_n hX dX4_digest_132 rfl rfl (r_iload_n hX dX4_digest_133 rfl rfl (r_iload hX dX4_digest_134 rfl (r_callV hX (z_X4_told ad ae cs K S 0 rest hS _ 0 (by first | with_reducible assumption | decide | omega) (by first | with_reducible assumption | decide | omega) _ (by first | with_reducible assumption | decide | omega)) kv_X4_193 14 rfl rfl rfl rfl (Nat.le_of_ble_eq_true rfl) ⟨(Nat.le_of_ble_eq_true rfl), (Nat.le_of_ble_eq_true rfl)⟩ ⟨(Nat.le_of_ble_eq_true rfl), (Nat.le_of_ble_eq_true rfl)⟩ dX4_digest_136 (fun _ _ z => False.elim z) (fun v9 ws9 h12 => ?_)))))))
  obtain ⟨rfl, hw9⟩ := h12
  subst ws9
  dsimp only [mPush]
  refine r_i2lZ hX dX4_digest_139 (hbD0 _) (r_laddG hX dX4_digest_140 (fun g16 hg16 => ?_))
  refine r_lstore_n hX dX4_digest_141 rfl (by decide) rfl (r_iincZ (z := 1) (y := 4) hX dX4_digest_142 rfl (by decide) rfl rfl (r_goto (tgt := 120) hX dX4_digest_145 (by decide) (r_iload hX dX4_digest_120 rfl (r_bipushZ hX dX4_digest_122 (by decide +kernel) (r_icmp_gtZ (tgt := 148) hX dX4_digest_124 (by decide) (by decide) (by decide) (fun q => absurd q (by decide)) (fun _ => ?_))))))
  refine r_lload_n hX dX4_digest_127 rfl rfl (r_ldc2Z (z := 31) hX kc_X4_227 (by decide +kernel) dX4_digest_128 (r_lmulZ hX dX4_digest_131 (r_aload_n hX dX4_digest_132 rfl rfl (r_iload_n hX dX4_digest_133 rfl rfl (r_iload hX dX4_digest_134 rfl (r_callV hX (z_X4_told ad ae cs K S 0 rest hS _ 0 (by first | with_reducible assumption | decide | omega) (by first | with_reducible assumption | decide | omega) _ (by first | with_reducible assumption | decide | omega)) kv_X4_193 14 rfl rfl rfl rfl (Nat.le_of_ble_eq_true rfl) ⟨(Nat.le_of_ble_eq_true rfl), (Nat.le_of_ble_eq_true rfl)⟩ ⟨(Nat.le_of_ble_eq_true rfl), (Nat.le_of_ble_eq_true rfl)⟩ dX4_digest_136 (fun _ _ z => False.elim z) (fun v9 ws9 h13 => ?_)))))))
  obtain ⟨rfl, hw9⟩ := h13
  subst ws9
  dsimp only [mPush]
  refine r_i2lZ hX dX4_digest_139 (hbD0 _) (r_laddG hX dX4_digest_140 (fun g17 hg17 => ?_))
  refine r_lstore_n hX dX4_digest_141 rfl (by decide) rfl (r_lc6 (i0 := 0) (i1 := 1) (i2 := 3) (i3 := 4) (i4 := 5) (i5 := 6) rfl rfl rfl rfl rfl rfl (r_iincZ (z := 1) (y := 5) hX dX4_digest_142 rfl (by decide) rfl rfl (r_goto (tgt := 120) hX dX4_digest_145 (by decide) (r_iload hX dX4_digest_120 rfl (r_bipushZ hX dX4_digest_122 (by decide +kernel) (r_icmp_gtZ (tgt := 148) hX dX4_digest_124 (by decide) (by decide) (by decide) (fun q => absurd q (by decide)) (fun _ => ?_)))))))
  refine r_lload_n hX dX4_digest_127 rfl rfl (r_ldc2Z (z := 31) hX kc_X4_227 (by decide +kernel) dX4_digest_128 (r_lmulZ hX dX4_digest_131 (r_aload_n hX dX4_digest_132 rfl rfl (r_iload_n hX dX4_digest_133 rfl rfl (r_iload hX dX4_digest_134 rfl (r_callV hX (z_X4_told ad ae cs K S 0 rest hS _ 0 (by first | with_reducible assumption | decide | omega) (by first | with_reducible assumption | decide | omega) _ (by first | with_reducible assumption | decide | omega)) kv_X4_193 14 rfl rfl rfl rfl (Nat.le_of_ble_eq_true rfl) ⟨(Nat.le_of_ble_eq_true rfl), (Nat.le_of_ble_eq_true rfl)⟩ ⟨(Nat.le_of_ble_eq_true rfl), (Nat.le_of_ble_eq_true rfl)⟩ dX4_digest_136 (fun _ _ z => False.elim z) (fun v9 ws9 h14 => ?_)))))))
  obtain ⟨rfl, hw9⟩ := h14
  subst ws9
  dsimp only [mPush]
  refine r_i2lZ hX dX4_digest_139 (hbD0 _) (r_laddG hX dX4_digest_140 (fun g18 hg18 => ?_))
  refine r_lstore_n hX dX4_digest_141 rfl (by decide) rfl (r_iincZ (z := 1) (y := 6) hX dX4_digest_142 rfl (by decide) rfl rfl (r_goto (tgt := 120) hX dX4_digest_145 (by decide) (r_iload hX dX4_digest_120 rfl (r_bipushZ hX dX4_digest_122 (by decide +kernel) (r_icmp_gtZ (tgt := 148) hX dX4_digest_124 (by decide) (by decide) (by decide) (fun q => absurd q (by decide)) (fun _ => ?_))))))
  refine r_lload_n hX dX4_digest_127 rfl rfl (r_ldc2Z (z := 31) hX kc_X4_227 (by decide +kernel) dX4_digest_128 (r_lmulZ hX dX4_digest_131 (r_aload_n hX dX4_digest_132 rfl rfl (r_iload_n hX dX4_digest_133 rfl rfl (r_iload hX dX4_digest_134 rfl (r_callV hX (z_X4_told ad ae cs K S 0 rest hS _ 0 (by first | with_reducible assumption | decide | omega) (by first | with_reducible assumption | decide | omega) _ (by first | with_reducible assumption | decide | omega)) kv_X4_193 14 rfl rfl rfl rfl (Nat.le_of_ble_eq_true rfl) ⟨(Nat.le_of_ble_eq_true rfl), (Nat.le_of_ble_eq_true rfl)⟩ ⟨(Nat.le_of_ble_eq_true rfl), (Nat.le_of_ble_eq_true rfl)⟩ dX4_digest_136 (fun _ _ z => False.elim z) (fun v9 ws9 h15 => ?_)))))))
  obtain ⟨rfl, hw9⟩ := h15
  subst ws9
  dsimp only [mPush]
  refine r_i2lZ hX dX4_digest_139 (hbD0 _) (r_laddG hX dX4_digest_140 (fun g19 hg19 => ?_))
  refine r_lstore_n hX dX4_digest_141 rfl (by decide) rfl (r_iincZ (z := 1) (y := 7) hX dX4_digest_142 rfl (by decide) rfl rfl (r_goto (tgt := 120) hX dX4_digest_145 (by decide) (r_iload hX dX4_digest_120 rfl (r_bipushZ hX dX4_digest_122 (by decide +kernel) (r_icmp_gtZ (tgt := 148) hX dX4_digest_124 (by decide) (by decide) (by decide) (fun q => absurd q (by decide)) (fun _ => ?_))))))
  refine r_lload_n hX dX4_digest_127 rfl rfl (r_ldc2Z (z := 31) hX kc_X4_227 (by decide +kernel) dX4_digest_128 (r_lmulZ hX dX4_digest_131 (r_aload_n hX dX4_digest_132 rfl rfl (r_iload_n hX dX4_digest_133 rfl rfl (r_iload hX dX4_digest_134 rfl (r_callV hX (z_X4_told ad ae cs K S 0 rest hS _ 0 (by first | with_reducible assumption | decide | omega) (by first | with_reducible assumption | decide | omega) _ (by first | with_reducible assumption | decide | omega)) kv_X4_193 14 rfl rfl rfl rfl (Nat.le_of_ble_eq_true rfl) ⟨(Nat.le_of_ble_eq_true rfl), (Nat.le_of_ble_eq_true rfl)⟩ ⟨(Nat.le_of_ble_eq_true rfl), (Nat.le_of_ble_eq_true rfl)⟩ dX4_digest_136 (fun _ _ z => False.elim z) (fun v9 ws9 h16 => ?_)))))))
  obtain ⟨rfl, hw9⟩ := h16
  subst ws9
  dsimp only [mPush]
  refine r_i2lZ hX dX4_digest_139 (hbD0 _) (r_laddG hX dX4_digest_140 (fun g20 hg20 => ?_))
  refine r_lstore_n hX dX4_digest_141 rfl (by decide) rfl (r_iincZ (z := 1) (y := 8) hX dX4_digest_142 rfl (by decide) rfl rfl (r_goto (tgt := 120) hX dX4_digest_145 (by decide) (r_iload hX dX4_digest_120 rfl (r_bipushZ hX dX4_digest_122 (by decide +kernel) (r_icmp_gtZ (tgt := 148) hX dX4_digest_124 (by decide) (by decide) (by decide) (fun q => absurd q (by decide)) (fun _ => ?_))))))
  refine r_lload_n hX dX4_digest_127 rfl rfl (r_ldc2Z (z := 31) hX kc_X4_227 (by decide +kernel) dX4_digest_128 (r_lmulZ hX dX4_digest_131 (r_aload_n hX dX4_digest_132 rfl rfl (r_iload_n hX dX4_digest_133 rfl rfl (r_iload hX dX4_digest_134 rfl (r_callV hX (z_X4_told ad ae cs K S 0 rest hS _ 0 (by first | with_reducible assumption | decide | omega) (by first | with_reducible assumption | decide | omega) _ (by first | with_reducible assumption | decide | omega)) kv_X4_193 14 rfl rfl rfl rfl (Nat.le_of_ble_eq_true rfl) ⟨(Nat.le_of_ble_eq_true rfl), (Nat.le_of_ble_eq_true rfl)⟩ ⟨(Nat.le_of_ble_eq_true rfl), (Nat.le_of_ble_eq_true rfl)⟩ dX4_digest_136 (fun _ _ z => False.elim z) (fun v9 ws9 h17 => ?_)))))))
  obtain ⟨rfl, hw9⟩ := h17
  subst ws9
  dsimp only [mPush]
  refine r_i2lZ hX dX4_digest_139 (hbD0 _) (r_laddG hX dX4_digest_140 (fun g21 hg21 => ?_))
  refine r_lstore_n hX dX4_digest_141 rfl (by decide) rfl (r_lc6 (i0 := 0) (i1 := 1) (i2 := 3) (i3 := 4) (i4 := 5) (i5 := 6) rfl rfl rfl rfl rfl rfl (r_iincZ (z := 1) (y := 9) hX dX4_digest_142 rfl (by decide) rfl rfl (r_goto (tgt := 120) hX dX4_digest_145 (by decide) (r_iload hX dX4_digest_120 rfl (r_bipushZ hX dX4_digest_122 (by decide +kernel) (r_icmp_gtZ (tgt := 148) hX dX4_digest_124 (by decide) (by decide) (by decide) (fun q => absurd q (by decide)) (fun _ => ?_)))))))
  refine r_lload_n hX dX4_digest_127 rfl rfl (r_ldc2Z (z := 31) hX kc_X4_227 (by decide +kernel) dX4_digest_128 (r_lmulZ hX dX4_digest_131 (r_aload_n hX dX4_digest_132 rfl rfl (r_iload_n hX dX4_digest_133 rfl rfl (r_iload hX dX4_digest_134 rfl (r_callV hX (z_X4_told ad ae cs K S 0 rest hS _ 0 (by first | with_reducible assumption | decide | omega) (by first | with_reducible assumption | decide | omega) _ (by first | with_reducible assumption | decide | omega)) kv_X4_193 14 rfl rfl rfl rfl (Nat.le_of_ble_eq_true rfl) ⟨(Nat.le_of_ble_eq_true rfl), (Nat.le_of_ble_eq_true rfl)⟩ ⟨(Nat.le_of_ble_eq_true rfl), (Nat.le_of_ble_eq_true rfl)⟩ dX4_digest_136 (fun _ _ z => False.elim z) (fun v9 ws9 h18 => ?_)))))))
  obtain ⟨rfl, hw9⟩ := h18
  subst ws9
  dsimp only [mPush]
  refine r_i2lZ hX dX4_digest_139 (hbD0 _) (r_laddG hX dX4_digest_140 (fun g22 hg22 => ?_))
  refine r_lstore_n hX dX4_digest_141 rfl (by decide) rfl (r_iincZ (z := 1) (y := 10) hX dX4_digest_142 rfl (by decide) rfl rfl (r_goto (tgt := 120) hX dX4_digest_145 (by decide) (r_iload hX dX4_digest_120 rfl (r_bipushZ hX dX4_digest_122 (by decide +kernel) (r_icmp_gtZ (tgt := 148) hX dX4_digest_124 (by decide) (by decide) (by decide) (fun q => absurd q (by decide)) (fun _ => ?_))))))
  refine r_lload_n hX dX4_digest_127 rfl rfl (r_ldc2Z (z := 31) hX kc_X4_227 (by decide +kernel) dX4_digest_128 (r_lmulZ hX dX4_digest_131 (r_aload_n hX dX4_digest_132 rfl rfl (r_iload_n hX dX4_digest_133 rfl rfl (r_iload hX dX4_digest_134 rfl (r_callV hX (z_X4_told ad ae cs K S 0 rest hS _ 0 (by first | with_reducible assumption | decide | omega) (by first | with_reducible assumption | decide | omega) _ (by first | with_reducible assumption | decide | omega)) kv_X4_193 14 rfl rfl rfl rfl (Nat.le_of_ble_eq_true rfl) ⟨(Nat.le_of_ble_eq_true rfl), (Nat.le_of_ble_eq_true rfl)⟩ ⟨(Nat.le_of_ble_eq_true rfl), (Nat.le_of_ble_eq_true rfl)⟩ dX4_digest_136 (fun _ _ z => False.elim z) (fun v9 ws9 h19 => ?_)))))))
  obtain ⟨rfl, hw9⟩ := h19
  subst ws9
  dsimp only [mPush]
  refine r_i2lZ hX dX4_digest_139 (hbD0 _) (r_laddG hX dX4_digest_140 (fun g23 hg23 => ?_))
  refine r_lstore_n hX dX4_digest_141 rfl (by decide) rfl (r_iincZ (z := 1) (y := 11) hX dX4_digest_142 rfl (by decide) rfl rfl (r_goto (tgt := 120) hX dX4_digest_145 (by decide) (r_iload hX dX4_digest_120 rfl (r_bipushZ hX dX4_digest_122 (by decide +kernel) (r_icmp_gtZ (tgt := 148) hX dX4_digest_124 (by decide) (by decide) (by decide) (fun q => absurd q (by decide)) (fun _ => ?_))))))
  refine r_lload_n hX dX4_digest_127 rfl rfl (r_ldc2Z (z := 31) hX kc_X4_227 (by decide +kernel) dX4_digest_128 (r_lmulZ hX dX4_digest_131 (r_aload_n hX dX4_digest_132 rfl rfl (r_iload_n hX dX4_digest_133 rfl rfl (r_iload hX dX4_digest_134 rfl (r_callV hX (z_X4_told ad ae cs K S 0 rest hS _ 0 (by first | with_reducible assumption | decide | omega) (by first | with_reducible assumption | decide | omega) _ (by first | with_reducible assumption | decide | omega)) kv_X4_193 14 rfl rfl rfl rfl (Nat.le_of_ble_eq_true rfl) ⟨(Nat.le_of_ble_eq_true rfl), (Nat.le_of_ble_eq_true rfl)⟩ ⟨(Nat.le_of_ble_eq_true rfl), (Nat.le_of_ble_eq_true rfl)⟩ dX4_digest_136 (fun _ _ z => False.elim z) (fun v9 ws9 h20 => ?_)))))))
  obtain ⟨rfl, hw9⟩ := h20
  subst ws9
  dsimp only [mPush]
  refine r_i2lZ hX dX4_digest_139 (hbD0 _) (r_laddG hX dX4_digest_140 (fun g24 hg24 => ?_))
  refine r_lstore_n hX dX4_digest_141 rfl (by decide) rfl (r_iincZ (z := 1) (y := 12) hX dX4_digest_142 rfl (by decide) rfl rfl (r_goto (tgt := 120) hX dX4_digest_145 (by decide) (r_iload hX dX4_digest_120 rfl (r_bipushZ hX dX4_digest_122 (by decide +kernel) (r_icmp_gtZ (tgt := 148) hX dX4_digest_124 (by decide) (by decide) (by decide) (fun q => absurd q (by decide)) (fun _ => ?_))))))
  refine r_lload_n hX dX4_digest_127 rfl rfl (r_ldc2Z (z := 31) hX kc_X4_227 (by decide +kernel) dX4_digest_128 (r_lmulZ hX dX4_digest_131 (r_aload_n hX dX4_digest_132 rfl rfl (r_iload_n hX dX4_digest_133 rfl rfl (r_iload hX dX4_digest_134 rfl (r_callV hX (z_X4_told ad ae cs K S 0 rest hS _ 0 (by first | with_reducible assumption | decide | omega) (by first | with_reducible assumption | decide | omega) _ (by first | with_reducible assumption | decide | omega)) kv_X4_193 14 rfl rfl rfl rfl (Nat.le_of_ble_eq_true rfl) ⟨(Nat.le_of_ble_eq_true rfl), (Nat.le_of_ble_eq_true rfl)⟩ ⟨(Nat.le_of_ble_eq_true rfl), (Nat.le_of_ble_eq_true rfl)⟩ dX4_digest_136 (fun _ _ z => False.elim z) (fun v9 ws9 h21 => ?_)))))))
  obtain ⟨rfl, hw9⟩ := h21
  subst ws9
  dsimp only [mPush]
  refine r_i2lZ hX dX4_digest_139 (hbD0 _) (r_laddG hX dX4_digest_140 (fun g25 hg25 => ?_))
  refine r_lstore_n hX dX4_digest_141 rfl (by decide) rfl (r_lc6 (i0 := 0) (i1 := 1) (i2 := 3) (i3 := 4) (i4 := 5) (i5 := 6) rfl rfl rfl rfl rfl rfl (r_iincZ (z := 1) (y := 13) hX dX4_digest_142 rfl (by decide) rfl rfl (r_goto (tgt := 120) hX dX4_digest_145 (by decide) (r_iload hX dX4_digest_120 rfl (r_bipushZ hX dX4_digest_122 (by decide +kernel) (r_icmp_gtZ (tgt := 148) hX dX4_digest_124 (by decide) (by decide) (by decide) (fun _ => ?_) (fun q => absurd (by decide) q)))))))
  refine r_iincZ (z := 1) (y := 1) hX dX4_digest_148 rfl (by decide) rfl rfl (r_goto (tgt := 112) hX dX4_digest_151 (by decide) (r_iload_n hX dX4_digest_112 rfl rfl (r_iconstZ hX dX4_digest_113 (r_icmp_geZ (tgt := 154) hX dX4_digest_114 (by decide) (by decide) (by decide) (fun q => absurd q (by decide)) (fun _ => ?_)))))
  refine r_iconstZ hX dX4_digest_117 (r_istore hX dX4_digest_118 (by decide) rfl (r_iload hX dX4_digest_120 rfl (r_bipushZ hX dX4_digest_122 (by decide +kernel) (r_icmp_gtZ (tgt := 148) hX dX4_digest_124 (by decide) (by decide) (by decide) (fun q => absurd q (by decide)) (fun _ => ?_)))))
  refine r_lload_n hX dX4_digest_127 rfl rfl (r_ldc2Z (z := 31) hX kc_X4_227 (by decide +kernel) dX4_digest_128 (r_lmulZ hX dX4_digest_131 (r_aload_n hX dX4_digest_132 rfl rfl (r_iload_n hX dX4_digest_133 rfl rfl (r_iload hX dX4_digest_134 rfl (r_callV hX (z_X4_told ad ae cs K S 0 rest hS _ 1 (by first | with_reducible assumption | decide | omega) (by first | with_reducible assumption | decide | omega) _ (by first | with_reducible assumption | decide | omega)) kv_X4_193 14 rfl rfl rfl rfl (Nat.le_of_ble_eq_true rfl) ⟨(Nat.le_of_ble_eq_true rfl), (Nat.le_of_ble_eq_true rfl)⟩ ⟨(Nat.le_of_ble_eq_true rfl), (Nat.le_of_ble_eq_true rfl)⟩ dX4_digest_136 (fun _ _ z => False.elim z) (fun v9 ws9 h22 => ?_)))))))
  obtain ⟨rfl, hw9⟩ := h22
  subst ws9
  dsimp only [mPush]
  refine r_i2lZ hX dX4_digest_139 (hbD1 _) (r_laddG hX dX4_digest_140 (fun g26 hg26 => ?_))
  refine r_lstore_n hX dX4_digest_141 rfl (by decide) rfl (r_iincZ (z := 1) (y := 1) hX dX4_digest_142 rfl (by decide) rfl rfl (r_goto (tgt := 120) hX dX4_digest_145 (by decide) (r_iload hX dX4_digest_120 rfl (r_bipushZ hX dX4_digest_122 (by decide +kernel) (r_icmp_gtZ (tgt := 148) hX dX4_digest_124 (by decide) (by decide) (by decide) (fun q => absurd q (by decide)) (fun _ => ?_))))))
  refine r_lload_n hX dX4_digest_127 rfl rfl (r_ldc2Z (z := 31) hX kc_X4_227 (by decide +kernel) dX4_digest_128 (r_lmulZ hX dX4_digest_131 (r_aload_n hX dX4_digest_132 rfl rfl (r_iload_n hX dX4_digest_133 rfl rfl (r_iload hX dX4_digest_134 rfl (r_callV hX (z_X4_told ad ae cs K S 0 rest hS _ 1 (by first | with_reducible assumption | decide | omega) (by first | with_reducible assumption | decide | omega) _ (by first | with_reducible assumption | decide | omega)) kv_X4_193 14 rfl rfl rfl rfl (Nat.le_of_ble_eq_true rfl) ⟨(Nat.le_of_ble_eq_true rfl), (Nat.le_of_ble_eq_true rfl)⟩ ⟨(Nat.le_of_ble_eq_true rfl), (Nat.le_of_ble_eq_true rfl)⟩ dX4_digest_136 (fun _ _ z => False.elim z) (fun v9 ws9 h23 => ?_)))))))
  obtain ⟨rfl, hw9⟩ := h23
  subst ws9
  dsimp only [mPush]
  refine r_i2lZ hX dX4_digest_139 (hbD1 _) (r_laddG hX dX4_digest_140 (fun g27 hg27 => ?_))
  refine r_lstore_n hX dX4_digest_141 rfl (by decide) rfl (r_iincZ (z := 1) (y := 2) hX dX4_digest_142 rfl (by decide) rfl rfl (r_goto (tgt := 120) hX dX4_digest_145 (by decide) (r_iload hX dX4_digest_120 rfl (r_bipushZ hX dX4_digest_122 (by decide +kernel) (r_icmp_gtZ (tgt := 148) hX dX4_digest_124 (by decide) (by decide) (by decide) (fun q => absurd q (by decide)) (fun _ => ?_))))))
  refine r_lload_n hX dX4_digest_127 rfl rfl (r_ldc2Z (z := 31) hX kc_X4_227 (by decide +kernel) dX4_digest_128 (r_lmulZ hX dX4_digest_131 (r_aload_n hX dX4_digest_132 rfl rfl (r_iload_n hX dX4_digest_133 rfl rfl (r_iload hX dX4_digest_134 rfl (r_callV hX (z_X4_told ad ae cs K S 0 rest hS _ 1 (by first | with_reducible assumption | decide | omega) (by first | with_reducible assumption | decide | omega) _ (by first | with_reducible assumption | decide | omega)) kv_X4_193 14 rfl rfl rfl rfl (Nat.le_of_ble_eq_true rfl) ⟨(Nat.le_of_ble_eq_true rfl), (Nat.le_of_ble_eq_true rfl)⟩ ⟨(Nat.le_of_ble_eq_true rfl), (Nat.le_of_ble_eq_true rfl)⟩ dX4_digest_136 (fun _ _ z => False.elim z) (fun v9 ws9 h24 => ?_)))))))
  obtain ⟨rfl, hw9⟩ := h24
  subst ws9
  dsimp only [mPush]
  refine r_i2lZ hX dX4_digest_139 (hbD1 _) (r_laddG hX dX4_digest_140 (fun g28 hg28 => ?_))
  refine r_lstore_n hX dX4_digest_141 rfl (by decide) rfl (r_iincZ (z := 1) (y := 3) hX dX4_digest_142 rfl (by decide) rfl rfl (r_lc6 (i0 := 0) (i1 := 1) (i2 := 3) (i3 := 4) (i4 := 5) (i5 := 6) rfl rfl rfl rfl rfl rfl (r_goto (tgt := 120) hX dX4_digest_145 (by decide) (r_iload hX dX4_digest_120 rfl (r_bipushZ hX dX4_digest_122 (by decide +kernel) (r_icmp_gtZ (tgt := 148) hX dX4_digest_124 (by decide) (by decide) (by decide) (fun q => absurd q (by decide)) (fun _ => ?_)))))))
  refine r_lload_n hX dX4_digest_127 rfl rfl (r_ldc2Z (z := 31) hX kc_X4_227 (by decide +kernel) dX4_digest_128 (r_lmulZ hX dX4_digest_131 (r_aload_n hX dX4_digest_132 rfl rfl (r_iload_n hX dX4_digest_133 rfl rfl (r_iload hX dX4_digest_134 rfl (r_callV hX (z_X4_told ad ae cs K S 0 rest hS _ 1 (by first | with_reducible assumption | decide | omega) (by first | with_reducible assumption | decide | omega) _ (by first | with_reducible assumption | decide | omega)) kv_X4_193 14 rfl rfl rfl rfl (Nat.le_of_ble_eq_true rfl) ⟨(Nat.le_of_ble_eq_true rfl), (Nat.le_of_ble_eq_true rfl)⟩ ⟨(Nat.le_of_ble_eq_true rfl), (Nat.le_of_ble_eq_true rfl)⟩ dX4_digest_136 (fun _ _ z => False.elim z) (fun v9 ws9 h25 => ?_)))))))
  obtain ⟨rfl, hw9⟩ := h25
  subst ws9
  dsimp only [mPush]
  refine r_i2lZ hX dX4_digest_139 (hbD1 _) (r_laddG hX dX4_digest_140 (fun g29 hg29 => ?_))
  refine r_lstore_n hX dX4_digest_141 rfl (by decide) rfl (r_iincZ (z := 1) (y := 4) hX dX4_digest_142 rfl (by decide) rfl rfl (r_goto (tgt := 120) hX dX4_digest_145 (by decide) (r_iload hX dX4_digest_120 rfl (r_bipushZ hX dX4_digest_122 (by decide +kernel) (r_icmp_gtZ (tgt := 148) hX dX4_digest_124 (by decide) (by decide) (by decide) (fun q => absurd q (by decide)) (fun _ => ?_))))))
  refine r_lload_n hX dX4_digest_127 rfl rfl (r_ldc2Z (z := 31) hX kc_X4_227 (by decide +kernel) dX4_digest_128 (r_lmulZ hX dX4_digest_131 (r_aload_n hX dX4_digest_132 rfl rfl (r_iload_n hX dX4_digest_133 rfl rfl (r_iload hX dX4_digest_134 rfl (r_callV hX (z_X4_told ad ae cs K S 0 rest hS _ 1 (by first | with_reducible assumption | decide | omega) (by first | with_reducible assumption | decide | omega) _ (by first | with_reducible assumption | decide | omega)) kv_X4_193 14 rfl rfl rfl rfl (Nat.le_of_ble_eq_true rfl) ⟨(Nat.le_of_ble_eq_true rfl), (Nat.le_of_ble_eq_true rfl)⟩ ⟨(Nat.le_of_ble_eq_true rfl), (Nat.le_of_ble_eq_true rfl)⟩ dX4_digest_136 (fun _ _ z => False.elim z) (fun v9 ws9 h26 => ?_)))))))
  obtain ⟨rfl, hw9⟩ := h26
  subst ws9
  dsimp only [mPush]
  refine r_i2lZ hX dX4_digest_139 (hbD1 _) (r_laddG hX dX4_digest_140 (fun g30 hg30 => ?_))
  refine r_lstore_n hX dX4_digest_141 rfl (by decide) rfl (r_iincZ (z := 1) (y := 5) hX dX4_digest_142 rfl (by decide) rfl rfl (r_goto (tgt := 120) hX dX4_digest_145 (by decide) (r_iload hX dX4_digest_120 rfl (r_bipushZ hX dX4_digest_122 (by decide +kernel) (r_icmp_gtZ (tgt := 148) hX dX4_digest_124 (by decide) (by decide) (by decide) (fun q => absurd q (by decide)) (fun _ => ?_))))))
  refine r_lload_n hX dX4_digest_127 rfl rfl (r_ldc2Z (z := 31) hX kc_X4_227 (by decide +kernel) dX4_digest_128 (r_lmulZ hX dX4_digest_131 (r_aload_n hX dX4_digest_132 rfl rfl (r_iload_n hX dX4_digest_133 rfl rfl (r_iload hX dX4_digest_134 rfl (r_callV hX (z_X4_told ad ae cs K S 0 rest hS _ 1 (by first | with_reducible assumption | decide | omega) (by first | with_reducible assumption | decide | omega) _ (by first | with_reducible assumption | decide | omega)) kv_X4_193 14 rfl rfl rfl rfl (Nat.le_of_ble_eq_true rfl) ⟨(Nat.le_of_ble_eq_true rfl), (Nat.le_of_ble_eq_true rfl)⟩ ⟨(Nat.le_of_ble_eq_true rfl), (Nat.le_of_ble_eq_true rfl)⟩ dX4_digest_136 (fun _ _ z => False.elim z) (fun v9 ws9 h27 => ?_)))))))
  obtain ⟨rfl, hw9⟩ := h27
  subst ws9
  dsimp only [mPush]
  refine r_i2lZ hX dX4_digest_139 (hbD1 _) (r_laddG hX dX4_digest_140 (fun g31 hg31 => ?_))
  refine r_lstore_n hX dX4_digest_141 rfl (by decide) rfl (r_iincZ (z := 1) (y := 6) hX dX4_digest_142 rfl (by decide) rfl rfl (r_goto (tgt := 120) hX dX4_digest_145 (by decide) (r_iload hX dX4_digest_120 rfl (r_bipushZ hX dX4_digest_122 (by decide +kernel) (r_icmp_gtZ (tgt := 148) hX dX4_digest_124 (by decide) (by decide) (by decide) (fun q => absurd q (by decide)) (fun _ => ?_))))))
  refine r_lload_n hX dX4_digest_127 rfl rfl (r_ldc2Z (z := 31) hX kc_X4_227 (by decide +kernel) dX4_digest_128 (r_lmulZ hX dX4_digest_131 (r_aload_n hX dX4_digest_132 rfl rfl (r_iload_n hX dX4_digest_133 rfl rfl (r_iload hX dX4_digest_134 rfl (r_callV hX (z_X4_told ad ae cs K S 0 rest hS _ 1 (by first | with_reducible assumption | decide | omega) (by first | with_reducible assumption | decide | omega) _ (by first | with_reducible assumption | decide | omega)) kv_X4_193 14 rfl rfl rfl rfl (Nat.le_of_ble_eq_true rfl) ⟨(Nat.le_of_ble_eq_true rfl), (Nat.le_of_ble_eq_true rfl)⟩ ⟨(Nat.le_of_ble_eq_true rfl), (Nat.le_of_ble_eq_true rfl)⟩ dX4_digest_136 (fun _ _ z => False.elim z) (fun v9 ws9 h28 => ?_)))))))
  obtain ⟨rfl, hw9⟩ := h28
  subst ws9
  dsimp only [mPush]
  refine r_i2lZ hX dX4_digest_139 (hbD1 _) (r_laddG hX dX4_digest_140 (fun g32 hg32 => ?_))
  refine r_lstore_n hX dX4_digest_141 rfl (by decide) rfl (r_iincZ (z := 1) (y := 7) hX dX4_digest_142 rfl (by decide) rfl rfl (r_lc6 (i0 := 0) (i1 := 1) (i2 := 3) (i3 := 4) (i4 := 5) (i5 := 6) rfl rfl rfl rfl rfl rfl (r_goto (tgt := 120) hX dX4_digest_145 (by decide) (r_iload hX dX4_digest_120 rfl (r_bipushZ hX dX4_digest_122 (by decide +kernel) (r_icmp_gtZ (tgt := 148) hX dX4_digest_124 (by decide) (by decide) (by decide) (fun q => absurd q (by decide)) (fun _ => ?_)))))))
  refine r_lload_n hX dX4_digest_127 rfl rfl (r_ldc2Z (z := 31) hX kc_X4_227 (by decide +kernel) dX4_digest_128 (r_lmulZ hX dX4_digest_131 (r_aload_n hX dX4_digest_132 rfl rfl (r_iload_n hX dX4_digest_133 rfl rfl (r_iload hX dX4_digest_134 rfl (r_callV hX (z_X4_told ad ae cs K S 0 rest hS _ 1 (by first | with_reducible assumption | decide | omega) (by first | with_reducible assumption | decide | omega) _ (by first | with_reducible assumption | decide | omega)) kv_X4_193 14 rfl rfl rfl rfl (Nat.le_of_ble_eq_true rfl) ⟨(Nat.le_of_ble_eq_true rfl), (Nat.le_of_ble_eq_true rfl)⟩ ⟨(Nat.le_of_ble_eq_true rfl), (Nat.le_of_ble_eq_true rfl)⟩ dX4_digest_136 (fun _ _ z => False.elim z) (fun v9 ws9 h29 => ?_)))))))
  obtain ⟨rfl, hw9⟩ := h29
  subst ws9
  dsimp only [mPush]
  refine r_i2lZ hX dX4_digest_139 (hbD1 _) (r_laddG hX dX4_digest_140 (fun g33 hg33 => ?_))
  refine r_lstore_n hX dX4_digest_141 rfl (by decide) rfl (r_iincZ (z := 1) (y := 8) hX dX4_digest_142 rfl (by decide) rfl rfl (r_goto (tgt := 120) hX dX4_digest_145 (by decide) (r_iload hX dX4_digest_120 rfl (r_bipushZ hX dX4_digest_122 (by decide +kernel) (r_icmp_gtZ (tgt := 148) hX dX4_digest_124 (by decide) (by decide) (by decide) (fun q => absurd q (by decide)) (fun _ => ?_))))))
  refine r_lload_n hX dX4_digest_127 rfl rfl (r_ldc2Z (z := 31) hX kc_X4_227 (by decide +kernel) dX4_digest_128 (r_lmulZ hX dX4_digest_131 (r_aload_n hX dX4_digest_132 rfl rfl (r_iload_n hX dX4_digest_133 rfl rfl (r_iload hX dX4_digest_134 rfl (r_callV hX (z_X4_told ad ae cs K S 0 rest hS _ 1 (by first | with_reducible assumption | decide | omega) (by first | with_reducible assumption | decide | omega) _ (by first | with_reducible assumption | decide | omega)) kv_X4_193 14 rfl rfl rfl rfl (Nat.le_of_ble_eq_true rfl) ⟨(Nat.le_of_ble_eq_true rfl), (Nat.le_of_ble_eq_true rfl)⟩ ⟨(Nat.le_of_ble_eq_true rfl), (Nat.le_of_ble_eq_true rfl)⟩ dX4_digest_136 (fun _ _ z => False.elim z) (fun v9 ws9 h30 => ?_)))))))
  obtain ⟨rfl, hw9⟩ := h30
  subst ws9
  dsimp only [mPush]
  refine r_i2lZ hX dX4_digest_139 (hbD1 _) (r_laddG hX dX4_digest_140 (fun g34 hg34 => ?_))
  refine r_lstore_n hX dX4_digest_141 rfl (by decide) rfl (r_iincZ (z := 1) (y := 9) hX dX4_digest_142 rfl (by decide) rfl rfl (r_goto (tgt := 120) hX dX4_digest_145 (by decide) (r_iload hX dX4_digest_120 rfl (r_bipushZ hX dX4_digest_122 (by decide +kernel) (r_icmp_gtZ (tgt := 148) hX dX4_digest_124 (by decide) (by decide) (by decide) (fun q => absurd q (by decide)) (fun _ => ?_))))))
  refine r_lload_n hX dX4_digest_127 rfl rfl (r_ldc2Z (z := 31) hX kc_X4_227 (by decide +kernel) dX4_digest_128 (r_lmulZ hX dX4_digest_131 (r_aload_n hX dX4_digest_132 rfl rfl (r_iload_n hX dX4_digest_133 rfl rfl (r_iload hX dX4_digest_134 rfl (r_callV hX (z_X4_told ad ae cs K S 0 rest hS _ 1 (by first | with_reducible assumption | decide | omega) (by first | with_reducible assumption | decide | omega) _ (by first | with_reducible assumption | decide | omega)) kv_X4_193 14 rfl rfl rfl rfl (Nat.le_of_ble_eq_true rfl) ⟨(Nat.le_of_ble_eq_true rfl), (Nat.le_of_ble_eq_true rfl)⟩ ⟨(Nat.le_of_ble_eq_true rfl), (Nat.le_of_ble_eq_true rfl)⟩ dX4_digest_136 (fun _ _ z => False.elim z) (fun v9 ws9 h31 => ?_)))))))
  obtain ⟨rfl, hw9⟩ := h31
  subst ws9
  dsimp only [mPush]
  refine r_i2lZ hX dX4_digest_139 (hbD1 _) (r_laddG hX dX4_digest_140 (fun g35 hg35 => ?_))
  refine r_lstore_n hX dX4_digest_141 rfl (by decide) rfl (r_iincZ (z := 1) (y := 10) hX dX4_digest_142 rfl (by decide) rfl rfl (r_goto (tgt := 120) hX dX4_digest_145 (by decide) (r_iload hX dX4_digest_120 rfl (r_bipushZ hX dX4_digest_122 (by decide +kernel) (r_icmp_gtZ (tgt := 148) hX dX4_digest_124 (by decide) (by decide) (by decide) (fun q => absurd q (by decide)) (fun _ => ?_))))))
  refine r_lload_n hX dX4_digest_127 rfl rfl (r_ldc2Z (z := 31) hX kc_X4_227 (by decide +kernel) dX4_digest_128 (r_lmulZ hX dX4_digest_131 (r_aload_n hX dX4_digest_132 rfl rfl (r_iload_n hX dX4_digest_133 rfl rfl (r_iload hX dX4_digest_134 rfl (r_callV hX (z_X4_told ad ae cs K S 0 rest hS _ 1 (by first | with_reducible assumption | decide | omega) (by first | with_reducible assumption | decide | omega) _ (by first | with_reducible assumption | decide | omega)) kv_X4_193 14 rfl rfl rfl rfl (Nat.le_of_ble_eq_true rfl) ⟨(Nat.le_of_ble_eq_true rfl), (Nat.le_of_ble_eq_true rfl)⟩ ⟨(Nat.le_of_ble_eq_true rfl), (Nat.le_of_ble_eq_true rfl)⟩ dX4_digest_136 (fun _ _ z => False.elim z) (fun v9 ws9 h32 => ?_)))))))
  obtain ⟨rfl, hw9⟩ := h32
  subst ws9
  dsimp only [mPush]
  refine r_i2lZ hX dX4_digest_139 (hbD1 _) (r_laddG hX dX4_digest_140 (fun g36 hg36 => ?_))
  refine r_lstore_n hX dX4_digest_141 rfl (by decide) rfl (r_iincZ (z := 1) (y := 11) hX dX4_digest_142 rfl (by decide) rfl rfl (r_lc6 (i0 := 0) (i1 := 1) (i2 := 3) (i3 := 4) (i4 := 5) (i5 := 6) rfl rfl rfl rfl rfl rfl (r_goto (tgt := 120) hX dX4_digest_145 (by decide) (r_iload hX dX4_digest_120 rfl (r_bipushZ hX dX4_digest_122 (by decide +kernel) (r_icmp_gtZ (tgt := 148) hX dX4_digest_124 (by decide) (by decide) (by decide) (fun q => absurd q (by decide)) (fun _ => ?_)))))))
  refine r_lload_n hX dX4_digest_127 rfl rfl (r_ldc2Z (z := 31) hX kc_X4_227 (by decide +kernel) dX4_digest_128 (r_lmulZ hX dX4_digest_131 (r_aload_n hX dX4_digest_132 rfl rfl (r_iload_n hX dX4_digest_133 rfl rfl (r_iload hX dX4_digest_134 rfl (r_callV hX (z_X4_told ad ae cs K S 0 rest hS _ 1 (by first | with_reducible assumption | decide | omega) (by first | with_reducible assumption | decide | omega) _ (by first | with_reducible assumption | decide | omega)) kv_X4_193 14 rfl rfl rfl rfl (Nat.le_of_ble_eq_true rfl) ⟨(Nat.le_of_ble_eq_true rfl), (Nat.le_of_ble_eq_true rfl)⟩ ⟨(Nat.le_of_ble_eq_true rfl), (Nat.le_of_ble_eq_true rfl)⟩ dX4_digest_136 (fun _ _ z => False.elim z) (fun v9 ws9 h33 => ?_)))))))
  obtain ⟨rfl, hw9⟩ := h33
  subst ws9
  dsimp only [mPush]
  refine r_i2lZ hX dX4_digest_139 (hbD1 _) (r_laddG hX dX4_digest_140 (fun g37 hg37 => ?_))
  refine r_lstore_n hX dX4_digest_141 rfl (by decide) rfl (r_iincZ (z := 1) (y := 12) hX dX4_digest_142 rfl (by decide) rfl rfl (r_goto (tgt := 120) hX dX4_digest_145 (by decide) (r_iload hX dX4_digest_120 rfl (r_bipushZ hX dX4_digest_122 (by decide +kernel) (r_icmp_gtZ (tgt := 148) hX dX4_digest_124 (by decide) (by decide) (by decide) (fun q => absurd q (by decide)) (fun _ => ?_))))))
  refine r_lload_n hX dX4_digest_127 rfl rfl (r_ldc2Z (z := 31) hX kc_X4_227 (by decide +kernel) dX4_digest_128 (r_lmulZ hX dX4_digest_131 (r_aload_n hX dX4_digest_132 rfl rfl (r_iload_n hX dX4_digest_133 rfl rfl (r_iload hX dX4_digest_134 rfl (r_callV hX (z_X4_told ad ae cs K S 0 rest hS _ 1 (by first | with_reducible assumption | decide | omega) (by first | with_reducible assumption | decide | omega) _ (by first | with_reducible assumption | decide | omega)) kv_X4_193 14 rfl rfl rfl rfl (Nat.le_of_ble_eq_true rfl) ⟨(Nat.le_of_ble_eq_true rfl), (Nat.le_of_ble_eq_true rfl)⟩ ⟨(Nat.le_of_ble_eq_true rfl), (Nat.le_of_ble_eq_true rfl)⟩ dX4_digest_136 (fun _ _ z => False.elim z) (fun v9 ws9 h34 => ?_)))))))
  obtain ⟨rfl, hw9⟩ := h34
  subst ws9
  dsimp only [mPush]
  refine r_i2lZ hX dX4_digest_139 (hbD1 _) (r_laddG hX dX4_digest_140 (fun g38 hg38 => ?_))
  refine r_lstore_n hX dX4_digest_141 rfl (by decide) rfl (r_iincZ (z := 1) (y := 13) hX dX4_digest_142 rfl (by decide) rfl rfl (r_goto (tgt := 120) hX dX4_digest_145 (by decide) (r_iload hX dX4_digest_120 rfl (r_bipushZ hX dX4_digest_122 (by decide +kernel) (r_icmp_gtZ (tgt := 148) hX dX4_digest_124 (by decide) (by decide) (by decide) (fun _ => ?_) (fun q => absurd (by decide) q))))))
  refine r_iincZ (z := 1) (y := 2) hX dX4_digest_148 rfl (by decide) rfl rfl (r_goto (tgt := 112) hX dX4_digest_151 (by decide) (r_iload_n hX dX4_digest_112 rfl rfl (r_iconstZ hX dX4_digest_113 (r_icmp_geZ (tgt := 154) hX dX4_digest_114 (by decide) (by decide) (by decide) (fun q => absurd q (by decide)) (fun _ => ?_)))))
  refine r_iconstZ hX dX4_digest_117 (r_istore hX dX4_digest_118 (by decide) rfl (r_iload hX dX4_digest_120 rfl (r_bipushZ hX dX4_digest_122 (by decide +kernel) (r_icmp_gtZ (tgt := 148) hX dX4_digest_124 (by decide) (by decide) (by decide) (fun q => absurd q (by decide)) (fun _ => ?_)))))
  refine r_lload_n hX dX4_digest_127 rfl rfl (r_ldc2Z (z := 31) hX kc_X4_227 (by decide +kernel) dX4_digest_128 (r_lmulZ hX dX4_digest_131 (r_aload_n hX dX4_digest_132 rfl rfl (r_iload_n hX dX4_digest_133 rfl rfl (r_iload hX dX4_digest_134 rfl (r_callV hX (z_X4_told ad ae cs K S 0 rest hS _ 2 (by first | with_reducible assumption | decide | omega) (by first | with_reducible assumption | decide | omega) _ (by first | with_reducible assumption | decide | omega)) kv_X4_193 14 rfl rfl rfl rfl (Nat.le_of_ble_eq_true rfl) ⟨(Nat.le_of_ble_eq_true rfl), (Nat.le_of_ble_eq_true rfl)⟩ ⟨(Nat.le_of_ble_eq_true rfl), (Nat.le_of_ble_eq_true rfl)⟩ dX4_digest_136 (fun _ _ z => False.elim z) (fun v9 ws9 h35 => ?_)))))))
  obtain ⟨rfl, hw9⟩ := h35
  subst ws9
  dsimp only [mPush]
  refine r_i2lZ hX dX4_digest_139 (hbD2 _) (r_laddG hX dX4_digest_140 (fun g39 hg39 => ?_))
  refine r_lstore_n hX dX4_digest_141 rfl (by decide) rfl (r_iincZ (z := 1) (y := 1) hX dX4_digest_142 rfl (by decide) rfl rfl (r_goto (tgt := 120) hX dX4_digest_145 (by decide) (r_iload hX dX4_digest_120 rfl (r_bipushZ hX dX4_digest_122 (by decide +kernel) (r_icmp_gtZ (tgt := 148) hX dX4_digest_124 (by decide) (by decide) (by decide) (fun q => absurd q (by decide)) (fun _ => ?_))))))
  refine r_lload_n hX dX4_digest_127 rfl rfl (r_ldc2Z (z := 31) hX kc_X4_227 (by decide +kernel) dX4_digest_128 (r_lmulZ hX dX4_digest_131 (r_aload_n hX dX4_digest_132 rfl rfl (r_iload_n hX dX4_digest_133 rfl rfl (r_iload hX dX4_digest_134 rfl (r_callV hX (z_X4_told ad ae cs K S 0 rest hS _ 2 (by first | with_reducible assumption | decide | omega) (by first | with_reducible assumption | decide | omega) _ (by first | with_reducible assumption | decide | omega)) kv_X4_193 14 rfl rfl rfl rfl (Nat.le_of_ble_eq_true rfl) ⟨(Nat.le_of_ble_eq_true rfl), (Nat.le_of_ble_eq_true rfl)⟩ ⟨(Nat.le_of_ble_eq_true rfl), (Nat.le_of_ble_eq_true rfl)⟩ dX4_digest_136 (fun _ _ z => False.elim z) (fun v9 ws9 h36 => ?_)))))))
  obtain ⟨rfl, hw9⟩ := h36
  subst ws9
  dsimp only [mPush]
  refine r_i2lZ hX dX4_digest_139 (hbD2 _) (r_laddG hX dX4_digest_140 (fun g40 hg40 => ?_))
  refine r_lstore_n hX dX4_digest_141 rfl (by decide) rfl (r_lc6 (i0 := 0) (i1 := 1) (i2 := 3) (i3 := 4) (i4 := 5) (i5 := 6) rfl rfl rfl rfl rfl rfl (r_iincZ (z := 1) (y := 2) hX dX4_digest_142 rfl (by decide) rfl rfl (r_goto (tgt := 120) hX dX4_digest_145 (by decide) (r_iload hX dX4_digest_120 rfl (r_bipushZ hX dX4_digest_122 (by decide +kernel) (r_icmp_gtZ (tgt := 148) hX dX4_digest_124 (by decide) (by decide) (by decide) (fun q => absurd q (by decide)) (fun _ => ?_)))))))
  refine r_lload_n hX dX4_digest_127 rfl rfl (r_ldc2Z (z := 31) hX kc_X4_227 (by decide +kernel) dX4_digest_128 (r_lmulZ hX dX4_digest_131 (r_aload_n hX dX4_digest_132 rfl rfl (r_iload_n hX dX4_digest_133 rfl rfl (r_iload hX dX4_digest_134 rfl (r_callV hX (z_X4_told ad ae cs K S 0 rest hS _ 2 (by first | with_reducible assumption | decide | omega) (by first | with_reducible assumption | decide | omega) _ (by first | with_reducible assumption | decide | omega)) kv_X4_193 14 rfl rfl rfl rfl (Nat.le_of_ble_eq_true rfl) ⟨(Nat.le_of_ble_eq_true rfl), (Nat.le_of_ble_eq_true rfl)⟩ ⟨(Nat.le_of_ble_eq_true rfl), (Nat.le_of_ble_eq_true rfl)⟩ dX4_digest_136 (fun _ _ z => False.elim z) (fun v9 ws9 h37 => ?_)))))))
  obtain ⟨rfl, hw9⟩ := h37
  subst ws9
  dsimp only [mPush]
  refine r_i2lZ hX dX4_digest_139 (hbD2 _) (r_laddG hX dX4_digest_140 (fun g41 hg41 => ?_))
  refine r_lstore_n hX dX4_digest_141 rfl (by decide) rfl (r_iincZ (z := 1) (y := 3) hX dX4_digest_142 rfl (by decide) rfl rfl (r_goto (tgt := 120) hX dX4_digest_145 (by decide) (r_iload hX dX4_digest_120 rfl (r_bipushZ hX dX4_digest_122 (by decide +kernel) (r_icmp_gtZ (tgt := 148) hX dX4_digest_124 (by decide) (by decide) (by decide) (fun q => absurd q (by decide)) (fun _ => ?_))))))
  refine r_lload_n hX dX4_digest_127 rfl rfl (r_ldc2Z (z := 31) hX kc_X4_227 (by decide +kernel) dX4_digest_128 (r_lmulZ hX dX4_digest_131 (r_aload_n hX dX4_digest_132 rfl rfl (r_iload_n hX dX4_digest_133 rfl rfl (r_iload hX dX4_digest_134 rfl (r_callV hX (z_X4_told ad ae cs K S 0 rest hS _ 2 (by first | with_reducible assumption | decide | omega) (by first | with_reducible assumption | decide | omega) _ (by first | with_reducible assumption | decide | omega)) kv_X4_193 14 rfl rfl rfl rfl (Nat.le_of_ble_eq_true rfl) ⟨(Nat.le_of_ble_eq_true rfl), (Nat.le_of_ble_eq_true rfl)⟩ ⟨(Nat.le_of_ble_eq_true rfl), (Nat.le_of_ble_eq_true rfl)⟩ dX4_digest_136 (fun _ _ z => False.elim z) (fun v9 ws9 h38 => ?_)))))))
  obtain ⟨rfl, hw9⟩ := h38
  subst ws9
  dsimp only [mPush]
  refine r_i2lZ hX dX4_digest_139 (hbD2 _) (r_laddG hX dX4_digest_140 (fun g42 hg42 => ?_))
  refine r_lstore_n hX dX4_digest_141 rfl (by decide) rfl (r_iincZ (z := 1) (y := 4) hX dX4_digest_142 rfl (by decide) rfl rfl (r_goto (tgt := 120) hX dX4_digest_145 (by decide) (r_iload hX dX4_digest_120 rfl (r_bipushZ hX dX4_digest_122 (by decide +kernel) (r_icmp_gtZ (tgt := 148) hX dX4_digest_124 (by decide) (by decide) (by decide) (fun q => absurd q (by decide)) (fun _ => ?_))))))
  refine r_lload_n hX dX4_digest_127 rfl rfl (r_ldc2Z (z := 31) hX kc_X4_227 (by decide +kernel) dX4_digest_128 (r_lmulZ hX dX4_digest_131 (r_aload_n hX dX4_digest_132 rfl rfl (r_iload_n hX dX4_digest_133 rfl rfl (r_iload hX dX4_digest_134 rfl (r_callV hX (z_X4_told ad ae cs K S 0 rest hS _ 2 (by first | with_reducible assumption | decide | omega) (by first | with_reducible assumption | decide | omega) _ (by first | with_reducible assumption | decide | omega)) kv_X4_193 14 rfl rfl rfl rfl (Nat.le_of_ble_eq_true rfl) ⟨(Nat.le_of_ble_eq_true rfl), (Nat.le_of_ble_eq_true rfl)⟩ ⟨(Nat.le_of_ble_eq_true rfl), (Nat.le_of_ble_eq_true rfl)⟩ dX4_digest_136 (fun _ _ z => False.elim z) (fun v9 ws9 h39 => ?_)))))))
  obtain ⟨rfl, hw9⟩ := h39
  subst ws9
  dsimp only [mPush]
  refine r_i2lZ hX dX4_digest_139 (hbD2 _) (r_laddG hX dX4_digest_140 (fun g43 hg43 => ?_))
  refine r_lstore_n hX dX4_digest_141 rfl (by decide) rfl (r_iincZ (z := 1) (y := 5) hX dX4_digest_142 rfl (by decide) rfl rfl (r_goto (tgt := 120) hX dX4_digest_145 (by decide) (r_iload hX dX4_digest_120 rfl (r_bipushZ hX dX4_digest_122 (by decide +kernel) (r_icmp_gtZ (tgt := 148) hX dX4_digest_124 (by decide) (by decide) (by decide) (fun q => absurd q (by decide)) (fun _ => ?_))))))
  refine r_lload_n hX dX4_digest_127 rfl rfl (r_ldc2Z (z := 31) hX kc_X4_227 (by decide +kernel) dX4_digest_128 (r_lmulZ hX dX4_digest_131 (r_aload_n hX dX4_digest_132 rfl rfl (r_iload_n hX dX4_digest_133 rfl rfl (r_iload hX dX4_digest_134 rfl (r_callV hX (z_X4_told ad ae cs K S 0 rest hS _ 2 (by first | with_reducible assumption | decide | omega) (by first | with_reducible assumption | decide | omega) _ (by first | with_reducible assumption | decide | omega)) kv_X4_193 14 rfl rfl rfl rfl (Nat.le_of_ble_eq_true rfl) ⟨(Nat.le_of_ble_eq_true rfl), (Nat.le_of_ble_eq_true rfl)⟩ ⟨(Nat.le_of_ble_eq_true rfl), (Nat.le_of_ble_eq_true rfl)⟩ dX4_digest_136 (fun _ _ z => False.elim z) (fun v9 ws9 h40 => ?_)))))))
  obtain ⟨rfl, hw9⟩ := h40
  subst ws9
  dsimp only [mPush]
  refine r_i2lZ hX dX4_digest_139 (hbD2 _) (r_laddG hX dX4_digest_140 (fun g44 hg44 => ?_))
  refine r_lstore_n hX dX4_digest_141 rfl (by decide) rfl (r_lc6 (i0 := 0) (i1 := 1) (i2 := 3) (i3 := 4) (i4 := 5) (i5 := 6) rfl rfl rfl rfl rfl rfl (r_iincZ (z := 1) (y := 6) hX dX4_digest_142 rfl (by decide) rfl rfl (r_goto (tgt := 120) hX dX4_digest_145 (by decide) (r_iload hX dX4_digest_120 rfl (r_bipushZ hX dX4_digest_122 (by decide +kernel) (r_icmp_gtZ (tgt := 148) hX dX4_digest_124 (by decide) (by decide) (by decide) (fun q => absurd q (by decide)) (fun _ => ?_)))))))
  refine r_lload_n hX dX4_digest_127 rfl rfl (r_ldc2Z (z := 31) hX kc_X4_227 (by decide +kernel) dX4_digest_128 (r_lmulZ hX dX4_digest_131 (r_aload_n hX dX4_digest_132 rfl rfl (r_iload_n hX dX4_digest_133 rfl rfl (r_iload hX dX4_digest_134 rfl (r_callV hX (z_X4_told ad ae cs K S 0 rest hS _ 2 (by first | with_reducible assumption | decide | omega) (by first | with_reducible assumption | decide | omega) _ (by first | with_reducible assumption | decide | omega)) kv_X4_193 14 rfl rfl rfl rfl (Nat.le_of_ble_eq_true rfl) ⟨(Nat.le_of_ble_eq_true rfl), (Nat.le_of_ble_eq_true rfl)⟩ ⟨(Nat.le_of_ble_eq_true rfl), (Nat.le_of_ble_eq_true rfl)⟩ dX4_digest_136 (fun _ _ z => False.elim z) (fun v9 ws9 h41 => ?_)))))))
  obtain ⟨rfl, hw9⟩ := h41
  subst ws9
  dsimp only [mPush]
  refine r_i2lZ hX dX4_digest_139 (hbD2 _) (r_laddG hX dX4_digest_140 (fun g45 hg45 => ?_))
  refine r_lstore_n hX dX4_digest_141 rfl (by decide) rfl (r_iincZ (z := 1) (y := 7) hX dX4_digest_142 rfl (by decide) rfl rfl (r_goto (tgt := 120) hX dX4_digest_145 (by decide) (r_iload hX dX4_digest_120 rfl (r_bipushZ hX dX4_digest_122 (by decide +kernel) (r_icmp_gtZ (tgt := 148) hX dX4_digest_124 (by decide) (by decide) (by decide) (fun q => absurd q (by decide)) (fun _ => ?_))))))
  refine r_lload_n hX dX4_digest_127 rfl rfl (r_ldc2Z (z := 31) hX kc_X4_227 (by decide +kernel) dX4_digest_128 (r_lmulZ hX dX4_digest_131 (r_aload_n hX dX4_digest_132 rfl rfl (r_iload_n hX dX4_digest_133 rfl rfl (r_iload hX dX4_digest_134 rfl (r_callV hX (z_X4_told ad ae cs K S 0 rest hS _ 2 (by first | with_reducible assumption | decide | omega) (by first | with_reducible assumption | decide | omega) _ (by first | with_reducible assumption | decide | omega)) kv_X4_193 14 rfl rfl rfl rfl (Nat.le_of_ble_eq_true rfl) ⟨(Nat.le_of_ble_eq_true rfl), (Nat.le_of_ble_eq_true rfl)⟩ ⟨(Nat.le_of_ble_eq_true rfl), (Nat.le_of_ble_eq_true rfl)⟩ dX4_digest_136 (fun _ _ z => False.elim z) (fun v9 ws9 h42 => ?_)))))))
  obtain ⟨rfl, hw9⟩ := h42
  subst ws9
  dsimp only [mPush]
  refine r_i2lZ hX dX4_digest_139 (hbD2 _) (r_laddG hX dX4_digest_140 (fun g46 hg46 => ?_))
  refine r_lstore_n hX dX4_digest_141 rfl (by decide) rfl (r_iincZ (z := 1) (y := 8) hX dX4_digest_142 rfl (by decide) rfl rfl (r_goto (tgt := 120) hX dX4_digest_145 (by decide) (r_iload hX dX4_digest_120 rfl (r_bipushZ hX dX4_digest_122 (by decide +kernel) (r_icmp_gtZ (tgt := 148) hX dX4_digest_124 (by decide) (by decide) (by decide) (fun q => absurd q (by decide)) (fun _ => ?_))))))
  refine r_lload_n hX dX4_digest_127 rfl rfl (r_ldc2Z (z := 31) hX kc_X4_227 (by decide +kernel) dX4_digest_128 (r_lmulZ hX dX4_digest_131 (r_aload_n hX dX4_digest_132 rfl rfl (r_iload_n hX dX4_digest_133 rfl rfl (r_iload hX dX4_digest_134 rfl (r_callV hX (z_X4_told ad ae cs K S 0 rest hS _ 2 (by first | with_reducible assumption | decide | omega) (by first | with_reducible assumption | decide | omega) _ (by first | with_reducible assumption | decide | omega)) kv_X4_193 14 rfl rfl rfl rfl (Nat.le_of_ble_eq_true rfl) ⟨(Nat.le_of_ble_eq_true rfl), (Nat.le_of_ble_eq_true rfl)⟩ ⟨(Nat.le_of_ble_eq_true rfl), (Nat.le_of_ble_eq_true rfl)⟩ dX4_digest_136 (fun _ _ z => False.elim z) (fun v9 ws9 h43 => ?_)))))))
  obtain ⟨rfl, hw9⟩ := h43
  subst ws9
  dsimp only [mPush]
  refine r_i2lZ hX dX4_digest_139 (hbD2 _) (r_laddG hX dX4_digest_140 (fun g47 hg47 => ?_))
  refine r_lstore_n hX dX4_digest_141 rfl (by decide) rfl (r_iincZ (z := 1) (y := 9) hX dX4_digest_142 rfl (by decide) rfl rfl (r_goto (tgt := 120) hX dX4_digest_145 (by decide) (r_iload hX dX4_digest_120 rfl (r_bipushZ hX dX4_digest_122 (by decide +kernel) (r_icmp_gtZ (tgt := 148) hX dX4_digest_124 (by decide) (by decide) (by decide) (fun q => absurd q (by decide)) (fun _ => ?_))))))
  refine r_lload_n hX dX4_digest_127 rfl rfl (r_ldc2Z (z := 31) hX kc_X4_227 (by decide +kernel) dX4_digest_128 (r_lmulZ hX dX4_digest_131 (r_aload_n hX dX4_digest_132 rfl rfl (r_iload_n hX dX4_digest_133 rfl rfl (r_iload hX dX4_digest_134 rfl (r_callV hX (z_X4_told ad ae cs K S 0 rest hS _ 2 (by first | with_reducible assumption | decide | omega) (by first | with_reducible assumption | decide | omega) _ (by first | with_reducible assumption | decide | omega)) kv_X4_193 14 rfl rfl rfl rfl (Nat.le_of_ble_eq_true rfl) ⟨(Nat.le_of_ble_eq_true rfl), (Nat.le_of_ble_eq_true rfl)⟩ ⟨(Nat.le_of_ble_eq_true rfl), (Nat.le_of_ble_eq_true rfl)⟩ dX4_digest_136 (fun _ _ z => False.elim z) (fun v9 ws9 h44 => ?_)))))))
  obtain ⟨rfl, hw9⟩ := h44
  subst ws9
  dsimp only [mPush]
  refine r_i2lZ hX dX4_digest_139 (hbD2 _) (r_laddG hX dX4_digest_140 (fun g48 hg48 => ?_))
  refine r_lstore_n hX dX4_digest_141 rfl (by decide) rfl (r_lc6 (i0 := 0) (i1 := 1) (i2 := 3) (i3 := 4) (i4 := 5) (i5 := 6) rfl rfl rfl rfl rfl rfl (r_iincZ (z := 1) (y := 10) hX dX4_digest_142 rfl (by decide) rfl rfl (r_goto (tgt := 120) hX dX4_digest_145 (by decide) (r_iload hX dX4_digest_120 rfl (r_bipushZ hX dX4_digest_122 (by decide +kernel) (r_icmp_gtZ (tgt := 148) hX dX4_digest_124 (by decide) (by decide) (by decide) (fun q => absurd q (by decide)) (fun _ => ?_)))))))
  refine r_lload_n hX dX4_digest_127 rfl rfl (r_ldc2Z (z := 31) hX kc_X4_227 (by decide +kernel) dX4_digest_128 (r_lmulZ hX dX4_digest_131 (r_aload_n hX dX4_digest_132 rfl rfl (r_iload_n hX dX4_digest_133 rfl rfl (r_iload hX dX4_digest_134 rfl (r_callV hX (z_X4_told ad ae cs K S 0 rest hS _ 2 (by first | with_reducible assumption | decide | omega) (by first | with_reducible assumption | decide | omega) _ (by first | with_reducible assumption | decide | omega)) kv_X4_193 14 rfl rfl rfl rfl (Nat.le_of_ble_eq_true rfl) ⟨(Nat.le_of_ble_eq_true rfl), (Nat.le_of_ble_eq_true rfl)⟩ ⟨(Nat.le_of_ble_eq_true rfl), (Nat.le_of_ble_eq_true rfl)⟩ dX4_digest_136 (fun _ _ z => False.elim z) (fun v9 ws9 h45 => ?_)))))))
  obtain ⟨rfl, hw9⟩ := h45
  subst ws9
  dsimp only [mPush]
  refine r_i2lZ hX dX4_digest_139 (hbD2 _) (r_laddG hX dX4_digest_140 (fun g49 hg49 => ?_))
  refine r_lstore_n hX dX4_digest_141 rfl (by decide) rfl (r_iincZ (z := 1) (y := 11) hX dX4_digest_142 rfl (by decide) rfl rfl (r_goto (tgt := 120) hX dX4_digest_145 (by decide) (r_iload hX dX4_digest_120 rfl (r_bipushZ hX dX4_digest_122 (by decide +kernel) (r_icmp_gtZ (tgt := 148) hX dX4_digest_124 (by decide) (by decide) (by decide) (fun q => absurd q (by decide)) (fun _ => ?_))))))
  refine r_lload_n hX dX4_digest_127 rfl rfl (r_ldc2Z (z := 31) hX kc_X4_227 (by decide +kernel) dX4_digest_128 (r_lmulZ hX dX4_digest_131 (r_aload_n hX dX4_digest_132 rfl rfl (r_iload_n hX dX4_digest_133 rfl rfl (r_iload hX dX4_digest_134 rfl (r_callV hX (z_X4_told ad ae cs K S 0 rest hS _ 2 (by first | with_reducible assumption | decide | omega) (by first | with_reducible assumption | decide | omega) _ (by first | with_reducible assumption | decide | omega)) kv_X4_193 14 rfl rfl rfl rfl (Nat.le_of_ble_eq_true rfl) ⟨(Nat.le_of_ble_eq_true rfl), (Nat.le_of_ble_eq_true rfl)⟩ ⟨(Nat.le_of_ble_eq_true rfl), (Nat.le_of_ble_eq_true rfl)⟩ dX4_digest_136 (fun _ _ z => False.elim z) (fun v9 ws9 h46 => ?_)))))))
  obtain ⟨rfl, hw9⟩ := h46
  subst ws9
  dsimp only [mPush]
  refine r_i2lZ hX dX4_digest_139 (hbD2 _) (r_laddG hX dX4_digest_140 (fun g50 hg50 => ?_))
  refine r_lstore_n hX dX4_digest_141 rfl (by decide) rfl (r_iincZ (z := 1) (y := 12) hX dX4_digest_142 rfl (by decide) rfl rfl (r_goto (tgt := 120) hX dX4_digest_145 (by decide) (r_iload hX dX4_digest_120 rfl (r_bipushZ hX dX4_digest_122 (by decide +kernel) (r_icmp_gtZ (tgt := 148) hX dX4_digest_124 (by decide) (by decide) (by decide) (fun q => absurd q (by decide)) (fun _ => ?_))))))
  refine r_lload_n hX dX4_digest_127 rfl rfl (r_ldc2Z (z := 31) hX kc_X4_227 (by decide +kernel) dX4_digest_128 (r_lmulZ hX dX4_digest_131 (r_aload_n hX dX4_digest_132 rfl rfl (r_iload_n hX dX4_digest_133 rfl rfl (r_iload hX dX4_digest_134 rfl (r_callV hX (z_X4_told ad ae cs K S 0 rest hS _ 2 (by first | with_reducible assumption | decide | omega) (by first | with_reducible assumption | decide | omega) _ (by first | with_reducible assumption | decide | omega)) kv_X4_193 14 rfl rfl rfl rfl (Nat.le_of_ble_eq_true rfl) ⟨(Nat.le_of_ble_eq_true rfl), (Nat.le_of_ble_eq_true rfl)⟩ ⟨(Nat.le_of_ble_eq_true rfl), (Nat.le_of_ble_eq_true rfl)⟩ dX4_digest_136 (fun _ _ z => False.elim z) (fun v9 ws9 h47 => ?_)))))))
  obtain ⟨rfl, hw9⟩ := h47
  subst ws9
  dsimp only [mPush]
  refine r_i2lZ hX dX4_digest_139 (hbD2 _) (r_laddG hX dX4_digest_140 (fun g51 hg51 => ?_))
  refine r_lstore_n hX dX4_digest_141 rfl (by decide) rfl (r_iincZ (z := 1) (y := 13) hX dX4_digest_142 rfl (by decide) rfl rfl (r_goto (tgt := 120) hX dX4_digest_145 (by decide) (r_iload hX dX4_digest_120 rfl (r_bipushZ hX dX4_digest_122 (by decide +kernel) (r_icmp_gtZ (tgt := 148) hX dX4_digest_124 (by decide) (by decide) (by decide) (fun _ => ?_) (fun q => absurd (by decide) q))))))
  refine r_iincZ (z := 1) (y := 3) hX dX4_digest_148 rfl (by decide) rfl rfl (r_goto (tgt := 112) hX dX4_digest_151 (by decide) (r_iload_n hX dX4_digest_112 rfl rfl (r_iconstZ hX dX4_digest_113 (r_icmp_geZ (tgt := 154) hX dX4_digest_114 (by decide) (by decide) (by decide) (fun q => absurd q (by decide)) (fun _ => ?_)))))
  refine r_iconstZ hX dX4_digest_117 (r_istore hX dX4_digest_118 (by decide) rfl (r_lc6 (i0 := 0) (i1 := 1) (i2 := 3) (i3 := 4) (i4 := 5) (i5 := 6) rfl rfl rfl rfl rfl rfl (r_iload hX dX4_digest_120 rfl (r_bipushZ hX dX4_digest_122 (by decide +kernel) (r_icmp_gtZ (tgt := 148) hX dX4_digest_124 (by decide) (by decide) (by decide) (fun q => absurd q (by decide)) (fun _ => ?_))))))
  refine r_lload_n hX dX4_digest_127 rfl rfl (r_ldc2Z (z := 31) hX kc_X4_227 (by decide +kernel) dX4_digest_128 (r_lmulZ hX dX4_digest_131 (r_aload_n hX dX4_digest_132 rfl rfl (r_iload_n hX dX4_digest_133 rfl rfl (r_iload hX dX4_digest_134 rfl (r_callV hX (z_X4_told ad ae cs K S 0 rest hS _ 3 (by first | with_reducible assumption | decide | omega) (by first | with_reducible assumption | decide | omega) _ (by first | with_reducible assumption | decide | omega)) kv_X4_193 14 rfl rfl rfl rfl (Nat.le_of_ble_eq_true rfl) ⟨(Nat.le_of_ble_eq_true rfl), (Nat.le_of_ble_eq_true rfl)⟩ ⟨(Nat.le_of_ble_eq_true rfl), (Nat.le_of_ble_eq_true rfl)⟩ dX4_digest_136 (fun _ _ z => False.elim z) (fun v9 ws9 h48 => ?_)))))))
  obtain ⟨rfl, hw9⟩ := h48
  subst ws9
  dsimp only [mPush]
  refine r_i2lZ hX dX4_digest_139 (hbD3 _) (r_laddG hX dX4_digest_140 (fun g52 hg52 => ?_))
  refine r_lstore_n hX dX4_digest_141 rfl (by decide) rfl (r_iincZ (z := 1) (y := 1) hX dX4_digest_142 rfl (by decide) rfl rfl (r_goto (tgt := 120) hX dX4_digest_145 (by decide) (r_iload hX dX4_digest_120 rfl (r_bipushZ hX dX4_digest_122 (by decide +kernel) (r_icmp_gtZ (tgt := 148) hX dX4_digest_124 (by decide) (by decide) (by decide) (fun q => absurd q (by decide)) (fun _ => ?_))))))
  refine r_lload_n hX dX4_digest_127 rfl rfl (r_ldc2Z (z := 31) hX kc_X4_227 (by decide +kernel) dX4_digest_128 (r_lmulZ hX dX4_digest_131 (r_aload_n hX dX4_digest_132 rfl rfl (r_iload_n hX dX4_digest_133 rfl rfl (r_iload hX dX4_digest_134 rfl (r_callV hX (z_X4_told ad ae cs K S 0 rest hS _ 3 (by first | with_reducible assumption | decide | omega) (by first | with_reducible assumption | decide | omega) _ (by first | with_reducible assumption | decide | omega)) kv_X4_193 14 rfl rfl rfl rfl (Nat.le_of_ble_eq_true rfl) ⟨(Nat.le_of_ble_eq_true rfl), (Nat.le_of_ble_eq_true rfl)⟩ ⟨(Nat.le_of_ble_eq_true rfl), (Nat.le_of_ble_eq_true rfl)⟩ dX4_digest_136 (fun _ _ z => False.elim z) (fun v9 ws9 h49 => ?_)))))))
  obtain ⟨rfl, hw9⟩ := h49
  subst ws9
  dsimp only [mPush]
  refine r_i2lZ hX dX4_digest_139 (hbD3 _) (r_laddG hX dX4_digest_140 (fun g53 hg53 => ?_))
  refine r_lstore_n hX dX4_digest_141 rfl (by decide) rfl (r_iincZ (z := 1) (y := 2) hX dX4_digest_142 rfl (by decide) rfl rfl (r_goto (tgt := 120) hX dX4_digest_145 (by decide) (r_iload hX dX4_digest_120 rfl (r_bipushZ hX dX4_digest_122 (by decide +kernel) (r_icmp_gtZ (tgt := 148) hX dX4_digest_124 (by decide) (by decide) (by decide) (fun q => absurd q (by decide)) (fun _ => ?_))))))
  refine r_lload_n hX dX4_digest_127 rfl rfl (r_ldc2Z (z := 31) hX kc_X4_227 (by decide +kernel) dX4_digest_128 (r_lmulZ hX dX4_digest_131 (r_aload_n hX dX4_digest_132 rfl rfl (r_iload_n hX dX4_digest_133 rfl rfl (r_iload hX dX4_digest_134 rfl (r_callV hX (z_X4_told ad ae cs K S 0 rest hS _ 3 (by first | with_reducible assumption | decide | omega) (by first | with_reducible assumption | decide | omega) _ (by first | with_reducible assumption | decide | omega)) kv_X4_193 14 rfl rfl rfl rfl (Nat.le_of_ble_eq_true rfl) ⟨(Nat.le_of_ble_eq_true rfl), (Nat.le_of_ble_eq_true rfl)⟩ ⟨(Nat.le_of_ble_eq_true rfl), (Nat.le_of_ble_eq_true rfl)⟩ dX4_digest_136 (fun _ _ z => False.elim z) (fun v9 ws9 h50 => ?_)))))))
  obtain ⟨rfl, hw9⟩ := h50
  subst ws9
  dsimp only [mPush]
  refine r_i2lZ hX dX4_digest_139 (hbD3 _) (r_laddG hX dX4_digest_140 (fun g54 hg54 => ?_))
  refine r_lstore_n hX dX4_digest_141 rfl (by decide) rfl (r_iincZ (z := 1) (y := 3) hX dX4_digest_142 rfl (by decide) rfl rfl (r_goto (tgt := 120) hX dX4_digest_145 (by decide) (r_iload hX dX4_digest_120 rfl (r_bipushZ hX dX4_digest_122 (by decide +kernel) (r_icmp_gtZ (tgt := 148) hX dX4_digest_124 (by decide) (by decide) (by decide) (fun q => absurd q (by decide)) (fun _ => ?_))))))
  refine r_lload_n hX dX4_digest_127 rfl rfl (r_ldc2Z (z := 31) hX kc_X4_227 (by decide +kernel) dX4_digest_128 (r_lmulZ hX dX4_digest_131 (r_aload_n hX dX4_digest_132 rfl rfl (r_iload_n hX dX4_digest_133 rfl rfl (r_iload hX dX4_digest_134 rfl (r_callV hX (z_X4_told ad ae cs K S 0 rest hS _ 3 (by first | with_reducible assumption | decide | omega) (by first | with_reducible assumption | decide | omega) _ (by first | with_reducible assumption | decide | omega)) kv_X4_193 14 rfl rfl rfl rfl (Nat.le_of_ble_eq_true rfl) ⟨(Nat.le_of_ble_eq_true rfl), (Nat.le_of_ble_eq_true rfl)⟩ ⟨(Nat.le_of_ble_eq_true rfl), (Nat.le_of_ble_eq_true rfl)⟩ dX4_digest_136 (fun _ _ z => False.elim z) (fun v9 ws9 h51 => ?_)))))))
  obtain ⟨rfl, hw9⟩ := h51
  subst ws9
  dsimp only [mPush]
  refine r_i2lZ hX dX4_digest_139 (hbD3 _) (r_laddG hX dX4_digest_140 (fun g55 hg55 => ?_))
  refine r_lstore_n hX dX4_digest_141 rfl (by decide) rfl (r_iincZ (z := 1) (y := 4) hX dX4_digest_142 rfl (by decide) rfl rfl (r_lc6 (i0 := 0) (i1 := 1) (i2 := 3) (i3 := 4) (i4 := 5) (i5 := 6) rfl rfl rfl rfl rfl rfl (r_goto (tgt := 120) hX dX4_digest_145 (by decide) (r_iload hX dX4_digest_120 rfl (r_bipushZ hX dX4_digest_122 (by decide +kernel) (r_icmp_gtZ (tgt := 148) hX dX4_digest_124 (by decide) (by decide) (by decide) (fun q => absurd q (by decide)) (fun _ => ?_)))))))
  refine r_lload_n hX dX4_digest_127 rfl rfl (r_ldc2Z (z := 31) hX kc_X4_227 (by decide +kernel) dX4_digest_128 (r_lmulZ hX dX4_digest_131 (r_aload_n hX dX4_digest_132 rfl rfl (r_iload_n hX dX4_digest_133 rfl rfl (r_iload hX dX4_digest_134 rfl (r_callV hX (z_X4_told ad ae cs K S 0 rest hS _ 3 (by first | with_reducible assumption | decide | omega) (by first | with_reducible assumption | decide | omega) _ (by first | with_reducible assumption | decide | omega)) kv_X4_193 14 rfl rfl rfl rfl (Nat.le_of_ble_eq_true rfl) ⟨(Nat.le_of_ble_eq_true rfl), (Nat.le_of_ble_eq_true rfl)⟩ ⟨(Nat.le_of_ble_eq_true rfl), (Nat.le_of_ble_eq_true rfl)⟩ dX4_digest_136 (fun _ _ z => False.elim z) (fun v9 ws9 h52 => ?_)))))))
  obtain ⟨rfl, hw9⟩ := h52
  subst ws9
  dsimp only [mPush]
  refine r_i2lZ hX dX4_digest_139 (hbD3 _) (r_laddG hX dX4_digest_140 (fun g56 hg56 => ?_))
  refine r_lstore_n hX dX4_digest_141 rfl (by decide) rfl (r_iincZ (z := 1) (y := 5) hX dX4_digest_142 rfl (by decide) rfl rfl (r_goto (tgt := 120) hX dX4_digest_145 (by decide) (r_iload hX dX4_digest_120 rfl (r_bipushZ hX dX4_digest_122 (by decide +kernel) (r_icmp_gtZ (tgt := 148) hX dX4_digest_124 (by decide) (by decide) (by decide) (fun q => absurd q (by decide)) (fun _ => ?_))))))
  refine r_lload_n hX dX4_digest_127 rfl rfl (r_ldc2Z (z := 31) hX kc_X4_227 (by decide +kernel) dX4_digest_128 (r_lmulZ hX dX4_digest_131 (r_aload_n hX dX4_digest_132 rfl rfl (r_iload_n hX dX4_digest_133 rfl rfl (r_iload hX dX4_digest_134 rfl (r_callV hX (z_X4_told ad ae cs K S 0 rest hS _ 3 (by first | with_reducible assumption | decide | omega) (by first | with_reducible assumption | decide | omega) _ (by first | with_reducible assumption | decide | omega)) kv_X4_193 14 rfl rfl rfl rfl (Nat.le_of_ble_eq_true rfl) ⟨(Nat.le_of_ble_eq_true rfl), (Nat.le_of_ble_eq_true rfl)⟩ ⟨(Nat.le_of_ble_eq_true rfl), (Nat.le_of_ble_eq_true rfl)⟩ dX4_digest_136 (fun _ _ z => False.elim z) (fun v9 ws9 h53 => ?_)))))))
  obtain ⟨rfl, hw9⟩ := h53
  subst ws9
  dsimp only [mPush]
  refine r_i2lZ hX dX4_digest_139 (hbD3 _) (r_laddG hX dX4_digest_140 (fun g57 hg57 => ?_))
  refine r_lstore_n hX dX4_digest_141 rfl (by decide) rfl (r_iincZ (z := 1) (y := 6) hX dX4_digest_142 rfl (by decide) rfl rfl (r_goto (tgt := 120) hX dX4_digest_145 (by decide) (r_iload hX dX4_digest_120 rfl (r_bipushZ hX dX4_digest_122 (by decide +kernel) (r_icmp_gtZ (tgt := 148) hX dX4_digest_124 (by decide) (by decide) (by decide) (fun q => absurd q (by decide)) (fun _ => ?_))))))
  refine r_lload_n hX dX4_digest_127 rfl rfl (r_ldc2Z (z := 31) hX kc_X4_227 (by decide +kernel) dX4_digest_128 (r_lmulZ hX dX4_digest_131 (r_aload_n hX dX4_digest_132 rfl rfl (r_iload_n hX dX4_digest_133 rfl rfl (r_iload hX dX4_digest_134 rfl (r_callV hX (z_X4_told ad ae cs K S 0 rest hS _ 3 (by first | with_reducible assumption | decide | omega) (by first | with_reducible assumption | decide | omega) _ (by first | with_reducible assumption | decide | omega)) kv_X4_193 14 rfl rfl rfl rfl (Nat.le_of_ble_eq_true rfl) ⟨(Nat.le_of_ble_eq_true rfl), (Nat.le_of_ble_eq_true rfl)⟩ ⟨(Nat.le_of_ble_eq_true rfl), (Nat.le_of_ble_eq_true rfl)⟩ dX4_digest_136 (fun _ _ z => False.elim z) (fun v9 ws9 h54 => ?_)))))))
  obtain ⟨rfl, hw9⟩ := h54
  subst ws9
  dsimp only [mPush]
  refine r_i2lZ hX dX4_digest_139 (hbD3 _) (r_laddG hX dX4_digest_140 (fun g58 hg58 => ?_))
  refine r_lstore_n hX dX4_digest_141 rfl (by decide) rfl (r_iincZ (z := 1) (y := 7) hX dX4_digest_142 rfl (by decide) rfl rfl (r_goto (tgt := 120) hX dX4_digest_145 (by decide) (r_iload hX dX4_digest_120 rfl (r_bipushZ hX dX4_digest_122 (by decide +kernel) (r_icmp_gtZ (tgt := 148) hX dX4_digest_124 (by decide) (by decide) (by decide) (fun q => absurd q (by decide)) (fun _ => ?_))))))
  refine r_lload_n hX dX4_digest_127 rfl rfl (r_ldc2Z (z := 31) hX kc_X4_227 (by decide +kernel) dX4_digest_128 (r_lmulZ hX dX4_digest_131 (r_aload_n hX dX4_digest_132 rfl rfl (r_iload_n hX dX4_digest_133 rfl rfl (r_iload hX dX4_digest_134 rfl (r_callV hX (z_X4_told ad ae cs K S 0 rest hS _ 3 (by first | with_reducible assumption | decide | omega) (by first | with_reducible assumption | decide | omega) _ (by first | with_reducible assumption | decide | omega)) kv_X4_193 14 rfl rfl rfl rfl (Nat.le_of_ble_eq_true rfl) ⟨(Nat.le_of_ble_eq_true rfl), (Nat.le_of_ble_eq_true rfl)⟩ ⟨(Nat.le_of_ble_eq_true rfl), (Nat.le_of_ble_eq_true rfl)⟩ dX4_digest_136 (fun _ _ z => False.elim z) (fun v9 ws9 h55 => ?_)))))))
  obtain ⟨rfl, hw9⟩ := h55
  subst ws9
  dsimp only [mPush]
  refine r_i2lZ hX dX4_digest_139 (hbD3 _) (r_laddG hX dX4_digest_140 (fun g59 hg59 => ?_))
  refine r_lstore_n hX dX4_digest_141 rfl (by decide) rfl (r_iincZ (z := 1) (y := 8) hX dX4_digest_142 rfl (by decide) rfl rfl (r_lc6 (i0 := 0) (i1 := 1) (i2 := 3) (i3 := 4) (i4 := 5) (i5 := 6) rfl rfl rfl rfl rfl rfl (r_goto (tgt := 120) hX dX4_digest_145 (by decide) (r_iload hX dX4_digest_120 rfl (r_bipushZ hX dX4_digest_122 (by decide +kernel) (r_icmp_gtZ (tgt := 148) hX dX4_digest_124 (by decide) (by decide) (by decide) (fun q => absurd q (by decide)) (fun _ => ?_)))))))
  refine r_lload_n hX dX4_digest_127 rfl rfl (r_ldc2Z (z := 31) hX kc_X4_227 (by decide +kernel) dX4_digest_128 (r_lmulZ hX dX4_digest_131 (r_aload_n hX dX4_digest_132 rfl rfl (r_iload_n hX dX4_digest_133 rfl rfl (r_iload hX dX4_digest_134 rfl (r_callV hX (z_X4_told ad ae cs K S 0 rest hS _ 3 (by first | with_reducible assumption | decide | omega) (by first | with_reducible assumption | decide | omega) _ (by first | with_reducible assumption | decide | omega)) kv_X4_193 14 rfl rfl rfl rfl (Nat.le_of_ble_eq_true rfl) ⟨(Nat.le_of_ble_eq_true rfl), (Nat.le_of_ble_eq_true rfl)⟩ ⟨(Nat.le_of_ble_eq_true rfl), (Nat.le_of_ble_eq_true rfl)⟩ dX4_digest_136 (fun _ _ z => False.elim z) (fun v9 ws9 h56 => ?_)))))))
  obtain ⟨rfl, hw9⟩ := h56
  subst ws9
  dsimp only [mPush]
  refine r_i2lZ hX dX4_digest_139 (hbD3 _) (r_laddG hX dX4_digest_140 (fun g60 hg60 => ?_))
  refine r_lstore_n hX dX4_digest_141 rfl (by decide) rfl (r_iincZ (z := 1) (y := 9) hX dX4_digest_142 rfl (by decide) rfl rfl (r_goto (tgt := 120) hX dX4_digest_145 (by decide) (r_iload hX dX4_digest_120 rfl (r_bipushZ hX dX4_digest_122 (by decide +kernel) (r_icmp_gtZ (tgt := 148) hX dX4_digest_124 (by decide) (by decide) (by decide) (fun q => absurd q (by decide)) (fun _ => ?_))))))
  refine r_lload_n hX dX4_digest_127 rfl rfl (r_ldc2Z (z := 31) hX kc_X4_227 (by decide +kernel) dX4_digest_128 (r_lmulZ hX dX4_digest_131 (r_aload_n hX dX4_digest_132 rfl rfl (r_iload_n hX dX4_digest_133 rfl rfl (r_iload hX dX4_digest_134 rfl (r_callV hX (z_X4_told ad ae cs K S 0 rest hS _ 3 (by first | with_reducible assumption | decide | omega) (by first | with_reducible assumption | decide | omega) _ (by first | with_reducible assumption | decide | omega)) kv_X4_193 14 rfl rfl rfl rfl (Nat.le_of_ble_eq_true rfl) ⟨(Nat.le_of_ble_eq_true rfl), (Nat.le_of_ble_eq_true rfl)⟩ ⟨(Nat.le_of_ble_eq_true rfl), (Nat.le_of_ble_eq_true rfl)⟩ dX4_digest_136 (fun _ _ z => False.elim z) (fun v9 ws9 h57 => ?_)))))))
  obtain ⟨rfl, hw9⟩ := h57
  subst ws9
  dsimp only [mPush]
  refine r_i2lZ hX dX4_digest_139 (hbD3 _) (r_laddG hX dX4_digest_140 (fun g61 hg61 => ?_))
  refine r_lstore_n hX dX4_digest_141 rfl (by decide) rfl (r_iincZ (z := 1) (y := 10) hX dX4_digest_142 rfl (by decide) rfl rfl (r_goto (tgt := 120) hX dX4_digest_145 (by decide) (r_iload hX dX4_digest_120 rfl (r_bipushZ hX dX4_digest_122 (by decide +kernel) (r_icmp_gtZ (tgt := 148) hX dX4_digest_124 (by decide) (by decide) (by decide) (fun q => absurd q (by decide)) (fun _ => ?_))))))
  refine r_lload_n hX dX4_digest_127 rfl rfl (r_ldc2Z (z := 31) hX kc_X4_227 (by decide +kernel) dX4_digest_128 (r_lmulZ hX dX4_digest_131 (r_aload_n hX dX4_digest_132 rfl rfl (r_iload_n hX dX4_digest_133 rfl rfl (r_iload hX dX4_digest_134 rfl (r_callV hX (z_X4_told ad ae cs K S 0 rest hS _ 3 (by first | with_reducible assumption | decide | omega) (by first | with_reducible assumption | decide | omega) _ (by first | with_reducible assumption | decide | omega)) kv_X4_193 14 rfl rfl rfl rfl (Nat.le_of_ble_eq_true rfl) ⟨(Nat.le_of_ble_eq_true rfl), (Nat.le_of_ble_eq_true rfl)⟩ ⟨(Nat.le_of_ble_eq_true rfl), (Nat.le_of_ble_eq_true rfl)⟩ dX4_digest_136 (fun _ _ z => False.elim z) (fun v9 ws9 h58 => ?_)))))))
  obtain ⟨rfl, hw9⟩ := h58
  subst ws9
  dsimp only [mPush]
  refine r_i2lZ hX dX4_digest_139 (hbD3 _) (r_laddG hX dX4_digest_140 (fun g62 hg62 => ?_))
  refine r_lstore_n hX dX4_digest_141 rfl (by decide) rfl (r_iincZ (z := 1) (y := 11) hX dX4_digest_142 rfl (by decide) rfl rfl (r_goto (tgt := 120) hX dX4_digest_145 (by decide) (r_iload hX dX4_digest_120 rfl (r_bipushZ hX dX4_digest_122 (by decide +kernel) (r_icmp_gtZ (tgt := 148) hX dX4_digest_124 (by decide) (by decide) (by decide) (fun q => absurd q (by decide)) (fun _ => ?_))))))
  refine r_lload_n hX dX4_digest_127 rfl rfl (r_ldc2Z (z := 31) hX kc_X4_227 (by decide +kernel) dX4_digest_128 (r_lmulZ hX dX4_digest_131 (r_aload_n hX dX4_digest_132 rfl rfl (r_iload_n hX dX4_digest_133 rfl rfl (r_iload hX dX4_digest_134 rfl (r_callV hX (z_X4_told ad ae cs K S 0 rest hS _ 3 (by first | with_reducible assumption | decide | omega) (by first | with_reducible assumption | decide | omega) _ (by first | with_reducible assumption | decide | omega)) kv_X4_193 14 rfl rfl rfl rfl (Nat.le_of_ble_eq_true rfl) ⟨(Nat.le_of_ble_eq_true rfl), (Nat.le_of_ble_eq_true rfl)⟩ ⟨(Nat.le_of_ble_eq_true rfl), (Nat.le_of_ble_eq_true rfl)⟩ dX4_digest_136 (fun _ _ z => False.elim z) (fun v9 ws9 h59 => ?_)))))))
  obtain ⟨rfl, hw9⟩ := h59
  subst ws9
  dsimp only [mPush]
  refine r_i2lZ hX dX4_digest_139 (hbD3 _) (r_laddG hX dX4_digest_140 (fun g63 hg63 => ?_))
  refine r_lstore_n hX dX4_digest_141 rfl (by decide) rfl (r_iincZ (z := 1) (y := 12) hX dX4_digest_142 rfl (by decide) rfl rfl (r_lc6 (i0 := 0) (i1 := 1) (i2 := 3) (i3 := 4) (i4 := 5) (i5 := 6) rfl rfl rfl rfl rfl rfl (r_goto (tgt := 120) hX dX4_digest_145 (by decide) (r_iload hX dX4_digest_120 rfl (r_bipushZ hX dX4_digest_122 (by decide +kernel) (r_icmp_gtZ (tgt := 148) hX dX4_digest_124 (by decide) (by decide) (by decide) (fun q => absurd q (by decide)) (fun _ => ?_)))))))
  refine r_lload_n hX dX4_digest_127 rfl rfl (r_ldc2Z (z := 31) hX kc_X4_227 (by decide +kernel) dX4_digest_128 (r_lmulZ hX dX4_digest_131 (r_aload_n hX dX4_digest_132 rfl rfl (r_iload_n hX dX4_digest_133 rfl rfl (r_iload hX dX4_digest_134 rfl (r_callV hX (z_X4_told ad ae cs K S 0 rest hS _ 3 (by first | with_reducible assumption | decide | omega) (by first | with_reducible assumption | decide | omega) _ (by first | with_reducible assumption | decide | omega)) kv_X4_193 14 rfl rfl rfl rfl (Nat.le_of_ble_eq_true rfl) ⟨(Nat.le_of_ble_eq_true rfl), (Nat.le_of_ble_eq_true rfl)⟩ ⟨(Nat.le_of_ble_eq_true rfl), (Nat.le_of_ble_eq_true rfl)⟩ dX4_digest_136 (fun _ _ z => False.elim z) (fun v9 ws9 h60 => ?_)))))))
  obtain ⟨rfl, hw9⟩ := h60
  subst ws9
  dsimp only [mPush]
  refine r_i2lZ hX dX4_digest_139 (hbD3 _) (r_laddG hX dX4_digest_140 (fun g64 hg64 => ?_))
  refine r_lstore_n hX dX4_digest_141 rfl (by decide) rfl (r_iincZ (z := 1) (y := 13) hX dX4_digest_142 rfl (by decide) rfl rfl (r_goto (tgt := 120) hX dX4_digest_145 (by decide) (r_iload hX dX4_digest_120 rfl (r_bipushZ hX dX4_digest_122 (by decide +kernel) (r_icmp_gtZ (tgt := 148) hX dX4_digest_124 (by decide) (by decide) (by decide) (fun _ => ?_) (fun q => absurd (by decide) q))))))
  refine r_iincZ (z := 1) (y := 4) hX dX4_digest_148 rfl (by decide) rfl rfl (r_goto (tgt := 112) hX dX4_digest_151 (by decide) (r_iload_n hX dX4_digest_112 rfl rfl (r_iconstZ hX dX4_digest_113 (r_icmp_geZ (tgt := 154) hX dX4_digest_114 (by decide) (by decide) (by decide) (fun _ => ?_) (fun q => absurd (by decide) q)))))
  refine r_iconstZ hX dX4_digest_154 (r_istore_n hX dX4_digest_155 rfl (by decide) rfl (r_iload_n hX dX4_digest_156 rfl rfl (r_iconstZ hX dX4_digest_157 (r_icmp_geZ (tgt := 197) hX dX4_digest_158 (by decide) (by decide) (by decide) (fun q => absurd q (by decide)) (fun _ => ?_)))))
  refine r_iconstZ hX dX4_digest_161 (r_istore hX dX4_digest_162 (by decide) rfl (r_iload hX dX4_digest_164 rfl (r_iconstZ hX dX4_digest_166 (r_icmp_gtZ (tgt := 191) hX dX4_digest_167 (by decide) (by decide) (by decide) (fun q => absurd q (by decide)) (fun _ => ?_)))))
  refine r_lload_n hX dX4_digest_170 rfl rfl (r_ldc2Z (z := 31) hX kc_X4_227 (by decide +kernel) dX4_digest_171 (r_lmulZ hX dX4_digest_174 (r_aload_n hX dX4_digest_175 rfl rfl (r_iload_n hX dX4_digest_176 rfl rfl (r_iload hX dX4_digest_177 rfl (r_callV hX (z_X4_clockTold ad ae cs K S 0 rest hS _ 0 (by first | with_reducible assumption | decide | omega) (by first | with_reducible assumption | decide | omega) _ (by first | with_reducible assumption | decide | omega)) kv_X4_216 14 rfl rfl rfl rfl (Nat.le_of_ble_eq_true rfl) ⟨(Nat.le_of_ble_eq_true rfl), (Nat.le_of_ble_eq_true rfl)⟩ ⟨(Nat.le_of_ble_eq_true rfl), (Nat.le_of_ble_eq_true rfl)⟩ dX4_digest_179 (fun _ _ z => False.elim z) (fun v9 ws9 h61 => ?_)))))))
  obtain ⟨rfl, hw9⟩ := h61
  subst ws9
  dsimp only [mPush]
  refine r_i2lZ hX dX4_digest_182 (hbC0 _) (r_laddG hX dX4_digest_183 (fun g65 hg65 => ?_))
  refine r_lstore_n hX dX4_digest_184 rfl (by decide) rfl (r_iincZ (z := 1) (y := 1) hX dX4_digest_185 rfl (by decide) rfl rfl (r_goto (tgt := 164) hX dX4_digest_188 (by decide) (r_iload hX dX4_digest_164 rfl (r_iconstZ hX dX4_digest_166 (r_icmp_gtZ (tgt := 191) hX dX4_digest_167 (by decide) (by decide) (by decide) (fun q => absurd q (by decide)) (fun _ => ?_))))))
  refine r_lload_n hX dX4_digest_170 rfl rfl (r_ldc2Z (z := 31) hX kc_X4_227 (by decide +kernel) dX4_digest_171 (r_lmulZ hX dX4_digest_174 (r_aload_n hX dX4_digest_175 rfl rfl (r_iload_n hX dX4_digest_176 rfl rfl (r_iload hX dX4_digest_177 rfl (r_callV hX (z_X4_clockTold ad ae cs K S 0 rest hS _ 0 (by first | with_reducible assumption | decide | omega) (by first | with_reducible assumption | decide | omega) _ (by first | with_reducible assumption | decide | omega)) kv_X4_216 14 rfl rfl rfl rfl (Nat.le_of_ble_eq_true rfl) ⟨(Nat.le_of_ble_eq_true rfl), (Nat.le_of_ble_eq_true rfl)⟩ ⟨(Nat.le_of_ble_eq_true rfl), (Nat.le_of_ble_eq_true rfl)⟩ dX4_digest_179 (fun _ _ z => False.elim z) (fun v9 ws9 h62 => ?_)))))))
  obtain ⟨rfl, hw9⟩ := h62
  subst ws9
  dsimp only [mPush]
  refine r_i2lZ hX dX4_digest_182 (hbC0 _) (r_laddG hX dX4_digest_183 (fun g66 hg66 => ?_))
  refine r_lstore_n hX dX4_digest_184 rfl (by decide) rfl (r_iincZ (z := 1) (y := 2) hX dX4_digest_185 rfl (by decide) rfl rfl (r_lc6 (i0 := 0) (i1 := 1) (i2 := 3) (i3 := 4) (i4 := 5) (i5 := 6) rfl rfl rfl rfl rfl rfl (r_goto (tgt := 164) hX dX4_digest_188 (by decide) (r_iload hX dX4_digest_164 rfl (r_iconstZ hX dX4_digest_166 (r_icmp_gtZ (tgt := 191) hX dX4_digest_167 (by decide) (by decide) (by decide) (fun q => absurd q (by decide)) (fun _ => ?_)))))))
  refine r_lload_n hX dX4_digest_170 rfl rfl (r_ldc2Z (z := 31) hX kc_X4_227 (by decide +kernel) dX4_digest_171 (r_lmulZ hX dX4_digest_174 (r_aload_n hX dX4_digest_175 rfl rfl (r_iload_n hX dX4_digest_176 rfl rfl (r_iload hX dX4_digest_177 rfl (r_callV hX (z_X4_clockTold ad ae cs K S 0 rest hS _ 0 (by first | with_reducible assumption | decide | omega) (by first | with_reducible assumption | decide | omega) _ (by first | with_reducible assumption | decide | omega)) kv_X4_216 14 rfl rfl rfl rfl (Nat.le_of_ble_eq_true rfl) ⟨(Nat.le_of_ble_eq_true rfl), (Nat.le_of_ble_eq_true rfl)⟩ ⟨(Nat.le_of_ble_eq_true rfl), (Nat.le_of_ble_eq_true rfl)⟩ dX4_digest_179 (fun _ _ z => False.elim z) (fun v9 ws9 h63 => ?_)))))))
  obtain ⟨rfl, hw9⟩ := h63
  subst ws9
  dsimp only [mPush]
  refine r_i2lZ hX dX4_digest_182 (hbC0 _) (r_laddG hX dX4_digest_183 (fun g67 hg67 => ?_))
  refine r_lstore_n hX dX4_digest_184 rfl (by decide) rfl (r_iincZ (z := 1) (y := 3) hX dX4_digest_185 rfl (by decide) rfl rfl (r_goto (tgt := 164) hX dX4_digest_188 (by decide) (r_iload hX dX4_digest_164 rfl (r_iconstZ hX dX4_digest_166 (r_icmp_gtZ (tgt := 191) hX dX4_digest_167 (by decide) (by decide) (by decide) (fun q => absurd q (by decide)) (fun _ => ?_))))))
  refine r_lload_n hX dX4_digest_170 rfl rfl (r_ldc2Z (z := 31) hX kc_X4_227 (by decide +kernel) dX4_digest_171 (r_lmulZ hX dX4_digest_174 (r_aload_n hX dX4_digest_175 rfl rfl (r_iload_n hX dX4_digest_176 rfl rfl (r_iload hX dX4_digest_177 rfl (r_callV hX (z_X4_clockTold ad ae cs K S 0 rest hS _ 0 (by first | with_reducible assumption | decide | omega) (by first | with_reducible assumption | decide | omega) _ (by first | with_reducible assumption | decide | omega)) kv_X4_216 14 rfl rfl rfl rfl (Nat.le_of_ble_eq_true rfl) ⟨(Nat.le_of_ble_eq_true rfl), (Nat.le_of_ble_eq_true rfl)⟩ ⟨(Nat.le_of_ble_eq_true rfl), (Nat.le_of_ble_eq_true rfl)⟩ dX4_digest_179 (fun _ _ z => False.elim z) (fun v9 ws9 h64 => ?_)))))))
  obtain ⟨rfl, hw9⟩ := h64
  subst ws9
  dsimp only [mPush]
  refine r_i2lZ hX dX4_digest_182 (hbC0 _) (r_laddG hX dX4_digest_183 (fun g68 hg68 => ?_))
  refine r_lstore_n hX dX4_digest_184 rfl (by decide) rfl (r_iincZ (z := 1) (y := 4) hX dX4_digest_185 rfl (by decide) rfl rfl (r_goto (tgt := 164) hX dX4_digest_188 (by decide) (r_iload hX dX4_digest_164 rfl (r_iconstZ hX dX4_digest_166 (r_icmp_gtZ (tgt := 191) hX dX4_digest_167 (by decide) (by decide) (by decide) (fun q => absurd q (by decide)) (fun _ => ?_))))))
  refine r_lload_n hX dX4_digest_170 rfl rfl (r_ldc2Z (z := 31) hX kc_X4_227 (by decide +kernel) dX4_digest_171 (r_lmulZ hX dX4_digest_174 (r_aload_n hX dX4_digest_175 rfl rfl (r_iload_n hX dX4_digest_176 rfl rfl (r_iload hX dX4_digest_177 rfl (r_callV hX (z_X4_clockTold ad ae cs K S 0 rest hS _ 0 (by first | with_reducible assumption | decide | omega) (by first | with_reducible assumption | decide | omega) _ (by first | with_reducible assumption | decide | omega)) kv_X4_216 14 rfl rfl rfl rfl (Nat.le_of_ble_eq_true rfl) ⟨(Nat.le_of_ble_eq_true rfl), (Nat.le_of_ble_eq_true rfl)⟩ ⟨(Nat.le_of_ble_eq_true rfl), (Nat.le_of_ble_eq_true rfl)⟩ dX4_digest_179 (fun _ _ z => False.elim z) (fun v9 ws9 h65 => ?_)))))))
  obtain ⟨rfl, hw9⟩ := h65
  subst ws9
  dsimp only [mPush]
  refine r_i2lZ hX dX4_digest_182 (hbC0 _) (r_laddG hX dX4_digest_183 (fun g69 hg69 => ?_))
  refine r_lstore_n hX dX4_digest_184 rfl (by decide) rfl (r_iincZ (z := 1) (y := 5) hX dX4_digest_185 rfl (by decide) rfl rfl (r_goto (tgt := 164) hX dX4_digest_188 (by decide) (r_iload hX dX4_digest_164 rfl (r_iconstZ hX dX4_digest_166 (r_icmp_gtZ (tgt := 191) hX dX4_digest_167 (by decide) (by decide) (by decide) (fun q => absurd q (by decide)) (fun _ => ?_))))))
  refine r_lload_n hX dX4_digest_170 rfl rfl (r_ldc2Z (z := 31) hX kc_X4_227 (by decide +kernel) dX4_digest_171 (r_lmulZ hX dX4_digest_174 (r_aload_n hX dX4_digest_175 rfl rfl (r_iload_n hX dX4_digest_176 rfl rfl (r_iload hX dX4_digest_177 rfl (r_callV hX (z_X4_clockTold ad ae cs K S 0 rest hS _ 0 (by first | with_reducible assumption | decide | omega) (by first | with_reducible assumption | decide | omega) _ (by first | with_reducible assumption | decide | omega)) kv_X4_216 14 rfl rfl rfl rfl (Nat.le_of_ble_eq_true rfl) ⟨(Nat.le_of_ble_eq_true rfl), (Nat.le_of_ble_eq_true rfl)⟩ ⟨(Nat.le_of_ble_eq_true rfl), (Nat.le_of_ble_eq_true rfl)⟩ dX4_digest_179 (fun _ _ z => False.elim z) (fun v9 ws9 h66 => ?_)))))))
  obtain ⟨rfl, hw9⟩ := h66
  subst ws9
  dsimp only [mPush]
  refine r_i2lZ hX dX4_digest_182 (hbC0 _) (r_laddG hX dX4_digest_183 (fun g70 hg70 => ?_))
  refine r_lstore_n hX dX4_digest_184 rfl (by decide) rfl (r_iincZ (z := 1) (y := 6) hX dX4_digest_185 rfl (by decide) rfl rfl (r_lc6 (i0 := 0) (i1 := 1) (i2 := 3) (i3 := 4) (i4 := 5) (i5 := 6) rfl rfl rfl rfl rfl rfl (r_goto (tgt := 164) hX dX4_digest_188 (by decide) (r_iload hX dX4_digest_164 rfl (r_iconstZ hX dX4_digest_166 (r_icmp_gtZ (tgt := 191) hX dX4_digest_167 (by decide) (by decide) (by decide) (fun _ => ?_) (fun q => absurd (by decide) q)))))))
  refine r_iincZ (z := 1) (y := 1) hX dX4_digest_191 rfl (by decide) rfl rfl (r_goto (tgt := 156) hX dX4_digest_194 (by decide) (r_iload_n hX dX4_digest_156 rfl rfl (r_iconstZ hX dX4_digest_157 (r_icmp_geZ (tgt := 197) hX dX4_digest_158 (by decide) (by decide) (by decide) (fun q => absurd q (by decide)) (fun _ => ?_)))))
  refine r_iconstZ hX dX4_digest_161 (r_istore hX dX4_digest_162 (by decide) rfl (r_iload hX dX4_digest_164 rfl (r_iconstZ hX dX4_digest_166 (r_icmp_gtZ (tgt := 191) hX dX4_digest_167 (by decide) (by decide) (by decide) (fun q => absurd q (by decide)) (fun _ => ?_)))))
  refine r_lload_n hX dX4_digest_170 rfl rfl (r_ldc2Z (z := 31) hX kc_X4_227 (by decide +kernel) dX4_digest_171 (r_lmulZ hX dX4_digest_174 (r_aload_n hX dX4_digest_175 rfl rfl (r_iload_n hX dX4_digest_176 rfl rfl (r_iload hX dX4_digest_177 rfl (r_callV hX (z_X4_clockTold ad ae cs K S 0 rest hS _ 1 (by first | with_reducible assumption | decide | omega) (by first | with_reducible assumption | decide | omega) _ (by first | with_reducible assumption | decide | omega)) kv_X4_216 14 rfl rfl rfl rfl (Nat.le_of_ble_eq_true rfl) ⟨(Nat.le_of_ble_eq_true rfl), (Nat.le_of_ble_eq_true rfl)⟩ ⟨(Nat.le_of_ble_eq_true rfl), (Nat.le_of_ble_eq_true rfl)⟩ dX4_digest_179 (fun _ _ z => False.elim z) (fun v9 ws9 h67 => ?_)))))))
  obtain ⟨rfl, hw9⟩ := h67
  subst ws9
  dsimp only [mPush]
  refine r_i2lZ hX dX4_digest_182 (hbC1 _) (r_laddG hX dX4_digest_183 (fun g71 hg71 => ?_))
  refine r_lstore_n hX dX4_digest_184 rfl (by decide) rfl (r_iincZ (z := 1) (y := 1) hX dX4_digest_185 rfl (by decide) rfl rfl (r_goto (tgt := 164) hX dX4_digest_188 (by decide) (r_iload hX dX4_digest_164 rfl (r_iconstZ hX dX4_digest_166 (r_icmp_gtZ (tgt := 191) hX dX4_digest_167 (by decide) (by decide) (by decide) (fun q => absurd q (by decide)) (fun _ => ?_))))))
  refine r_lload_n hX dX4_digest_170 rfl rfl (r_ldc2Z (z := 31) hX kc_X4_227 (by decide +kernel) dX4_digest_171 (r_lmulZ hX dX4_digest_174 (r_aload_n hX dX4_digest_175 rfl rfl (r_iload_n hX dX4_digest_176 rfl rfl (r_iload hX dX4_digest_177 rfl (r_callV hX (z_X4_clockTold ad ae cs K S 0 rest hS _ 1 (by first | with_reducible assumption | decide | omega) (by first | with_reducible assumption | decide | omega) _ (by first | with_reducible assumption | decide | omega)) kv_X4_216 14 rfl rfl rfl rfl (Nat.le_of_ble_eq_true rfl) ⟨(Nat.le_of_ble_eq_true rfl), (Nat.le_of_ble_eq_true rfl)⟩ ⟨(Nat.le_of_ble_eq_true rfl), (Nat.le_of_ble_eq_true rfl)⟩ dX4_digest_179 (fun _ _ z => False.elim z) (fun v9 ws9 h68 => ?_)))))))
  obtain ⟨rfl, hw9⟩ := h68
  subst ws9
  dsimp only [mPush]
  refine r_i2lZ hX dX4_digest_182 (hbC1 _) (r_laddG hX dX4_digest_183 (fun g72 hg72 => ?_))
  refine r_lstore_n hX dX4_digest_184 rfl (by decide) rfl (r_iincZ (z := 1) (y := 2) hX dX4_digest_185 rfl (by decide) rfl rfl (r_goto (tgt := 164) hX dX4_digest_188 (by decide) (r_iload hX dX4_digest_164 rfl (r_iconstZ hX dX4_digest_166 (r_icmp_gtZ (tgt := 191) hX dX4_digest_167 (by decide) (by decide) (by decide) (fun q => absurd q (by decide)) (fun _ => ?_))))))
  refine r_lload_n hX dX4_digest_170 rfl rfl (r_ldc2Z (z := 31) hX kc_X4_227 (by decide +kernel) dX4_digest_171 (r_lmulZ hX dX4_digest_174 (r_aload_n hX dX4_digest_175 rfl rfl (r_iload_n hX dX4_digest_176 rfl rfl (r_iload hX dX4_digest_177 rfl (r_callV hX (z_X4_clockTold ad ae cs K S 0 rest hS _ 1 (by first | with_reducible assumption | decide | omega) (by first | with_reducible assumption | decide | omega) _ (by first | with_reducible assumption | decide | omega)) kv_X4_216 14 rfl rfl rfl rfl (Nat.le_of_ble_eq_true rfl) ⟨(Nat.le_of_ble_eq_true rfl), (Nat.le_of_ble_eq_true rfl)⟩ ⟨(Nat.le_of_ble_eq_true rfl), (Nat.le_of_ble_eq_true rfl)⟩ dX4_digest_179 (fun _ _ z => False.elim z) (fun v9 ws9 h69 => ?_)))))))
  obtain ⟨rfl, hw9⟩ := h69
  subst ws9
  dsimp only [mPush]
  refine r_i2lZ hX dX4_digest_182 (hbC1 _) (r_laddG hX dX4_digest_183 (fun g73 hg73 => ?_))
  refine r_lstore_n hX dX4_digest_184 rfl (by decide) rfl (r_iincZ (z := 1) (y := 3) hX dX4_digest_185 rfl (by decide) rfl rfl (r_goto (tgt := 164) hX dX4_digest_188 (by decide) (r_iload hX dX4_digest_164 rfl (r_iconstZ hX dX4_digest_166 (r_icmp_gtZ (tgt := 191) hX dX4_digest_167 (by decide) (by decide) (by decide) (fun q => absurd q (by decide)) (fun _ => ?_))))))
  refine r_lload_n hX dX4_digest_170 rfl rfl (r_ldc2Z (z := 31) hX kc_X4_227 (by decide +kernel) dX4_digest_171 (r_lmulZ hX dX4_digest_174 (r_aload_n hX dX4_digest_175 rfl rfl (r_iload_n hX dX4_digest_176 rfl rfl (r_iload hX dX4_digest_177 rfl (r_callV hX (z_X4_clockTold ad ae cs K S 0 rest hS _ 1 (by first | with_reducible assumption | decide | omega) (by first | with_reducible assumption | decide | omega) _ (by first | with_reducible assumption | decide | omega)) kv_X4_216 14 rfl rfl rfl rfl (Nat.le_of_ble_eq_true rfl) ⟨(Nat.le_of_ble_eq_true rfl), (Nat.le_of_ble_eq_true rfl)⟩ ⟨(Nat.le_of_ble_eq_true rfl), (Nat.le_of_ble_eq_true rfl)⟩ dX4_digest_179 (fun _ _ z => False.elim z) (fun v9 ws9 h70 => ?_)))))))
  obtain ⟨rfl, hw9⟩ := h70
  subst ws9
  dsimp only [mPush]
  refine r_i2lZ hX dX4_digest_182 (hbC1 _) (r_laddG hX dX4_digest_183 (fun g74 hg74 => ?_))
  refine r_lstore_n hX dX4_digest_184 rfl (by decide) rfl (r_lc6 (i0 := 0) (i1 := 1) (i2 := 3) (i3 := 4) (i4 := 5) (i5 := 6) rfl rfl rfl rfl rfl rfl (r_iincZ (z := 1) (y := 4) hX dX4_digest_185 rfl (by decide) rfl rfl (r_goto (tgt := 164) hX dX4_digest_188 (by decide) (r_iload hX dX4_digest_164 rfl (r_iconstZ hX dX4_digest_166 (r_icmp_gtZ (tgt := 191) hX dX4_digest_167 (by decide) (by decide) (by decide) (fun q => absurd q (by decide)) (fun _ => ?_)))))))
  refine r_lload_n hX dX4_digest_170 rfl rfl (r_ldc2Z (z := 31) hX kc_X4_227 (by decide +kernel) dX4_digest_171 (r_lmulZ hX dX4_digest_174 (r_aload_n hX dX4_digest_175 rfl rfl (r_iload_n hX dX4_digest_176 rfl rfl (r_iload hX dX4_digest_177 rfl (r_callV hX (z_X4_clockTold ad ae cs K S 0 rest hS _ 1 (by first | with_reducible assumption | decide | omega) (by first | with_reducible assumption | decide | omega) _ (by first | with_reducible assumption | decide | omega)) kv_X4_216 14 rfl rfl rfl rfl (Nat.le_of_ble_eq_true rfl) ⟨(Nat.le_of_ble_eq_true rfl), (Nat.le_of_ble_eq_true rfl)⟩ ⟨(Nat.le_of_ble_eq_true rfl), (Nat.le_of_ble_eq_true rfl)⟩ dX4_digest_179 (fun _ _ z => False.elim z) (fun v9 ws9 h71 => ?_)))))))
  obtain ⟨rfl, hw9⟩ := h71
  subst ws9
  dsimp only [mPush]
  refine r_i2lZ hX dX4_digest_182 (hbC1 _) (r_laddG hX dX4_digest_183 (fun g75 hg75 => ?_))
  refine r_lstore_n hX dX4_digest_184 rfl (by decide) rfl (r_iincZ (z := 1) (y := 5) hX dX4_digest_185 rfl (by decide) rfl rfl (r_goto (tgt := 164) hX dX4_digest_188 (by decide) (r_iload hX dX4_digest_164 rfl (r_iconstZ hX dX4_digest_166 (r_icmp_gtZ (tgt := 191) hX dX4_digest_167 (by decide) (by decide) (by decide) (fun q => absurd q (by decide)) (fun _ => ?_))))))
  refine r_lload_n hX dX4_digest_170 rfl rfl (r_ldc2Z (z := 31) hX kc_X4_227 (by decide +kernel) dX4_digest_171 (r_lmulZ hX dX4_digest_174 (r_aload_n hX dX4_digest_175 rfl rfl (r_iload_n hX dX4_digest_176 rfl rfl (r_iload hX dX4_digest_177 rfl (r_callV hX (z_X4_clockTold ad ae cs K S 0 rest hS _ 1 (by first | with_reducible assumption | decide | omega) (by first | with_reducible assumption | decide | omega) _ (by first | with_reducible assumption | decide | omega)) kv_X4_216 14 rfl rfl rfl rfl (Nat.le_of_ble_eq_true rfl) ⟨(Nat.le_of_ble_eq_true rfl), (Nat.le_of_ble_eq_true rfl)⟩ ⟨(Nat.le_of_ble_eq_true rfl), (Nat.le_of_ble_eq_true rfl)⟩ dX4_digest_179 (fun _ _ z => False.elim z) (fun v9 ws9 h72 => ?_)))))))
  obtain ⟨rfl, hw9⟩ := h72
  subst ws9
  dsimp only [mPush]
  refine r_i2lZ hX dX4_digest_182 (hbC1 _) (r_laddG hX dX4_digest_183 (fun g76 hg76 => ?_))
  refine r_lstore_n hX dX4_digest_184 rfl (by decide) rfl (r_iincZ (z := 1) (y := 6) hX dX4_digest_185 rfl (by decide) rfl rfl (r_goto (tgt := 164) hX dX4_digest_188 (by decide) (r_iload hX dX4_digest_164 rfl (r_iconstZ hX dX4_digest_166 (r_icmp_gtZ (tgt := 191) hX dX4_digest_167 (by decide) (by decide) (by decide) (fun _ => ?_) (fun q => absurd (by decide) q))))))
  refine r_iincZ (z := 1) (y := 2) hX dX4_digest_191 rfl (by decide) rfl rfl (r_goto (tgt := 156) hX dX4_digest_194 (by decide) (r_iload_n hX dX4_digest_156 rfl rfl (r_iconstZ hX dX4_digest_157 (r_icmp_geZ (tgt := 197) hX dX4_digest_158 (by decide) (by decide) (by decide) (fun q => absurd q (by decide)) (fun _ => ?_)))))
  refine r_iconstZ hX dX4_digest_161 (r_istore hX dX4_digest_162 (by decide) rfl (r_iload hX dX4_digest_164 rfl (r_iconstZ hX dX4_digest_166 (r_icmp_gtZ (tgt := 191) hX dX4_digest_167 (by decide) (by decide) (by decide) (fun q => absurd q (by decide)) (fun _ => ?_)))))
  refine r_lload_n hX dX4_digest_170 rfl rfl (r_ldc2Z (z := 31) hX kc_X4_227 (by decide +kernel) dX4_digest_171 (r_lmulZ hX dX4_digest_174 (r_aload_n hX dX4_digest_175 rfl rfl (r_iload_n hX dX4_digest_176 rfl rfl (r_iload hX dX4_digest_177 rfl (r_callV hX (z_X4_clockTold ad ae cs K S 0 rest hS _ 2 (by first | with_reducible assumption | decide | omega) (by first | with_reducible assumption | decide | omega) _ (by first | with_reducible assumption | decide | omega)) kv_X4_216 14 rfl rfl rfl rfl (Nat.le_of_ble_eq_true rfl) ⟨(Nat.le_of_ble_eq_true rfl), (Nat.le_of_ble_eq_true rfl)⟩ ⟨(Nat.le_of_ble_eq_true rfl), (Nat.le_of_ble_eq_true rfl)⟩ dX4_digest_179 (fun _ _ z => False.elim z) (fun v9 ws9 h73 => ?_)))))))
  obtain ⟨rfl, hw9⟩ := h73
  subst ws9
  dsimp only [mPush]
  refine r_i2lZ hX dX4_digest_182 (hbC2 _) (r_laddG hX dX4_digest_183 (fun g77 hg77 => ?_))
  refine r_lstore_n hX dX4_digest_184 rfl (by decide) rfl (r_iincZ (z := 1) (y := 1) hX dX4_digest_185 rfl (by decide) rfl rfl (r_lc6 (i0 := 0) (i1 := 1) (i2 := 3) (i3 := 4) (i4 := 5) (i5 := 6) rfl rfl rfl rfl rfl rfl (r_goto (tgt := 164) hX dX4_digest_188 (by decide) (r_iload hX dX4_digest_164 rfl (r_iconstZ hX dX4_digest_166 (r_icmp_gtZ (tgt := 191) hX dX4_digest_167 (by decide) (by decide) (by decide) (fun q => absurd q (by decide)) (fun _ => ?_)))))))
  refine r_lload_n hX dX4_digest_170 rfl rfl (r_ldc2Z (z := 31) hX kc_X4_227 (by decide +kernel) dX4_digest_171 (r_lmulZ hX dX4_digest_174 (r_aload_n hX dX4_digest_175 rfl rfl (r_iload_n hX dX4_digest_176 rfl rfl (r_iload hX dX4_digest_177 rfl (r_callV hX (z_X4_clockTold ad ae cs K S 0 rest hS _ 2 (by first | with_reducible assumption | decide | omega) (by first | with_reducible assumption | decide | omega) _ (by first | with_reducible assumption | decide | omega)) kv_X4_216 14 rfl rfl rfl rfl (Nat.le_of_ble_eq_true rfl) ⟨(Nat.le_of_ble_eq_true rfl), (Nat.le_of_ble_eq_true rfl)⟩ ⟨(Nat.le_of_ble_eq_true rfl), (Nat.le_of_ble_eq_true rfl)⟩ dX4_digest_179 (fun _ _ z => False.elim z) (fun v9 ws9 h74 => ?_)))))))
  obtain ⟨rfl, hw9⟩ := h74
  subst ws9
  dsimp only [mPush]
  refine r_i2lZ hX dX4_digest_182 (hbC2 _) (r_laddG hX dX4_digest_183 (fun g78 hg78 => ?_))
  refine r_lstore_n hX dX4_digest_184 rfl (by decide) rfl (r_iincZ (z := 1) (y := 2) hX dX4_digest_185 rfl (by decide) rfl rfl (r_goto (tgt := 164) hX dX4_digest_188 (by decide) (r_iload hX dX4_digest_164 rfl (r_iconstZ hX dX4_digest_166 (r_icmp_gtZ (tgt := 191) hX dX4_digest_167 (by decide) (by decide) (by decide) (fun q => absurd q (by decide)) (fun _ => ?_))))))
  refine r_lload_n hX dX4_digest_170 rfl rfl (r_ldc2Z (z := 31) hX kc_X4_227 (by decide +kernel) dX4_digest_171 (r_lmulZ hX dX4_digest_174 (r_aload_n hX dX4_digest_175 rfl rfl (r_iload_n hX dX4_digest_176 rfl rfl (r_iload hX dX4_digest_177 rfl (r_callV hX (z_X4_clockTold ad ae cs K S 0 rest hS _ 2 (by first | with_reducible assumption | decide | omega) (by first | with_reducible assumption | decide | omega) _ (by first | with_reducible assumption | decide | omega)) kv_X4_216 14 rfl rfl rfl rfl (Nat.le_of_ble_eq_true rfl) ⟨(Nat.le_of_ble_eq_true rfl), (Nat.le_of_ble_eq_true rfl)⟩ ⟨(Nat.le_of_ble_eq_true rfl), (Nat.le_of_ble_eq_true rfl)⟩ dX4_digest_179 (fun _ _ z => False.elim z) (fun v9 ws9 h75 => ?_)))))))
  obtain ⟨rfl, hw9⟩ := h75
  subst ws9
  dsimp only [mPush]
  refine r_i2lZ hX dX4_digest_182 (hbC2 _) (r_laddG hX dX4_digest_183 (fun g79 hg79 => ?_))
  refine r_lstore_n hX dX4_digest_184 rfl (by decide) rfl (r_iincZ (z := 1) (y := 3) hX dX4_digest_185 rfl (by decide) rfl rfl (r_goto (tgt := 164) hX dX4_digest_188 (by decide) (r_iload hX dX4_digest_164 rfl (r_iconstZ hX dX4_digest_166 (r_icmp_gtZ (tgt := 191) hX dX4_digest_167 (by decide) (by decide) (by decide) (fun q => absurd q (by decide)) (fun _ => ?_))))))
  refine r_lload_n hX dX4_digest_170 rfl rfl (r_ldc2Z (z := 31) hX kc_X4_227 (by decide +kernel) dX4_digest_171 (r_lmulZ hX dX4_digest_174 (r_aload_n hX dX4_digest_175 rfl rfl (r_iload_n hX dX4_digest_176 rfl rfl (r_iload hX dX4_digest_177 rfl (r_callV hX (z_X4_clockTold ad ae cs K S 0 rest hS _ 2 (by first | with_reducible assumption | decide | omega) (by first | with_reducible assumption | decide | omega) _ (by first | with_reducible assumption | decide | omega)) kv_X4_216 14 rfl rfl rfl rfl (Nat.le_of_ble_eq_true rfl) ⟨(Nat.le_of_ble_eq_true rfl), (Nat.le_of_ble_eq_true rfl)⟩ ⟨(Nat.le_of_ble_eq_true rfl), (Nat.le_of_ble_eq_true rfl)⟩ dX4_digest_179 (fun _ _ z => False.elim z) (fun v9 ws9 h76 => ?_)))))))
  obtain ⟨rfl, hw9⟩ := h76
  subst ws9
  dsimp only [mPush]
  refine r_i2lZ hX dX4_digest_182 (hbC2 _) (r_laddG hX dX4_digest_183 (fun g80 hg80 => ?_))
  refine r_lstore_n hX dX4_digest_184 rfl (by decide) rfl (r_iincZ (z := 1) (y := 4) hX dX4_digest_185 rfl (by decide) rfl rfl (r_goto (tgt := 164) hX dX4_digest_188 (by decide) (r_iload hX dX4_digest_164 rfl (r_iconstZ hX dX4_digest_166 (r_icmp_gtZ (tgt := 191) hX dX4_digest_167 (by decide) (by decide) (by decide) (fun q => absurd q (by decide)) (fun _ => ?_))))))
  refine r_lload_n hX dX4_digest_170 rfl rfl (r_ldc2Z (z := 31) hX kc_X4_227 (by decide +kernel) dX4_digest_171 (r_lmulZ hX dX4_digest_174 (r_aload_n hX dX4_digest_175 rfl rfl (r_iload_n hX dX4_digest_176 rfl rfl (r_iload hX dX4_digest_177 rfl (r_callV hX (z_X4_clockTold ad ae cs K S 0 rest hS _ 2 (by first | with_reducible assumption | decide | omega) (by first | with_reducible assumption | decide | omega) _ (by first | with_reducible assumption | decide | omega)) kv_X4_216 14 rfl rfl rfl rfl (Nat.le_of_ble_eq_true rfl) ⟨(Nat.le_of_ble_eq_true rfl), (Nat.le_of_ble_eq_true rfl)⟩ ⟨(Nat.le_of_ble_eq_true rfl), (Nat.le_of_ble_eq_true rfl)⟩ dX4_digest_179 (fun _ _ z => False.elim z) (fun v9 ws9 h77 => ?_)))))))
  obtain ⟨rfl, hw9⟩ := h77
  subst ws9
  dsimp only [mPush]
  refine r_i2lZ hX dX4_digest_182 (hbC2 _) (r_laddG hX dX4_digest_183 (fun g81 hg81 => ?_))
  refine r_lstore_n hX dX4_digest_184 rfl (by decide) rfl (r_iincZ (z := 1) (y := 5) hX dX4_digest_185 rfl (by decide) rfl rfl (r_lc6 (i0 := 0) (i1 := 1) (i2 := 3) (i3 := 4) (i4 := 5) (i5 := 6) rfl rfl rfl rfl rfl rfl (r_goto (tgt := 164) hX dX4_digest_188 (by decide) (r_iload hX dX4_digest_164 rfl (r_iconstZ hX dX4_digest_166 (r_icmp_gtZ (tgt := 191) hX dX4_digest_167 (by decide) (by decide) (by decide) (fun q => absurd q (by decide)) (fun _ => ?_)))))))
  refine r_lload_n hX dX4_digest_170 rfl rfl (r_ldc2Z (z := 31) hX kc_X4_227 (by decide +kernel) dX4_digest_171 (r_lmulZ hX dX4_digest_174 (r_aload_n hX dX4_digest_175 rfl rfl (r_iload_n hX dX4_digest_176 rfl rfl (r_iload hX dX4_digest_177 rfl (r_callV hX (z_X4_clockTold ad ae cs K S 0 rest hS _ 2 (by first | with_reducible assumption | decide | omega) (by first | with_reducible assumption | decide | omega) _ (by first | with_reducible assumption | decide | omega)) kv_X4_216 14 rfl rfl rfl rfl (Nat.le_of_ble_eq_true rfl) ⟨(Nat.le_of_ble_eq_true rfl), (Nat.le_of_ble_eq_true rfl)⟩ ⟨(Nat.le_of_ble_eq_true rfl), (Nat.le_of_ble_eq_true rfl)⟩ dX4_digest_179 (fun _ _ z => False.elim z) (fun v9 ws9 h78 => ?_)))))))
  obtain ⟨rfl, hw9⟩ := h78
  subst ws9
  dsimp only [mPush]
  refine r_i2lZ hX dX4_digest_182 (hbC2 _) (r_laddG hX dX4_digest_183 (fun g82 hg82 => ?_))
  refine r_lstore_n hX dX4_digest_184 rfl (by decide) rfl (r_iincZ (z := 1) (y := 6) hX dX4_digest_185 rfl (by decide) rfl rfl (r_goto (tgt := 164) hX dX4_digest_188 (by decide) (r_iload hX dX4_digest_164 rfl (r_iconstZ hX dX4_digest_166 (r_icmp_gtZ (tgt := 191) hX dX4_digest_167 (by decide) (by decide) (by decide) (fun _ => ?_) (fun q => absurd (by decide) q))))))
  refine r_iincZ (z := 1) (y := 3) hX dX4_digest_191 rfl (by decide) rfl rfl (r_goto (tgt := 156) hX dX4_digest_194 (by decide) (r_iload_n hX dX4_digest_156 rfl rfl (r_iconstZ hX dX4_digest_157 (r_icmp_geZ (tgt := 197) hX dX4_digest_158 (by decide) (by decide) (by decide) (fun _ => ?_) (fun q => absurd (by decide) q)))))
  refine r_iconstZ hX dX4_digest_197 (r_istore_n hX dX4_digest_198 rfl (by decide) rfl (r_iload_n hX dX4_digest_199 rfl rfl (r_iconstZ hX dX4_digest_200 (r_icmp_geZ (tgt := 257) hX dX4_digest_201 (by decide) (by decide) (by decide) (fun q => absurd q (by decide)) (fun _ => ?_)))))
  refine r_iconstZ hX dX4_digest_204 (r_istore hX dX4_digest_205 (by decide) rfl (r_iload hX dX4_digest_207 rfl (r_iconstZ hX dX4_digest_209 (r_icmp_geZ (tgt := 251) hX dX4_digest_210 (by decide) (by decide) (by decide) (fun q => absurd q (by decide)) (fun _ => ?_)))))
  refine r_lload_n hX dX4_digest_213 rfl rfl (r_ldc2Z (z := 31) hX kc_X4_227 (by decide +kernel) dX4_digest_214 (r_lmulZ hX dX4_digest_217 (r_aload_n hX dX4_digest_218 rfl rfl (r_iload_n hX dX4_digest_219 rfl rfl (r_iload hX dX4_digest_220 rfl (r_callV hX (z_X4_ordered ad ae cs K S 0 rest hS _ 0 (by first | with_reducible assumption | decide | omega) (by first | with_reducible assumption | decide | omega) _ 0 (by first | with_reducible assumption | decide | omega) (by first | with_reducible assumption | decide | omega)) kv_X4_196 14 rfl rfl rfl rfl (Nat.le_of_ble_eq_true rfl) ⟨(Nat.le_of_ble_eq_true rfl), (Nat.le_of_ble_eq_true rfl)⟩ ⟨(Nat.le_of_ble_eq_true rfl), (Nat.le_of_ble_eq_true rfl)⟩ dX4_digest_222 (fun _ _ z => False.elim z) (fun v9 ws9 h79 => ?_)))))))
  obtain ⟨rfl, hw9⟩ := h79
  subst ws9
  dsimp only [mPush]
  have hto79 := zTo_b (sse S 0) (sna S 0) (sow S 0) (sse S 0) (sna S 0) (sow S 0)
  refine r_i2lZ hX dX4_digest_225 (by first | with_reducible assumption | decide | omega) (r_laddG hX dX4_digest_226 (fun g83 hg83 => ?_))
  refine r_ldc2Z (z := 31) hX kc_X4_227 (by decide +kernel) dX4_digest_227 (r_lmulZ hX dX4_digest_230 (r_aload_n hX dX4_digest_231 rfl rfl (r_iload_n hX dX4_digest_232 rfl rfl (r_iload hX dX4_digest_233 rfl (r_iconstZ hX dX4_digest_235 (r_callV hX (z_X4_is ad ae cs K S 0 rest hS _ 0 (by first | with_reducible assumption | decide | omega) (by first | with_reducible assumption | decide | omega) _ 0 (by first | with_reducible assumption | decide | omega) (by first | with_reducible assumption | decide | omega) _ (by first | with_reducible assumption | decide | omega)) kv_X4_199 14 rfl rfl rfl rfl (Nat.le_of_ble_eq_true rfl) ⟨(Nat.le_of_ble_eq_true rfl), (Nat.le_of_ble_eq_true rfl)⟩ ⟨(Nat.le_of_ble_eq_true rfl), (Nat.le_of_ble_eq_true rfl)⟩ dX4_digest_236 (fun _ _ z => False.elim z) (fun v9 ws9 h80 => ?_)))))))
  obtain ⟨rfl, hw9⟩ := h80
  subst ws9
  dsimp only [mPush]
  rw [b2i_iZ]
  try clear hcb
  have hcb := cond_b (zSo (sse S 0) (sna S 0) (sow S 0) (sse S 0) (sna S 0) (sow S 0) 2)
  refine r_callS hX (z_X4_one _ _ _ (by first | with_reducible assumption | decide | omega)) ks_X4_84 rfl rfl (Nat.le_of_ble_eq_true rfl) ⟨(Nat.le_of_ble_eq_true rfl), (Nat.le_of_ble_eq_true rfl)⟩ ⟨(Nat.le_of_ble_eq_true rfl), (Nat.le_of_ble_eq_true rfl)⟩ dX4_digest_239 (fun _ _ z => False.elim z) (fun v9 ws9 h81 => ?_)
  obtain ⟨rfl, hw9⟩ := h81
  subst ws9
  dsimp only [mPush]
  refine r_i2lZ hX dX4_digest_242 (by first | with_reducible assumption | decide | omega) (r_laddG hX dX4_digest_243 (fun g84 hg84 => ?_))
  refine r_lstore_n hX dX4_digest_244 rfl (by decide) rfl (r_iincZ (z := 1) (y := 1) hX dX4_digest_245 rfl (by decide) rfl rfl (r_goto (tgt := 207) hX dX4_digest_248 (by decide) (r_iload hX dX4_digest_207 rfl (r_iconstZ hX dX4_digest_209 (r_icmp_geZ (tgt := 251) hX dX4_digest_210 (by decide) (by decide) (by decide) (fun q => absurd q (by decide)) (fun _ => ?_))))))
  refine r_lload_n hX dX4_digest_213 rfl rfl (r_ldc2Z (z := 31) hX kc_X4_227 (by decide +kernel) dX4_digest_214 (r_lmulZ hX dX4_digest_217 (r_aload_n hX dX4_digest_218 rfl rfl (r_iload_n hX dX4_digest_219 rfl rfl (r_iload hX dX4_digest_220 rfl (r_callV hX (z_X4_ordered ad ae cs K S 0 rest hS _ 0 (by first | with_reducible assumption | decide | omega) (by first | with_reducible assumption | decide | omega) _ 1 (by first | with_reducible assumption | decide | omega) (by first | with_reducible assumption | decide | omega)) kv_X4_196 14 rfl rfl rfl rfl (Nat.le_of_ble_eq_true rfl) ⟨(Nat.le_of_ble_eq_true rfl), (Nat.le_of_ble_eq_true rfl)⟩ ⟨(Nat.le_of_ble_eq_true rfl), (Nat.le_of_ble_eq_true rfl)⟩ dX4_digest_222 (fun _ _ z => False.elim z) (fun v9 ws9 h82 => ?_)))))))
  obtain ⟨rfl, hw9⟩ := h82
  subst ws9
  dsimp only [mPush]
  have hto82 := zTo_b (sse S 0) (sna S 0) (sow S 0) (sse S 1) (sna S 1) (sow S 1)
  refine r_i2lZ hX dX4_digest_225 (by first | with_reducible assumption | decide | omega) (r_laddG hX dX4_digest_226 (fun g85 hg85 => ?_))
  refine r_ldc2Z (z := 31) hX kc_X4_227 (by decide +kernel) dX4_digest_227 (r_lmulZ hX dX4_digest_230 (r_aload_n hX dX4_digest_231 rfl rfl (r_iload_n hX dX4_digest_232 rfl rfl (r_iload hX dX4_digest_233 rfl (r_iconstZ hX dX4_digest_235 (r_callV hX (z_X4_is ad ae cs K S 0 rest hS _ 0 (by first | with_reducible assumption | decide | omega) (by first | with_reducible assumption | decide | omega) _ 1 (by first | with_reducible assumption | decide | omega) (by first | with_reducible assumption | decide | omega) _ (by first | with_reducible assumption | decide | omega)) kv_X4_199 14 rfl rfl rfl rfl (Nat.le_of_ble_eq_true rfl) ⟨(Nat.le_of_ble_eq_true rfl), (Nat.le_of_ble_eq_true rfl)⟩ ⟨(Nat.le_of_ble_eq_true rfl), (Nat.le_of_ble_eq_true rfl)⟩ dX4_digest_236 (fun _ _ z => False.elim z) (fun v9 ws9 h83 => ?_)))))))
  obtain ⟨rfl, hw9⟩ := h83
  subst ws9
  dsimp only [mPush]
  rw [b2i_iZ]
  try clear hcb
  have hcb := cond_b (zSo (sse S 0) (sna S 0) (sow S 0) (sse S 1) (sna S 1) (sow S 1) 2)
  refine r_callS hX (z_X4_one _ _ _ (by first | with_reducible assumption | decide | omega)) ks_X4_84 rfl rfl (Nat.le_of_ble_eq_true rfl) ⟨(Nat.le_of_ble_eq_true rfl), (Nat.le_of_ble_eq_true rfl)⟩ ⟨(Nat.le_of_ble_eq_true rfl), (Nat.le_of_ble_eq_true rfl)⟩ dX4_digest_239 (fun _ _ z => False.elim z) (fun v9 ws9 h84 => ?_)
  obtain ⟨rfl, hw9⟩ := h84
  subst ws9
  dsimp only [mPush]
  refine r_i2lZ hX dX4_digest_242 (by first | with_reducible assumption | decide | omega) (r_laddG hX dX4_digest_243 (fun g86 hg86 => ?_))
  refine r_lstore_n hX dX4_digest_244 rfl (by decide) rfl (r_iincZ (z := 1) (y := 2) hX dX4_digest_245 rfl (by decide) rfl rfl (r_lc6 (i0 := 0) (i1 := 1) (i2 := 3) (i3 := 4) (i4 := 5) (i5 := 6) rfl rfl rfl rfl rfl rfl (r_goto (tgt := 207) hX dX4_digest_248 (by decide) (r_iload hX dX4_digest_207 rfl (r_iconstZ hX dX4_digest_209 (r_icmp_geZ (tgt := 251) hX dX4_digest_210 (by decide) (by decide) (by decide) (fun q => absurd q (by decide)) (fun _ => ?_)))))))
  refine r_lload_n hX dX4_digest_213 rfl rfl (r_ldc2Z (z := 31) hX kc_X4_227 (by decide +kernel) dX4_digest_214 (r_lmulZ hX dX4_digest_217 (r_aload_n hX dX4_digest_218 rfl rfl (r_iload_n hX dX4_digest_219 rfl rfl (r_iload hX dX4_digest_220 rfl (r_callV hX (z_X4_ordered ad ae cs K S 0 rest hS _ 0 (by first | with_reducible assumption | decide | omega) (by first | with_reducible assumption | decide | omega) _ 2 (by first | with_reducible assumption | decide | omega) (by first | with_reducible assumption | decide | omega)) kv_X4_196 14 rfl rfl rfl rfl (Nat.le_of_ble_eq_true rfl) ⟨(Nat.le_of_ble_eq_true rfl), (Nat.le_of_ble_eq_true rfl)⟩ ⟨(Nat.le_of_ble_eq_true rfl), (Nat.le_of_ble_eq_true rfl)⟩ dX4_digest_222 (fun _ _ z => False.elim z) (fun v9 ws9 h85 => ?_)))))))
  obtain ⟨rfl, hw9⟩ := h85
  subst ws9
  dsimp only [mPush]
  have hto85 := zTo_b (sse S 0) (sna S 0) (sow S 0) (sse S 2) (sna S 2) (sow S 2)
  refine r_i2lZ hX dX4_digest_225 (by first | with_reducible assumption | decide | omega) (r_laddG hX dX4_digest_226 (fun g87 hg87 => ?_))
  refine r_ldc2Z (z := 31) hX kc_X4_227 (by decide +kernel) dX4_digest_227 (r_lmulZ hX dX4_digest_230 (r_aload_n hX dX4_digest_231 rfl rfl (r_iload_n hX dX4_digest_232 rfl rfl (r_iload hX dX4_digest_233 rfl (r_iconstZ hX dX4_digest_235 (r_callV hX (z_X4_is ad ae cs K S 0 rest hS _ 0 (by first | with_reducible assumption | decide | omega) (by first | with_reducible assumption | decide | omega) _ 2 (by first | with_reducible assumption | decide | omega) (by first | with_reducible assumption | decide | omega) _ (by first | with_reducible assumption | decide | omega)) kv_X4_199 14 rfl rfl rfl rfl (Nat.le_of_ble_eq_true rfl) ⟨(Nat.le_of_ble_eq_true rfl), (Nat.le_of_ble_eq_true rfl)⟩ ⟨(Nat.le_of_ble_eq_true rfl), (Nat.le_of_ble_eq_true rfl)⟩ dX4_digest_236 (fun _ _ z => False.elim z) (fun v9 ws9 h86 => ?_)))))))
  obtain ⟨rfl, hw9⟩ := h86
  subst ws9
  dsimp only [mPush]
  rw [b2i_iZ]
  try clear hcb
  have hcb := cond_b (zSo (sse S 0) (sna S 0) (sow S 0) (sse S 2) (sna S 2) (sow S 2) 2)
  refine r_callS hX (z_X4_one _ _ _ (by first | with_reducible assumption | decide | omega)) ks_X4_84 rfl rfl (Nat.le_of_ble_eq_true rfl) ⟨(Nat.le_of_ble_eq_true rfl), (Nat.le_of_ble_eq_true rfl)⟩ ⟨(Nat.le_of_ble_eq_true rfl), (Nat.le_of_ble_eq_true rfl)⟩ dX4_digest_239 (fun _ _ z => False.elim z) (fun v9 ws9 h87 => ?_)
  obtain ⟨rfl, hw9⟩ := h87
  subst ws9
  dsimp only [mPush]
  refine r_i2lZ hX dX4_digest_242 (by first | with_reducible assumption | decide | omega) (r_laddG hX dX4_digest_243 (fun g88 hg88 => ?_))
  refine r_lstore_n hX dX4_digest_244 rfl (by decide) rfl (r_iincZ (z := 1) (y := 3) hX dX4_digest_245 rfl (by decide) rfl rfl (r_goto (tgt := 207) hX dX4_digest_248 (by decide) (r_iload hX dX4_digest_207 rfl (r_iconstZ hX dX4_digest_209 (r_icmp_geZ (tgt := 251) hX dX4_digest_210 (by decide) (by decide) (by decide) (fun q => absurd q (by decide)) (fun _ => ?_))))))
  refine r_lload_n hX dX4_digest_213 rfl rfl (r_ldc2Z (z := 31) hX kc_X4_227 (by decide +kernel) dX4_digest_214 (r_lmulZ hX dX4_digest_217 (r_aload_n hX dX4_digest_218 rfl rfl (r_iload_n hX dX4_digest_219 rfl rfl (r_iload hX dX4_digest_220 rfl (r_callV hX (z_X4_ordered ad ae cs K S 0 rest hS _ 0 (by first | with_reducible assumption | decide | omega) (by first | with_reducible assumption | decide | omega) _ 3 (by first | with_reducible assumption | decide | omega) (by first | with_reducible assumption | decide | omega)) kv_X4_196 14 rfl rfl rfl rfl (Nat.le_of_ble_eq_true rfl) ⟨(Nat.le_of_ble_eq_true rfl), (Nat.le_of_ble_eq_true rfl)⟩ ⟨(Nat.le_of_ble_eq_true rfl), (Nat.le_of_ble_eq_true rfl)⟩ dX4_digest_222 (fun _ _ z => False.elim z) (fun v9 ws9 h88 => ?_)))))))
  obtain ⟨rfl, hw9⟩ := h88
  subst ws9
  dsimp only [mPush]
  have hto88 := zTo_b (sse S 0) (sna S 0) (sow S 0) (sse S 3) (sna S 3) (sow S 3)
  refine r_i2lZ hX dX4_digest_225 (by first | with_reducible assumption | decide | omega) (r_laddG hX dX4_digest_226 (fun g89 hg89 => ?_))
  refine r_ldc2Z (z := 31) hX kc_X4_227 (by decide +kernel) dX4_digest_227 (r_lmulZ hX dX4_digest_230 (r_aload_n hX dX4_digest_231 rfl rfl (r_iload_n hX dX4_digest_232 rfl rfl (r_iload hX dX4_digest_233 rfl (r_iconstZ hX dX4_digest_235 (r_callV hX (z_X4_is ad ae cs K S 0 rest hS _ 0 (by first | with_reducible assumption | decide | omega) (by first | with_reducible assumption | decide | omega) _ 3 (by first | with_reducible assumption | decide | omega) (by first | with_reducible assumption | decide | omega) _ (by first | with_reducible assumption | decide | omega)) kv_X4_199 14 rfl rfl rfl rfl (Nat.le_of_ble_eq_true rfl) ⟨(Nat.le_of_ble_eq_true rfl), (Nat.le_of_ble_eq_true rfl)⟩ ⟨(Nat.le_of_ble_eq_true rfl), (Nat.le_of_ble_eq_true rfl)⟩ dX4_digest_236 (fun _ _ z => False.elim z) (fun v9 ws9 h89 => ?_)))))))
  obtain ⟨rfl, hw9⟩ := h89
  subst ws9
  dsimp only [mPush]
  rw [b2i_iZ]
  try clear hcb
  have hcb := cond_b (zSo (sse S 0) (sna S 0) (sow S 0) (sse S 3) (sna S 3) (sow S 3) 2)
  refine r_callS hX (z_X4_one _ _ _ (by first | with_reducible assumption | decide | omega)) ks_X4_84 rfl rfl (Nat.le_of_ble_eq_true rfl) ⟨(Nat.le_of_ble_eq_true rfl), (Nat.le_of_ble_eq_true rfl)⟩ ⟨(Nat.le_of_ble_eq_true rfl), (Nat.le_of_ble_eq_true rfl)⟩ dX4_digest_239 (fun _ _ z => False.elim z) (fun v9 ws9 h90 => ?_)
  obtain ⟨rfl, hw9⟩ := h90
  subst ws9
  dsimp only [mPush]
  refine r_i2lZ hX dX4_digest_242 (by first | with_reducible assumption | decide | omega) (r_laddG hX dX4_digest_243 (fun g90 hg90 => ?_))
  refine r_lstore_n hX dX4_digest_244 rfl (by decide) rfl (r_iincZ (z := 1) (y := 4) hX dX4_digest_245 rfl (by decide) rfl rfl (r_goto (tgt := 207) hX dX4_digest_248 (by decide) (r_iload hX dX4_digest_207 rfl (r_iconstZ hX dX4_digest_209 (r_icmp_geZ (tgt := 251) hX dX4_digest_210 (by decide) (by decide) (by decide) (fun _ => ?_) (fun q => absurd (by decide) q))))))
  refine r_iincZ (z := 1) (y := 1) hX dX4_digest_251 rfl (by decide) rfl rfl (r_goto (tgt := 199) hX dX4_digest_254 (by decide) (r_iload_n hX dX4_digest_199 rfl rfl (r_iconstZ hX dX4_digest_200 (r_icmp_geZ (tgt := 257) hX dX4_digest_201 (by decide) (by decide) (by decide) (fun q => absurd q (by decide)) (fun _ => ?_)))))
  refine r_iconstZ hX dX4_digest_204 (r_istore hX dX4_digest_205 (by decide) rfl (r_iload hX dX4_digest_207 rfl (r_iconstZ hX dX4_digest_209 (r_icmp_geZ (tgt := 251) hX dX4_digest_210 (by decide) (by decide) (by decide) (fun q => absurd q (by decide)) (fun _ => ?_)))))
  refine r_lload_n hX dX4_digest_213 rfl rfl (r_ldc2Z (z := 31) hX kc_X4_227 (by decide +kernel) dX4_digest_214 (r_lmulZ hX dX4_digest_217 (r_aload_n hX dX4_digest_218 rfl rfl (r_iload_n hX dX4_digest_219 rfl rfl (r_iload hX dX4_digest_220 rfl (r_callV hX (z_X4_ordered ad ae cs K S 0 rest hS _ 1 (by first | with_reducible assumption | decide | omega) (by first | with_reducible assumption | decide | omega) _ 0 (by first | with_reducible assumption | decide | omega) (by first | with_reducible assumption | decide | omega)) kv_X4_196 14 rfl rfl rfl rfl (Nat.le_of_ble_eq_true rfl) ⟨(Nat.le_of_ble_eq_true rfl), (Nat.le_of_ble_eq_true rfl)⟩ ⟨(Nat.le_of_ble_eq_true rfl), (Nat.le_of_ble_eq_true rfl)⟩ dX4_digest_222 (fun _ _ z => False.elim z) (fun v9 ws9 h91 => ?_)))))))
  obtain ⟨rfl, hw9⟩ := h91
  subst ws9
  dsimp only [mPush]
  have hto91 := zTo_b (sse S 1) (sna S 1) (sow S 1) (sse S 0) (sna S 0) (sow S 0)
  refine r_i2lZ hX dX4_digest_225 (by first | with_reducible assumption | decide | omega) (r_laddG hX dX4_digest_226 (fun g91 hg91 => ?_))
  refine r_ldc2Z (z := 31) hX kc_X4_227 (by decide +kernel) dX4_digest_227 (r_lmulZ hX dX4_digest_230 (r_aload_n hX dX4_digest_231 rfl rfl (r_iload_n hX dX4_digest_232 rfl rfl (r_iload hX dX4_digest_233 rfl (r_iconstZ hX dX4_digest_235 (r_callV hX (z_X4_is ad ae cs K S 0 rest hS _ 1 (by first | with_reducible assumption | decide | omega) (by first | with_reducible assumption | decide | omega) _ 0 (by first | with_reducible assumption | decide | omega) (by first | with_reducible assumption | decide | omega) _ (by first | with_reducible assumption | decide | omega)) kv_X4_199 14 rfl rfl rfl rfl (Nat.le_of_ble_eq_true rfl) ⟨(Nat.le_of_ble_eq_true rfl), (Nat.le_of_ble_eq_true rfl)⟩ ⟨(Nat.le_of_ble_eq_true rfl), (Nat.le_of_ble_eq_true rfl)⟩ dX4_digest_236 (fun _ _ z => False.elim z) (fun v9 ws9 h92 => ?_)))))))
  obtain ⟨rfl, hw9⟩ := h92
  subst ws9
  dsimp only [mPush]
  rw [b2i_iZ]
  try clear hcb
  have hcb := cond_b (zSo (sse S 1) (sna S 1) (sow S 1) (sse S 0) (sna S 0) (sow S 0) 2)
  refine r_callS hX (z_X4_one _ _ _ (by first | with_reducible assumption | decide | omega)) ks_X4_84 rfl rfl (Nat.le_of_ble_eq_true rfl) ⟨(Nat.le_of_ble_eq_true rfl), (Nat.le_of_ble_eq_true rfl)⟩ ⟨(Nat.le_of_ble_eq_true rfl), (Nat.le_of_ble_eq_true rfl)⟩ dX4_digest_239 (fun _ _ z => False.elim z) (fun v9 ws9 h93 => ?_)
  obtain ⟨rfl, hw9⟩ := h93
  subst ws9
  dsimp only [mPush]
  refine r_i2lZ hX dX4_digest_242 (by first | with_reducible assumption | decide | omega) (r_laddG hX dX4_digest_243 (fun g92 hg92 => ?_))
  refine r_lstore_n hX dX4_digest_244 rfl (by decide) rfl (r_iincZ (z := 1) (y := 1) hX dX4_digest_245 rfl (by decide) rfl rfl (r_goto (tgt := 207) hX dX4_digest_248 (by decide) (r_iload hX dX4_digest_207 rfl (r_iconstZ hX dX4_digest_209 (r_icmp_geZ (tgt := 251) hX dX4_digest_210 (by decide) (by decide) (by decide) (fun q => absurd q (by decide)) (fun _ => ?_))))))
  refine r_lload_n hX dX4_digest_213 rfl rfl (r_ldc2Z (z := 31) hX kc_X4_227 (by decide +kernel) dX4_digest_214 (r_lmulZ hX dX4_digest_217 (r_aload_n hX dX4_digest_218 rfl rfl (r_iload_n hX dX4_digest_219 rfl rfl (r_iload hX dX4_digest_220 rfl (r_callV hX (z_X4_ordered ad ae cs K S 0 rest hS _ 1 (by first | with_reducible assumption | decide | omega) (by first | with_reducible assumption | decide | omega) _ 1 (by first | with_reducible assumption | decide | omega) (by first | with_reducible assumption | decide | omega)) kv_X4_196 14 rfl rfl rfl rfl (Nat.le_of_ble_eq_true rfl) ⟨(Nat.le_of_ble_eq_true rfl), (Nat.le_of_ble_eq_true rfl)⟩ ⟨(Nat.le_of_ble_eq_true rfl), (Nat.le_of_ble_eq_true rfl)⟩ dX4_digest_222 (fun _ _ z => False.elim z) (fun v9 ws9 h94 => ?_)))))))
  obtain ⟨rfl, hw9⟩ := h94
  subst ws9
  dsimp only [mPush]
  have hto94 := zTo_b (sse S 1) (sna S 1) (sow S 1) (sse S 1) (sna S 1) (sow S 1)
  refine r_i2lZ hX dX4_digest_225 (by first | with_reducible assumption | decide | omega) (r_laddG hX dX4_digest_226 (fun g93 hg93 => ?_))
  refine r_ldc2Z (z := 31) hX kc_X4_227 (by decide +kernel) dX4_digest_227 (r_lmulZ hX dX4_digest_230 (r_aload_n hX dX4_digest_231 rfl rfl (r_iload_n hX dX4_digest_232 rfl rfl (r_iload hX dX4_digest_233 rfl (r_iconstZ hX dX4_digest_235 (r_callV hX (z_X4_is ad ae cs K S 0 rest hS _ 1 (by first | with_reducible assumption | decide | omega) (by first | with_reducible assumption | decide | omega) _ 1 (by first | with_reducible assumption | decide | omega) (by first | with_reducible assumption | decide | omega) _ (by first | with_reducible assumption | decide | omega)) kv_X4_199 14 rfl rfl rfl rfl (Nat.le_of_ble_eq_true rfl) ⟨(Nat.le_of_ble_eq_true rfl), (Nat.le_of_ble_eq_true rfl)⟩ ⟨(Nat.le_of_ble_eq_true rfl), (Nat.le_of_ble_eq_true rfl)⟩ dX4_digest_236 (fun _ _ z => False.elim z) (fun v9 ws9 h95 => ?_)))))))
  obtain ⟨rfl, hw9⟩ := h95
  subst ws9
  dsimp only [mPush]
  rw [b2i_iZ]
  try clear hcb
  have hcb := cond_b (zSo (sse S 1) (sna S 1) (sow S 1) (sse S 1) (sna S 1) (sow S 1) 2)
  refine r_callS hX (z_X4_one _ _ _ (by first | with_reducible assumption | decide | omega)) ks_X4_84 rfl rfl (Nat.le_of_ble_eq_true rfl) ⟨(Nat.le_of_ble_eq_true rfl), (Nat.le_of_ble_eq_true rfl)⟩ ⟨(Nat.le_of_ble_eq_true rfl), (Nat.le_of_ble_eq_true rfl)⟩ dX4_digest_239 (fun _ _ z => False.elim z) (fun v9 ws9 h96 => ?_)
  obtain ⟨rfl, hw9⟩ := h96
  subst ws9
  dsimp only [mPush]
  refine r_i2lZ hX dX4_digest_242 (by first | with_reducible assumption | decide | omega) (r_laddG hX dX4_digest_243 (fun g94 hg94 => ?_))
  refine r_lstore_n hX dX4_digest_244 rfl (by decide) rfl (r_lc6 (i0 := 0) (i1 := 1) (i2 := 3) (i3 := 4) (i4 := 5) (i5 := 6) rfl rfl rfl rfl rfl rfl (r_iincZ (z := 1) (y := 2) hX dX4_digest_245 rfl (by decide) rfl rfl (r_goto (tgt := 207) hX dX4_digest_248 (by decide) (r_iload hX dX4_digest_207 rfl (r_iconstZ hX dX4_digest_209 (r_icmp_geZ (tgt := 251) hX dX4_digest_210 (by decide) (by decide) (by decide) (fun q => absurd q (by decide)) (fun _ => ?_)))))))
  refine r_lload_n hX dX4_digest_213 rfl rfl (r_ldc2Z (z := 31) hX kc_X4_227 (by decide +kernel) dX4_digest_214 (r_lmulZ hX dX4_digest_217 (r_aload_n hX dX4_digest_218 rfl rfl (r_iload_n hX dX4_digest_219 rfl rfl (r_iload hX dX4_digest_220 rfl (r_callV hX (z_X4_ordered ad ae cs K S 0 rest hS _ 1 (by first | with_reducible assumption | decide | omega) (by first | with_reducible assumption | decide | omega) _ 2 (by first | with_reducible assumption | decide | omega) (by first | with_reducible assumption | decide | omega)) kv_X4_196 14 rfl rfl rfl rfl (Nat.le_of_ble_eq_true rfl) ⟨(Nat.le_of_ble_eq_true rfl), (Nat.le_of_ble_eq_true rfl)⟩ ⟨(Nat.le_of_ble_eq_true rfl), (Nat.le_of_ble_eq_true rfl)⟩ dX4_digest_222 (fun _ _ z => False.elim z) (fun v9 ws9 h97 => ?_)))))))
  obtain ⟨rfl, hw9⟩ := h97
  subst ws9
  dsimp only [mPush]
  have hto97 := zTo_b (sse S 1) (sna S 1) (sow S 1) (sse S 2) (sna S 2) (sow S 2)
  refine r_i2lZ hX dX4_digest_225 (by first | with_reducible assumption | decide | omega) (r_laddG hX dX4_digest_226 (fun g95 hg95 => ?_))
  refine r_ldc2Z (z := 31) hX kc_X4_227 (by decide +kernel) dX4_digest_227 (r_lmulZ hX dX4_digest_230 (r_aload_n hX dX4_digest_231 rfl rfl (r_iload_n hX dX4_digest_232 rfl rfl (r_iload hX dX4_digest_233 rfl (r_iconstZ hX dX4_digest_235 (r_callV hX (z_X4_is ad ae cs K S 0 rest hS _ 1 (by first | with_reducible assumption | decide | omega) (by first | with_reducible assumption | decide | omega) _ 2 (by first | with_reducible assumption | decide | omega) (by first | with_reducible assumption | decide | omega) _ (by first | with_reducible assumption | decide | omega)) kv_X4_199 14 rfl rfl rfl rfl (Nat.le_of_ble_eq_true rfl) ⟨(Nat.le_of_ble_eq_true rfl), (Nat.le_of_ble_eq_true rfl)⟩ ⟨(Nat.le_of_ble_eq_true rfl), (Nat.le_of_ble_eq_true rfl)⟩ dX4_digest_236 (fun _ _ z => False.elim z) (fun v9 ws9 h98 => ?_)))))))
  obtain ⟨rfl, hw9⟩ := h98
  subst ws9
  dsimp only [mPush]
  rw [b2i_iZ]
  try clear hcb
  have hcb := cond_b (zSo (sse S 1) (sna S 1) (sow S 1) (sse S 2) (sna S 2) (sow S 2) 2)
  refine r_callS hX (z_X4_one _ _ _ (by first | with_reducible assumption | decide | omega)) ks_X4_84 rfl rfl (Nat.le_of_ble_eq_true rfl) ⟨(Nat.le_of_ble_eq_true rfl), (Nat.le_of_ble_eq_true rfl)⟩ ⟨(Nat.le_of_ble_eq_true rfl), (Nat.le_of_ble_eq_true rfl)⟩ dX4_digest_239 (fun _ _ z => False.elim z) (fun v9 ws9 h99 => ?_)
  obtain ⟨rfl, hw9⟩ := h99
  subst ws9
  dsimp only [mPush]
  refine r_i2lZ hX dX4_digest_242 (by first | with_reducible assumption | decide | omega) (r_laddG hX dX4_digest_243 (fun g96 hg96 => ?_))
  refine r_lstore_n hX dX4_digest_244 rfl (by decide) rfl (r_iincZ (z := 1) (y := 3) hX dX4_digest_245 rfl (by decide) rfl rfl (r_goto (tgt := 207) hX dX4_digest_248 (by decide) (r_iload hX dX4_digest_207 rfl (r_iconstZ hX dX4_digest_209 (r_icmp_geZ (tgt := 251) hX dX4_digest_210 (by decide) (by decide) (by decide) (fun q => absurd q (by decide)) (fun _ => ?_))))))
  refine r_lload_n hX dX4_digest_213 rfl rfl (r_ldc2Z (z := 31) hX kc_X4_227 (by decide +kernel) dX4_digest_214 (r_lmulZ hX dX4_digest_217 (r_aload_n hX dX4_digest_218 rfl rfl (r_iload_n hX dX4_digest_219 rfl rfl (r_iload hX dX4_digest_220 rfl (r_callV hX (z_X4_ordered ad ae cs K S 0 rest hS _ 1 (by first | with_reducible assumption | decide | omega) (by first | with_reducible assumption | decide | omega) _ 3 (by first | with_reducible assumption | decide | omega) (by first | with_reducible assumption | decide | omega)) kv_X4_196 14 rfl rfl rfl rfl (Nat.le_of_ble_eq_true rfl) ⟨(Nat.le_of_ble_eq_true rfl), (Nat.le_of_ble_eq_true rfl)⟩ ⟨(Nat.le_of_ble_eq_true rfl), (Nat.le_of_ble_eq_true rfl)⟩ dX4_digest_222 (fun _ _ z => False.elim z) (fun v9 ws9 h100 => ?_)))))))
  obtain ⟨rfl, hw9⟩ := h100
  subst ws9
  dsimp only [mPush]
  have hto100 := zTo_b (sse S 1) (sna S 1) (sow S 1) (sse S 3) (sna S 3) (sow S 3)
  refine r_i2lZ hX dX4_digest_225 (by first | with_reducible assumption | decide | omega) (r_laddG hX dX4_digest_226 (fun g97 hg97 => ?_))
  refine r_ldc2Z (z := 31) hX kc_X4_227 (by decide +kernel) dX4_digest_227 (r_lmulZ hX dX4_digest_230 (r_aload_n hX dX4_digest_231 rfl rfl (r_iload_n hX dX4_digest_232 rfl rfl (r_iload hX dX4_digest_233 rfl (r_iconstZ hX dX4_digest_235 (r_callV hX (z_X4_is ad ae cs K S 0 rest hS _ 1 (by first | with_reducible assumption | decide | omega) (by first | with_reducible assumption | decide | omega) _ 3 (by first | with_reducible assumption | decide | omega) (by first | with_reducible assumption | decide | omega) _ (by first | with_reducible assumption | decide | omega)) kv_X4_199 14 rfl rfl rfl rfl (Nat.le_of_ble_eq_true rfl) ⟨(Nat.le_of_ble_eq_true rfl), (Nat.le_of_ble_eq_true rfl)⟩ ⟨(Nat.le_of_ble_eq_true rfl), (Nat.le_of_ble_eq_true rfl)⟩ dX4_digest_236 (fun _ _ z => False.elim z) (fun v9 ws9 h101 => ?_)))))))
  obtain ⟨rfl, hw9⟩ := h101
  subst ws9
  dsimp only [mPush]
  rw [b2i_iZ]
  try clear hcb
  have hcb := cond_b (zSo (sse S 1) (sna S 1) (sow S 1) (sse S 3) (sna S 3) (sow S 3) 2)
  refine r_callS hX (z_X4_one _ _ _ (by first | with_reducible assumption | decide | omega)) ks_X4_84 rfl rfl (Nat.le_of_ble_eq_true rfl) ⟨(Nat.le_of_ble_eq_true rfl), (Nat.le_of_ble_eq_true rfl)⟩ ⟨(Nat.le_of_ble_eq_true rfl), (Nat.le_of_ble_eq_true rfl)⟩ dX4_digest_239 (fun _ _ z => False.elim z) (fun v9 ws9 h102 => ?_)
  obtain ⟨rfl, hw9⟩ := h102
  subst ws9
  dsimp only [mPush]
  refine r_i2lZ hX dX4_digest_242 (by first | with_reducible assumption | decide | omega) (r_laddG hX dX4_digest_243 (fun g98 hg98 => ?_))
  refine r_lstore_n hX dX4_digest_244 rfl (by decide) rfl (r_iincZ (z := 1) (y := 4) hX dX4_digest_245 rfl (by decide) rfl rfl (r_goto (tgt := 207) hX dX4_digest_248 (by decide) (r_iload hX dX4_digest_207 rfl (r_iconstZ hX dX4_digest_209 (r_icmp_geZ (tgt := 251) hX dX4_digest_210 (by decide) (by decide) (by decide) (fun _ => ?_) (fun q => absurd (by decide) q))))))
  refine r_iincZ (z := 1) (y := 2) hX dX4_digest_251 rfl (by decide) rfl rfl (r_goto (tgt := 199) hX dX4_digest_254 (by decide) (r_iload_n hX dX4_digest_199 rfl rfl (r_iconstZ hX dX4_digest_200 (r_icmp_geZ (tgt := 257) hX dX4_digest_201 (by decide) (by decide) (by decide) (fun q => absurd q (by decide)) (fun _ => ?_)))))
  refine r_iconstZ hX dX4_digest_204 (r_istore hX dX4_digest_205 (by decide) rfl (r_iload hX dX4_digest_207 rfl (r_iconstZ hX dX4_digest_209 (r_icmp_geZ (tgt := 251) hX dX4_digest_210 (by decide) (by decide) (by decide) (fun q => absurd q (by decide)) (fun _ => ?_)))))
  refine r_lload_n hX dX4_digest_213 rfl rfl (r_ldc2Z (z := 31) hX kc_X4_227 (by decide +kernel) dX4_digest_214 (r_lmulZ hX dX4_digest_217 (r_aload_n hX dX4_digest_218 rfl rfl (r_iload_n hX dX4_digest_219 rfl rfl (r_iload hX dX4_digest_220 rfl (r_callV hX (z_X4_ordered ad ae cs K S 0 rest hS _ 2 (by first | with_reducible assumption | decide | omega) (by first | with_reducible assumption | decide | omega) _ 0 (by first | with_reducible assumption | decide | omega) (by first | with_reducible assumption | decide | omega)) kv_X4_196 14 rfl rfl rfl rfl (Nat.le_of_ble_eq_true rfl) ⟨(Nat.le_of_ble_eq_true rfl), (Nat.le_of_ble_eq_true rfl)⟩ ⟨(Nat.le_of_ble_eq_true rfl), (Nat.le_of_ble_eq_true rfl)⟩ dX4_digest_222 (fun _ _ z => False.elim z) (fun v9 ws9 h103 => ?_)))))))
  obtain ⟨rfl, hw9⟩ := h103
  subst ws9
  dsimp only [mPush]
  have hto103 := zTo_b (sse S 2) (sna S 2) (sow S 2) (sse S 0) (sna S 0) (sow S 0)
  refine r_i2lZ hX dX4_digest_225 (by first | with_reducible assumption | decide | omega) (r_laddG hX dX4_digest_226 (fun g99 hg99 => ?_))
  refine r_ldc2Z (z := 31) hX kc_X4_227 (by decide +kernel) dX4_digest_227 (r_lmulZ hX dX4_digest_230 (r_aload_n hX dX4_digest_231 rfl rfl (r_iload_n hX dX4_digest_232 rfl rfl (r_iload hX dX4_digest_233 rfl (r_iconstZ hX dX4_digest_235 (r_callV hX (z_X4_is ad ae cs K S 0 rest hS _ 2 (by first | with_reducible assumption | decide | omega) (by first | with_reducible assumption | decide | omega) _ 0 (by first | with_reducible assumption | decide | omega) (by first | with_reducible assumption | decide | omega) _ (by first | with_reducible assumption | decide | omega)) kv_X4_199 14 rfl rfl rfl rfl (Nat.le_of_ble_eq_true rfl) ⟨(Nat.le_of_ble_eq_true rfl), (Nat.le_of_ble_eq_true rfl)⟩ ⟨(Nat.le_of_ble_eq_true rfl), (Nat.le_of_ble_eq_true rfl)⟩ dX4_digest_236 (fun _ _ z => False.elim z) (fun v9 ws9 h104 => ?_)))))))
  obtain ⟨rfl, hw9⟩ := h104
  subst ws9
  dsimp only [mPush]
  rw [b2i_iZ]
  try clear hcb
  have hcb := cond_b (zSo (sse S 2) (sna S 2) (sow S 2) (sse S 0) (sna S 0) (sow S 0) 2)
  refine r_callS hX (z_X4_one _ _ _ (by first | with_reducible assumption | decide | omega)) ks_X4_84 rfl rfl (Nat.le_of_ble_eq_true rfl) ⟨(Nat.le_of_ble_eq_true rfl), (Nat.le_of_ble_eq_true rfl)⟩ ⟨(Nat.le_of_ble_eq_true rfl), (Nat.le_of_ble_eq_true rfl)⟩ dX4_digest_239 (fun _ _ z => False.elim z) (fun v9 ws9 h105 => ?_)
  obtain ⟨rfl, hw9⟩ := h105
  subst ws9
  dsimp only [mPush]
  refine r_i2lZ hX dX4_digest_242 (by first | with_reducible assumption | decide | omega) (r_laddG hX dX4_digest_243 (fun g100 hg100 => ?_))
  refine r_lstore_n hX dX4_digest_244 rfl (by decide) rfl (r_iincZ (z := 1) (y := 1) hX dX4_digest_245 rfl (by decide) rfl rfl (r_lc6 (i0 := 0) (i1 := 1) (i2 := 3) (i3 := 4) (i4 := 5) (i5 := 6) rfl rfl rfl rfl rfl rfl (r_goto (tgt := 207) hX dX4_digest_248 (by decide) (r_iload hX dX4_digest_207 rfl (r_iconstZ hX dX4_digest_209 (r_icmp_geZ (tgt := 251) hX dX4_digest_210 (by decide) (by decide) (by decide) (fun q => absurd q (by decide)) (fun _ => ?_)))))))
  refine r_lload_n hX dX4_digest_213 rfl rfl (r_ldc2Z (z := 31) hX kc_X4_227 (by decide +kernel) dX4_digest_214 (r_lmulZ hX dX4_digest_217 (r_aload_n hX dX4_digest_218 rfl rfl (r_iload_n hX dX4_digest_219 rfl rfl (r_iload hX dX4_digest_220 rfl (r_callV hX (z_X4_ordered ad ae cs K S 0 rest hS _ 2 (by first | with_reducible assumption | decide | omega) (by first | with_reducible assumption | decide | omega) _ 1 (by first | with_reducible assumption | decide | omega) (by first | with_reducible assumption | decide | omega)) kv_X4_196 14 rfl rfl rfl rfl (Nat.le_of_ble_eq_true rfl) ⟨(Nat.le_of_ble_eq_true rfl), (Nat.le_of_ble_eq_true rfl)⟩ ⟨(Nat.le_of_ble_eq_true rfl), (Nat.le_of_ble_eq_true rfl)⟩ dX4_digest_222 (fun _ _ z => False.elim z) (fun v9 ws9 h106 => ?_)))))))
  obtain ⟨rfl, hw9⟩ := h106
  subst ws9
  dsimp only [mPush]
  have hto106 := zTo_b (sse S 2) (sna S 2) (sow S 2) (sse S 1) (sna S 1) (sow S 1)
  refine r_i2lZ hX dX4_digest_225 (by first | with_reducible assumption | decide | omega) (r_laddG hX dX4_digest_226 (fun g101 hg101 => ?_))
  refine r_ldc2Z (z := 31) hX kc_X4_227 (by decide +kernel) dX4_digest_227 (r_lmulZ hX dX4_digest_230 (r_aload_n hX dX4_digest_231 rfl rfl (r_iload_n hX dX4_digest_232 rfl rfl (r_iload hX dX4_digest_233 rfl (r_iconstZ hX dX4_digest_235 (r_callV hX (z_X4_is ad ae cs K S 0 rest hS _ 2 (by first | with_reducible assumption | decide | omega) (by first | with_reducible assumption | decide | omega) _ 1 (by first | with_reducible assumption | decide | omega) (by first | with_reducible assumption | decide | omega) _ (by first | with_reducible assumption | decide | omega)) kv_X4_199 14 rfl rfl rfl rfl (Nat.le_of_ble_eq_true rfl) ⟨(Nat.le_of_ble_eq_true rfl), (Nat.le_of_ble_eq_true rfl)⟩ ⟨(Nat.le_of_ble_eq_true rfl), (Nat.le_of_ble_eq_true rfl)⟩ dX4_digest_236 (fun _ _ z => False.elim z) (fun v9 ws9 h107 => ?_)))))))
  obtain ⟨rfl, hw9⟩ := h107
  subst ws9
  dsimp only [mPush]
  rw [b2i_iZ]
  try clear hcb
  have hcb := cond_b (zSo (sse S 2) (sna S 2) (sow S 2) (sse S 1) (sna S 1) (sow S 1) 2)
  refine r_callS hX (z_X4_one _ _ _ (by first | with_reducible assumption | decide | omega)) ks_X4_84 rfl rfl (Nat.le_of_ble_eq_true rfl) ⟨(Nat.le_of_ble_eq_true rfl), (Nat.le_of_ble_eq_true rfl)⟩ ⟨(Nat.le_of_ble_eq_true rfl), (Nat.le_of_ble_eq_true rfl)⟩ dX4_digest_239 (fun _ _ z => False.elim z) (fun v9 ws9 h108 => ?_)
  obtain ⟨rfl, hw9⟩ := h108
  subst ws9
  dsimp only [mPush]
  refine r_i2lZ hX dX4_digest_242 (by first | with_reducible assumption | decide | omega) (r_laddG hX dX4_digest_243 (fun g102 hg102 => ?_))
  refine r_lstore_n hX dX4_digest_244 rfl (by decide) rfl (r_iincZ (z := 1) (y := 2) hX dX4_digest_245 rfl (by decide) rfl rfl (r_goto (tgt := 207) hX dX4_digest_248 (by decide) (r_iload hX dX4_digest_207 rfl (r_iconstZ hX dX4_digest_209 (r_icmp_geZ (tgt := 251) hX dX4_digest_210 (by decide) (by decide) (by decide) (fun q => absurd q (by decide)) (fun _ => ?_))))))
  refine r_lload_n hX dX4_digest_213 rfl rfl (r_ldc2Z (z := 31) hX kc_X4_227 (by decide +kernel) dX4_digest_214 (r_lmulZ hX dX4_digest_217 (r_aload_n hX dX4_digest_218 rfl rfl (r_iload_n hX dX4_digest_219 rfl rfl (r_iload hX dX4_digest_220 rfl (r_callV hX (z_X4_ordered ad ae cs K S 0 rest hS _ 2 (by first | with_reducible assumption | decide | omega) (by first | with_reducible assumption | decide | omega) _ 2 (by first | with_reducible assumption | decide | omega) (by first | with_reducible assumption | decide | omega)) kv_X4_196 14 rfl rfl rfl rfl (Nat.le_of_ble_eq_true rfl) ⟨(Nat.le_of_ble_eq_true rfl), (Nat.le_of_ble_eq_true rfl)⟩ ⟨(Nat.le_of_ble_eq_true rfl), (Nat.le_of_ble_eq_true rfl)⟩ dX4_digest_222 (fun _ _ z => False.elim z) (fun v9 ws9 h109 => ?_)))))))
  obtain ⟨rfl, hw9⟩ := h109
  subst ws9
  dsimp only [mPush]
  have hto109 := zTo_b (sse S 2) (sna S 2) (sow S 2) (sse S 2) (sna S 2) (sow S 2)
  refine r_i2lZ hX dX4_digest_225 (by first | with_reducible assumption | decide | omega) (r_laddG hX dX4_digest_226 (fun g103 hg103 => ?_))
  refine r_ldc2Z (z := 31) hX kc_X4_227 (by decide +kernel) dX4_digest_227 (r_lmulZ hX dX4_digest_230 (r_aload_n hX dX4_digest_231 rfl rfl (r_iload_n hX dX4_digest_232 rfl rfl (r_iload hX dX4_digest_233 rfl (r_iconstZ hX dX4_digest_235 (r_callV hX (z_X4_is ad ae cs K S 0 rest hS _ 2 (by first | with_reducible assumption | decide | omega) (by first | with_reducible assumption | decide | omega) _ 2 (by first | with_reducible assumption | decide | omega) (by first | with_reducible assumption | decide | omega) _ (by first | with_reducible assumption | decide | omega)) kv_X4_199 14 rfl rfl rfl rfl (Nat.le_of_ble_eq_true rfl) ⟨(Nat.le_of_ble_eq_true rfl), (Nat.le_of_ble_eq_true rfl)⟩ ⟨(Nat.le_of_ble_eq_true rfl), (Nat.le_of_ble_eq_true rfl)⟩ dX4_digest_236 (fun _ _ z => False.elim z) (fun v9 ws9 h110 => ?_)))))))
  obtain ⟨rfl, hw9⟩ := h110
  subst ws9
  dsimp only [mPush]
  rw [b2i_iZ]
  try clear hcb
  have hcb := cond_b (zSo (sse S 2) (sna S 2) (sow S 2) (sse S 2) (sna S 2) (sow S 2) 2)
  refine r_callS hX (z_X4_one _ _ _ (by first | with_reducible assumption | decide | omega)) ks_X4_84 rfl rfl (Nat.le_of_ble_eq_true rfl) ⟨(Nat.le_of_ble_eq_true rfl), (Nat.le_of_ble_eq_true rfl)⟩ ⟨(Nat.le_of_ble_eq_true rfl), (Nat.le_of_ble_eq_true rfl)⟩ dX4_digest_239 (fun _ _ z => False.elim z) (fun v9 ws9 h111 => ?_)
  obtain ⟨rfl, hw9⟩ := h111
  subst ws9
  dsimp only [mPush]
  refine r_i2lZ hX dX4_digest_242 (by first | with_reducible assumption | decide | omega) (r_laddG hX dX4_digest_243 (fun g104 hg104 => ?_))
  refine r_lstore_n hX dX4_digest_244 rfl (by decide) rfl (r_iincZ (z := 1) (y := 3) hX dX4_digest_245 rfl (by decide) rfl rfl (r_goto (tgt := 207) hX dX4_digest_248 (by decide) (r_iload hX dX4_digest_207 rfl (r_iconstZ hX dX4_digest_209 (r_icmp_geZ (tgt := 251) hX dX4_digest_210 (by decide) (by decide) (by decide) (fun q => absurd q (by decide)) (fun _ => ?_))))))
  refine r_lload_n hX dX4_digest_213 rfl rfl (r_ldc2Z (z := 31) hX kc_X4_227 (by decide +kernel) dX4_digest_214 (r_lmulZ hX dX4_digest_217 (r_aload_n hX dX4_digest_218 rfl rfl (r_iload_n hX dX4_digest_219 rfl rfl (r_iload hX dX4_digest_220 rfl (r_callV hX (z_X4_ordered ad ae cs K S 0 rest hS _ 2 (by first | with_reducible assumption | decide | omega) (by first | with_reducible assumption | decide | omega) _ 3 (by first | with_reducible assumption | decide | omega) (by first | with_reducible assumption | decide | omega)) kv_X4_196 14 rfl rfl rfl rfl (Nat.le_of_ble_eq_true rfl) ⟨(Nat.le_of_ble_eq_true rfl), (Nat.le_of_ble_eq_true rfl)⟩ ⟨(Nat.le_of_ble_eq_true rfl), (Nat.le_of_ble_eq_true rfl)⟩ dX4_digest_222 (fun _ _ z => False.elim z) (fun v9 ws9 h112 => ?_)))))))
  obtain ⟨rfl, hw9⟩ := h112
  subst ws9
  dsimp only [mPush]
  have hto112 := zTo_b (sse S 2) (sna S 2) (sow S 2) (sse S 3) (sna S 3) (sow S 3)
  refine r_i2lZ hX dX4_digest_225 (by first | with_reducible assumption | decide | omega) (r_laddG hX dX4_digest_226 (fun g105 hg105 => ?_))
  refine r_ldc2Z (z := 31) hX kc_X4_227 (by decide +kernel) dX4_digest_227 (r_lmulZ hX dX4_digest_230 (r_aload_n hX dX4_digest_231 rfl rfl (r_iload_n hX dX4_digest_232 rfl rfl (r_iload hX dX4_digest_233 rfl (r_iconstZ hX dX4_digest_235 (r_callV hX (z_X4_is ad ae cs K S 0 rest hS _ 2 (by first | with_reducible assumption | decide | omega) (by first | with_reducible assumption | decide | omega) _ 3 (by first | with_reducible assumption | decide | omega) (by first | with_reducible assumption | decide | omega) _ (by first | with_reducible assumption | decide | omega)) kv_X4_199 14 rfl rfl rfl rfl (Nat.le_of_ble_eq_true rfl) ⟨(Nat.le_of_ble_eq_true rfl), (Nat.le_of_ble_eq_true rfl)⟩ ⟨(Nat.le_of_ble_eq_true rfl), (Nat.le_of_ble_eq_true rfl)⟩ dX4_digest_236 (fun _ _ z => False.elim z) (fun v9 ws9 h113 => ?_)))))))
  obtain ⟨rfl, hw9⟩ := h113
  subst ws9
  dsimp only [mPush]
  rw [b2i_iZ]
  try clear hcb
  have hcb := cond_b (zSo (sse S 2) (sna S 2) (sow S 2) (sse S 3) (sna S 3) (sow S 3) 2)
  refine r_callS hX (z_X4_one _ _ _ (by first | with_reducible assumption | decide | omega)) ks_X4_84 rfl rfl (Nat.le_of_ble_eq_true rfl) ⟨(Nat.le_of_ble_eq_true rfl), (Nat.le_of_ble_eq_true rfl)⟩ ⟨(Nat.le_of_ble_eq_true rfl), (Nat.le_of_ble_eq_true rfl)⟩ dX4_digest_239 (fun _ _ z => False.elim z) (fun v9 ws9 h114 => ?_)
  obtain ⟨rfl, hw9⟩ := h114
  subst ws9
  dsimp only [mPush]
  refine r_i2lZ hX dX4_digest_242 (by first | with_reducible assumption | decide | omega) (r_laddG hX dX4_digest_243 (fun g106 hg106 => ?_))
  refine r_lstore_n hX dX4_digest_244 rfl (by decide) rfl (r_iincZ (z := 1) (y := 4) hX dX4_digest_245 rfl (by decide) rfl rfl (r_goto (tgt := 207) hX dX4_digest_248 (by decide) (r_iload hX dX4_digest_207 rfl (r_iconstZ hX dX4_digest_209 (r_icmp_geZ (tgt := 251) hX dX4_digest_210 (by decide) (by decide) (by decide) (fun _ => ?_) (fun q => absurd (by decide) q))))))
  refine r_iincZ (z := 1) (y := 3) hX dX4_digest_251 rfl (by decide) rfl rfl (r_goto (tgt := 199) hX dX4_digest_254 (by decide) (r_iload_n hX dX4_digest_199 rfl rfl (r_iconstZ hX dX4_digest_200 (r_icmp_geZ (tgt := 257) hX dX4_digest_201 (by decide) (by decide) (by decide) (fun q => absurd q (by decide)) (fun _ => ?_)))))
  refine r_iconstZ hX dX4_digest_204 (r_istore hX dX4_digest_205 (by decide) rfl (r_iload hX dX4_digest_207 rfl (r_iconstZ hX dX4_digest_209 (r_icmp_geZ (tgt := 251) hX dX4_digest_210 (by decide) (by decide) (by decide) (fun q => absurd q (by decide)) (fun _ => ?_)))))
  refine r_lload_n hX dX4_digest_213 rfl rfl (r_ldc2Z (z := 31) hX kc_X4_227 (by decide +kernel) dX4_digest_214 (r_lmulZ hX dX4_digest_217 (r_aload_n hX dX4_digest_218 rfl rfl (r_iload_n hX dX4_digest_219 rfl rfl (r_iload hX dX4_digest_220 rfl (r_callV hX (z_X4_ordered ad ae cs K S 0 rest hS _ 3 (by first | with_reducible assumption | decide | omega) (by first | with_reducible assumption | decide | omega) _ 0 (by first | with_reducible assumption | decide | omega) (by first | with_reducible assumption | decide | omega)) kv_X4_196 14 rfl rfl rfl rfl (Nat.le_of_ble_eq_true rfl) ⟨(Nat.le_of_ble_eq_true rfl), (Nat.le_of_ble_eq_true rfl)⟩ ⟨(Nat.le_of_ble_eq_true rfl), (Nat.le_of_ble_eq_true rfl)⟩ dX4_digest_222 (fun _ _ z => False.elim z) (fun v9 ws9 h115 => ?_)))))))
  obtain ⟨rfl, hw9⟩ := h115
  subst ws9
  dsimp only [mPush]
  have hto115 := zTo_b (sse S 3) (sna S 3) (sow S 3) (sse S 0) (sna S 0) (sow S 0)
  refine r_i2lZ hX dX4_digest_225 (by first | with_reducible assumption | decide | omega) (r_laddG hX dX4_digest_226 (fun g107 hg107 => ?_))
  refine r_ldc2Z (z := 31) hX kc_X4_227 (by decide +kernel) dX4_digest_227 (r_lmulZ hX dX4_digest_230 (r_aload_n hX dX4_digest_231 rfl rfl (r_iload_n hX dX4_digest_232 rfl rfl (r_iload hX dX4_digest_233 rfl (r_iconstZ hX dX4_digest_235 (r_callV hX (z_X4_is ad ae cs K S 0 rest hS _ 3 (by first | with_reducible assumption | decide | omega) (by first | with_reducible assumption | decide | omega) _ 0 (by first | with_reducible assumption | decide | omega) (by first | with_reducible assumption | decide | omega) _ (by first | with_reducible assumption | decide | omega)) kv_X4_199 14 rfl rfl rfl rfl (Nat.le_of_ble_eq_true rfl) ⟨(Nat.le_of_ble_eq_true rfl), (Nat.le_of_ble_eq_true rfl)⟩ ⟨(Nat.le_of_ble_eq_true rfl), (Nat.le_of_ble_eq_true rfl)⟩ dX4_digest_236 (fun _ _ z => False.elim z) (fun v9 ws9 h116 => ?_)))))))
  obtain ⟨rfl, hw9⟩ := h116
  subst ws9
  dsimp only [mPush]
  rw [b2i_iZ]
  try clear hcb
  have hcb := cond_b (zSo (sse S 3) (sna S 3) (sow S 3) (sse S 0) (sna S 0) (sow S 0) 2)
  refine r_callS hX (z_X4_one _ _ _ (by first | with_reducible assumption | decide | omega)) ks_X4_84 rfl rfl (Nat.le_of_ble_eq_true rfl) ⟨(Nat.le_of_ble_eq_true rfl), (Nat.le_of_ble_eq_true rfl)⟩ ⟨(Nat.le_of_ble_eq_true rfl), (Nat.le_of_ble_eq_true rfl)⟩ dX4_digest_239 (fun _ _ z => False.elim z) (fun v9 ws9 h117 => ?_)
  obtain ⟨rfl, hw9⟩ := h117
  subst ws9
  dsimp only [mPush]
  refine r_i2lZ hX dX4_digest_242 (by first | with_reducible assumption | decide | omega) (r_laddG hX dX4_digest_243 (fun g108 hg108 => ?_))
  refine r_lstore_n hX dX4_digest_244 rfl (by decide) rfl (r_lc6 (i0 := 0) (i1 := 1) (i2 := 3) (i3 := 4) (i4 := 5) (i5 := 6) rfl rfl rfl rfl rfl rfl (r_iincZ (z := 1) (y := 1) hX dX4_digest_245 rfl (by decide) rfl rfl (r_goto (tgt := 207) hX dX4_digest_248 (by decide) (r_iload hX dX4_digest_207 rfl (r_iconstZ hX dX4_digest_209 (r_icmp_geZ (tgt := 251) hX dX4_digest_210 (by decide) (by decide) (by decide) (fun q => absurd q (by decide)) (fun _ => ?_)))))))
  refine r_lload_n hX dX4_digest_213 rfl rfl (r_ldc2Z (z := 31) hX kc_X4_227 (by decide +kernel) dX4_digest_214 (r_lmulZ hX dX4_digest_217 (r_aload_n hX dX4_digest_218 rfl rfl (r_iload_n hX dX4_digest_219 rfl rfl (r_iload hX dX4_digest_220 rfl (r_callV hX (z_X4_ordered ad ae cs K S 0 rest hS _ 3 (by first | with_reducible assumption | decide | omega) (by first | with_reducible assumption | decide | omega) _ 1 (by first | with_reducible assumption | decide | omega) (by first | with_reducible assumption | decide | omega)) kv_X4_196 14 rfl rfl rfl rfl (Nat.le_of_ble_eq_true rfl) ⟨(Nat.le_of_ble_eq_true rfl), (Nat.le_of_ble_eq_true rfl)⟩ ⟨(Nat.le_of_ble_eq_true rfl), (Nat.le_of_ble_eq_true rfl)⟩ dX4_digest_222 (fun _ _ z => False.elim z) (fun v9 ws9 h118 => ?_)))))))
  obtain ⟨rfl, hw9⟩ := h118
  subst ws9
  dsimp only [mPush]
  have hto118 := zTo_b (sse S 3) (sna S 3) (sow S 3) (sse S 1) (sna S 1) (sow S 1)
  refine r_i2lZ hX dX4_digest_225 (by first | with_reducible assumption | decide | omega) (r_laddG hX dX4_digest_226 (fun g109 hg109 => ?_))
  refine r_ldc2Z (z := 31) hX kc_X4_227 (by decide +kernel) dX4_digest_227 (r_lmulZ hX dX4_digest_230 (r_aload_n hX dX4_digest_231 rfl rfl (r_iload_n hX dX4_digest_232 rfl rfl (r_iload hX dX4_digest_233 rfl (r_iconstZ hX dX4_digest_235 (r_callV hX (z_X4_is ad ae cs K S 0 rest hS _ 3 (by first | with_reducible assumption | decide | omega) (by first | with_reducible assumption | decide | omega) _ 1 (by first | with_reducible assumption | decide | omega) (by first | with_reducible assumption | decide | omega) _ (by first | with_reducible assumption | decide | omega)) kv_X4_199 14 rfl rfl rfl rfl (Nat.le_of_ble_eq_true rfl) ⟨(Nat.le_of_ble_eq_true rfl), (Nat.le_of_ble_eq_true rfl)⟩ ⟨(Nat.le_of_ble_eq_true rfl), (Nat.le_of_ble_eq_true rfl)⟩ dX4_digest_236 (fun _ _ z => False.elim z) (fun v9 ws9 h119 => ?_)))))))
  obtain ⟨rfl, hw9⟩ := h119
  subst ws9
  dsimp only [mPush]
  rw [b2i_iZ]
  try clear hcb
  have hcb := cond_b (zSo (sse S 3) (sna S 3) (sow S 3) (sse S 1) (sna S 1) (sow S 1) 2)
  refine r_callS hX (z_X4_one _ _ _ (by first | with_reducible assumption | decide | omega)) ks_X4_84 rfl rfl (Nat.le_of_ble_eq_true rfl) ⟨(Nat.le_of_ble_eq_true rfl), (Nat.le_of_ble_eq_true rfl)⟩ ⟨(Nat.le_of_ble_eq_true rfl), (Nat.le_of_ble_eq_true rfl)⟩ dX4_digest_239 (fun _ _ z => False.elim z) (fun v9 ws9 h120 => ?_)
  obtain ⟨rfl, hw9⟩ := h120
  subst ws9
  dsimp only [mPush]
  refine r_i2lZ hX dX4_digest_242 (by first | with_reducible assumption | decide | omega) (r_laddG hX dX4_digest_243 (fun g110 hg110 => ?_))
  refine r_lstore_n hX dX4_digest_244 rfl (by decide) rfl (r_iincZ (z := 1) (y := 2) hX dX4_digest_245 rfl (by decide) rfl rfl (r_goto (tgt := 207) hX dX4_digest_248 (by decide) (r_iload hX dX4_digest_207 rfl (r_iconstZ hX dX4_digest_209 (r_icmp_geZ (tgt := 251) hX dX4_digest_210 (by decide) (by decide) (by decide) (fun q => absurd q (by decide)) (fun _ => ?_))))))
  refine r_lload_n hX dX4_digest_213 rfl rfl (r_ldc2Z (z := 31) hX kc_X4_227 (by decide +kernel) dX4_digest_214 (r_lmulZ hX dX4_digest_217 (r_aload_n hX dX4_digest_218 rfl rfl (r_iload_n hX dX4_digest_219 rfl rfl (r_iload hX dX4_digest_220 rfl (r_callV hX (z_X4_ordered ad ae cs K S 0 rest hS _ 3 (by first | with_reducible assumption | decide | omega) (by first | with_reducible assumption | decide | omega) _ 2 (by first | with_reducible assumption | decide | omega) (by first | with_reducible assumption | decide | omega)) kv_X4_196 14 rfl rfl rfl rfl (Nat.le_of_ble_eq_true rfl) ⟨(Nat.le_of_ble_eq_true rfl), (Nat.le_of_ble_eq_true rfl)⟩ ⟨(Nat.le_of_ble_eq_true rfl), (Nat.le_of_ble_eq_true rfl)⟩ dX4_digest_222 (fun _ _ z => False.elim z) (fun v9 ws9 h121 => ?_)))))))
  obtain ⟨rfl, hw9⟩ := h121
  subst ws9
  dsimp only [mPush]
  have hto121 := zTo_b (sse S 3) (sna S 3) (sow S 3) (sse S 2) (sna S 2) (sow S 2)
  refine r_i2lZ hX dX4_digest_225 (by first | with_reducible assumption | decide | omega) (r_laddG hX dX4_digest_226 (fun g111 hg111 => ?_))
  refine r_ldc2Z (z := 31) hX kc_X4_227 (by decide +kernel) dX4_digest_227 (r_lmulZ hX dX4_digest_230 (r_aload_n hX dX4_digest_231 rfl rfl (r_iload_n hX dX4_digest_232 rfl rfl (r_iload hX dX4_digest_233 rfl (r_iconstZ hX dX4_digest_235 (r_callV hX (z_X4_is ad ae cs K S 0 rest hS _ 3 (by first | with_reducible assumption | decide | omega) (by first | with_reducible assumption | decide | omega) _ 2 (by first | with_reducible assumption | decide | omega) (by first | with_reducible assumption | decide | omega) _ (by first | with_reducible assumption | decide | omega)) kv_X4_199 14 rfl rfl rfl rfl (Nat.le_of_ble_eq_true rfl) ⟨(Nat.le_of_ble_eq_true rfl), (Nat.le_of_ble_eq_true rfl)⟩ ⟨(Nat.le_of_ble_eq_true rfl), (Nat.le_of_ble_eq_true rfl)⟩ dX4_digest_236 (fun _ _ z => False.elim z) (fun v9 ws9 h122 => ?_)))))))
  obtain ⟨rfl, hw9⟩ := h122
  subst ws9
  dsimp only [mPush]
  rw [b2i_iZ]
  try clear hcb
  have hcb := cond_b (zSo (sse S 3) (sna S 3) (sow S 3) (sse S 2) (sna S 2) (sow S 2) 2)
  refine r_callS hX (z_X4_one _ _ _ (by first | with_reducible assumption | decide | omega)) ks_X4_84 rfl rfl (Nat.le_of_ble_eq_true rfl) ⟨(Nat.le_of_ble_eq_true rfl), (Nat.le_of_ble_eq_true rfl)⟩ ⟨(Nat.le_of_ble_eq_true rfl), (Nat.le_of_ble_eq_true rfl)⟩ dX4_digest_239 (fun _ _ z => False.elim z) (fun v9 ws9 h123 => ?_)
  obtain ⟨rfl, hw9⟩ := h123
  subst ws9
  dsimp only [mPush]
  refine r_i2lZ hX dX4_digest_242 (by first | with_reducible assumption | decide | omega) (r_laddG hX dX4_digest_243 (fun g112 hg112 => ?_))
  refine r_lstore_n hX dX4_digest_244 rfl (by decide) rfl (r_iincZ (z := 1) (y := 3) hX dX4_digest_245 rfl (by decide) rfl rfl (r_goto (tgt := 207) hX dX4_digest_248 (by decide) (r_iload hX dX4_digest_207 rfl (r_iconstZ hX dX4_digest_209 (r_icmp_geZ (tgt := 251) hX dX4_digest_210 (by decide) (by decide) (by decide) (fun q => absurd q (by decide)) (fun _ => ?_))))))
  refine r_lload_n hX dX4_digest_213 rfl rfl (r_ldc2Z (z := 31) hX kc_X4_227 (by decide +kernel) dX4_digest_214 (r_lmulZ hX dX4_digest_217 (r_aload_n hX dX4_digest_218 rfl rfl (r_iload_n hX dX4_digest_219 rfl rfl (r_iload hX dX4_digest_220 rfl (r_callV hX (z_X4_ordered ad ae cs K S 0 rest hS _ 3 (by first | with_reducible assumption | decide | omega) (by first | with_reducible assumption | decide | omega) _ 3 (by first | with_reducible assumption | decide | omega) (by first | with_reducible assumption | decide | omega)) kv_X4_196 14 rfl rfl rfl rfl (Nat.le_of_ble_eq_true rfl) ⟨(Nat.le_of_ble_eq_true rfl), (Nat.le_of_ble_eq_true rfl)⟩ ⟨(Nat.le_of_ble_eq_true rfl), (Nat.le_of_ble_eq_true rfl)⟩ dX4_digest_222 (fun _ _ z => False.elim z) (fun v9 ws9 h124 => ?_)))))))
  obtain ⟨rfl, hw9⟩ := h124
  subst ws9
  dsimp only [mPush]
  have hto124 := zTo_b (sse S 3) (sna S 3) (sow S 3) (sse S 3) (sna S 3) (sow S 3)
  refine r_i2lZ hX dX4_digest_225 (by first | with_reducible assumption | decide | omega) (r_laddG hX dX4_digest_226 (fun g113 hg113 => ?_))
  refine r_ldc2Z (z := 31) hX kc_X4_227 (by decide +kernel) dX4_digest_227 (r_lmulZ hX dX4_digest_230 (r_aload_n hX dX4_digest_231 rfl rfl (r_iload_n hX dX4_digest_232 rfl rfl (r_iload hX dX4_digest_233 rfl (r_iconstZ hX dX4_digest_235 (r_callV hX (z_X4_is ad ae cs K S 0 rest hS _ 3 (by first | with_reducible assumption | decide | omega) (by first | with_reducible assumption | decide | omega) _ 3 (by first | with_reducible assumption | decide | omega) (by first | with_reducible assumption | decide | omega) _ (by first | with_reducible assumption | decide | omega)) kv_X4_199 14 rfl rfl rfl rfl (Nat.le_of_ble_eq_true rfl) ⟨(Nat.le_of_ble_eq_true rfl), (Nat.le_of_ble_eq_true rfl)⟩ ⟨(Nat.le_of_ble_eq_true rfl), (Nat.le_of_ble_eq_true rfl)⟩ dX4_digest_236 (fun _ _ z => False.elim z) (fun v9 ws9 h125 => ?_)))))))
  obtain ⟨rfl, hw9⟩ := h125
  subst ws9
  dsimp only [mPush]
  rw [b2i_iZ]
  try clear hcb
  have hcb := cond_b (zSo (sse S 3) (sna S 3) (sow S 3) (sse S 3) (sna S 3) (sow S 3) 2)
  refine r_callS hX (z_X4_one _ _ _ (by first | with_reducible assumption | decide | omega)) ks_X4_84 rfl rfl (Nat.le_of_ble_eq_true rfl) ⟨(Nat.le_of_ble_eq_true rfl), (Nat.le_of_ble_eq_true rfl)⟩ ⟨(Nat.le_of_ble_eq_true rfl), (Nat.le_of_ble_eq_true rfl)⟩ dX4_digest_239 (fun _ _ z => False.elim z) (fun v9 ws9 h126 => ?_)
  obtain ⟨rfl, hw9⟩ := h126
  subst ws9
  dsimp only [mPush]
  refine r_i2lZ hX dX4_digest_242 (by first | with_reducible assumption | decide | omega) (r_laddG hX dX4_digest_243 (fun g114 hg114 => ?_))
  refine r_lstore_n hX dX4_digest_244 rfl (by decide) rfl (r_iincZ (z := 1) (y := 4) hX dX4_digest_245 rfl (by decide) rfl rfl (r_goto (tgt := 207) hX dX4_digest_248 (by decide) (r_iload hX dX4_digest_207 rfl (r_iconstZ hX dX4_digest_209 (r_icmp_geZ (tgt := 251) hX dX4_digest_210 (by decide) (by decide) (by decide) (fun _ => ?_) (fun q => absurd (by decide) q))))))
  refine r_iincZ (z := 1) (y := 4) hX dX4_digest_251 rfl (by decide) rfl rfl (r_goto (tgt := 199) hX dX4_digest_254 (by decide) (r_iload_n hX dX4_digest_199 rfl rfl (r_iconstZ hX dX4_digest_200 (r_icmp_geZ (tgt := 257) hX dX4_digest_201 (by decide) (by decide) (by decide) (fun _ => ?_) (fun q => absurd (by decide) q)))))
  refine r_iconstZ hX dX4_digest_257 (r_istore_n hX dX4_digest_258 rfl (by decide) rfl (r_lc6 (i0 := 0) (i1 := 1) (i2 := 3) (i3 := 4) (i4 := 5) (i5 := 6) rfl rfl rfl rfl rfl rfl (r_iload_n hX dX4_digest_259 rfl rfl (r_bipushZ hX dX4_digest_260 (by decide +kernel) (r_icmp_geZ (tgt := 302) hX dX4_digest_262 (by decide) (by decide) (by decide) (fun q => absurd q (by decide)) (fun _ => ?_))))))
  refine r_iconstZ hX dX4_digest_265 (r_istore hX dX4_digest_266 (by decide) rfl (r_iload hX dX4_digest_268 rfl (r_bipushZ hX dX4_digest_270 (by decide +kernel) (r_icmp_geZ (tgt := 296) hX dX4_digest_272 (by decide) (by decide) (by decide) (fun q => absurd q (by decide)) (fun _ => ?_)))))
  refine r_lload_n hX dX4_digest_275 rfl rfl (r_ldc2Z (z := 31) hX kc_X4_227 (by decide +kernel) dX4_digest_276 (r_lmulZ hX dX4_digest_279 (r_aload_n hX dX4_digest_280 rfl rfl (r_iload_n hX dX4_digest_281 rfl rfl (r_iload hX dX4_digest_282 rfl (r_callV hX (z_X4_ordered ad ae cs K S 0 rest hS _ 4 (by first | with_reducible assumption | decide | omega) (by first | with_reducible assumption | decide | omega) _ 4 (by first | with_reducible assumption | decide | omega) (by first | with_reducible assumption | decide | omega)) kv_X4_196 14 rfl rfl rfl rfl (Nat.le_of_ble_eq_true rfl) ⟨(Nat.le_of_ble_eq_true rfl), (Nat.le_of_ble_eq_true rfl)⟩ ⟨(Nat.le_of_ble_eq_true rfl), (Nat.le_of_ble_eq_true rfl)⟩ dX4_digest_284 (fun _ _ z => False.elim z) (fun v9 ws9 h127 => ?_)))))))
  obtain ⟨rfl, hw9⟩ := h127
  subst ws9
  dsimp only [mPush]
  have hto127 := zTo_b (sse S 4) (sna S 4) (sow S 4) (sse S 4) (sna S 4) (sow S 4)
  refine r_i2lZ hX dX4_digest_287 (by first | with_reducible assumption | decide | omega) (r_laddG hX dX4_digest_288 (fun g115 hg115 => ?_))
  refine r_lstore_n hX dX4_digest_289 rfl (by decide) rfl (r_iincZ (z := 1) (y := 5) hX dX4_digest_290 rfl (by decide) rfl rfl (r_goto (tgt := 268) hX dX4_digest_293 (by decide) (r_iload hX dX4_digest_268 rfl (r_bipushZ hX dX4_digest_270 (by decide +kernel) (r_icmp_geZ (tgt := 296) hX dX4_digest_272 (by decide) (by decide) (by decide) (fun q => absurd q (by decide)) (fun _ => ?_))))))
  refine r_lload_n hX dX4_digest_275 rfl rfl (r_ldc2Z (z := 31) hX kc_X4_227 (by decide +kernel) dX4_digest_276 (r_lmulZ hX dX4_digest_279 (r_aload_n hX dX4_digest_280 rfl rfl (r_iload_n hX dX4_digest_281 rfl rfl (r_iload hX dX4_digest_282 rfl (r_callV hX (z_X4_ordered ad ae cs K S 0 rest hS _ 4 (by first | with_reducible assumption | decide | omega) (by first | with_reducible assumption | decide | omega) _ 5 (by first | with_reducible assumption | decide | omega) (by first | with_reducible assumption | decide | omega)) kv_X4_196 14 rfl rfl rfl rfl (Nat.le_of_ble_eq_true rfl) ⟨(Nat.le_of_ble_eq_true rfl), (Nat.le_of_ble_eq_true rfl)⟩ ⟨(Nat.le_of_ble_eq_true rfl), (Nat.le_of_ble_eq_true rfl)⟩ dX4_digest_284 (fun _ _ z => False.elim z) (fun v9 ws9 h128 => ?_)))))))
  obtain ⟨rfl, hw9⟩ := h128
  subst ws9
  dsimp only [mPush]
  have hto128 := zTo_b (sse S 4) (sna S 4) (sow S 4) (sse S 5) (sna S 5) (sow S 5)
  refine r_i2lZ hX dX4_digest_287 (by first | with_reducible assumption | decide | omega) (r_laddG hX dX4_digest_288 (fun g116 hg116 => ?_))
  refine r_lstore_n hX dX4_digest_289 rfl (by decide) rfl (r_iincZ (z := 1) (y := 6) hX dX4_digest_290 rfl (by decide) rfl rfl (r_goto (tgt := 268) hX dX4_digest_293 (by decide) (r_iload hX dX4_digest_268 rfl (r_bipushZ hX dX4_digest_270 (by decide +kernel) (r_icmp_geZ (tgt := 296) hX dX4_digest_272 (by decide) (by decide) (by decide) (fun q => absurd q (by decide)) (fun _ => ?_))))))
  refine r_lload_n hX dX4_digest_275 rfl rfl (r_ldc2Z (z := 31) hX kc_X4_227 (by decide +kernel) dX4_digest_276 (r_lmulZ hX dX4_digest_279 (r_aload_n hX dX4_digest_280 rfl rfl (r_iload_n hX dX4_digest_281 rfl rfl (r_iload hX dX4_digest_282 rfl (r_callV hX (z_X4_ordered ad ae cs K S 0 rest hS _ 4 (by first | with_reducible assumption | decide | omega) (by first | with_reducible assumption | decide | omega) _ 6 (by first | with_reducible assumption | decide | omega) (by first | with_reducible assumption | decide | omega)) kv_X4_196 14 rfl rfl rfl rfl (Nat.le_of_ble_eq_true rfl) ⟨(Nat.le_of_ble_eq_true rfl), (Nat.le_of_ble_eq_true rfl)⟩ ⟨(Nat.le_of_ble_eq_true rfl), (Nat.le_of_ble_eq_true rfl)⟩ dX4_digest_284 (fun _ _ z => False.elim z) (fun v9 ws9 h129 => ?_)))))))
  obtain ⟨rfl, hw9⟩ := h129
  subst ws9
  dsimp only [mPush]
  have hto129 := zTo_b (sse S 4) (sna S 4) (sow S 4) (sse S 6) (sna S 6) (sow S 6)
  refine r_i2lZ hX dX4_digest_287 (by first | with_reducible assumption | decide | omega) (r_laddG hX dX4_digest_288 (fun g117 hg117 => ?_))
  refine r_lstore_n hX dX4_digest_289 rfl (by decide) rfl (r_iincZ (z := 1) (y := 7) hX dX4_digest_290 rfl (by decide) rfl rfl (r_goto (tgt := 268) hX dX4_digest_293 (by decide) (r_iload hX dX4_digest_268 rfl (r_bipushZ hX dX4_digest_270 (by decide +kernel) (r_icmp_geZ (tgt := 296) hX dX4_digest_272 (by decide) (by decide) (by decide) (fun _ => ?_) (fun q => absurd (by decide) q))))))
  refine r_iincZ (z := 1) (y := 5) hX dX4_digest_296 rfl (by decide) rfl rfl (r_goto (tgt := 259) hX dX4_digest_299 (by decide) (r_iload_n hX dX4_digest_259 rfl rfl (r_bipushZ hX dX4_digest_260 (by decide +kernel) (r_icmp_geZ (tgt := 302) hX dX4_digest_262 (by decide) (by decide) (by decide) (fun q => absurd q (by decide)) (fun _ => ?_)))))
  refine r_iconstZ hX dX4_digest_265 (r_istore hX dX4_digest_266 (by decide) rfl (r_lc6 (i0 := 0) (i1 := 1) (i2 := 3) (i3 := 4) (i4 := 5) (i5 := 6) rfl rfl rfl rfl rfl rfl (r_iload hX dX4_digest_268 rfl (r_bipushZ hX dX4_digest_270 (by decide +kernel) (r_icmp_geZ (tgt := 296) hX dX4_digest_272 (by decide) (by decide) (by decide) (fun q => absurd q (by decide)) (fun _ => ?_))))))
  refine r_lload_n hX dX4_digest_275 rfl rfl (r_ldc2Z (z := 31) hX kc_X4_227 (by decide +kernel) dX4_digest_276 (r_lmulZ hX dX4_digest_279 (r_aload_n hX dX4_digest_280 rfl rfl (r_iload_n hX dX4_digest_281 rfl rfl (r_iload hX dX4_digest_282 rfl (r_callV hX (z_X4_ordered ad ae cs K S 0 rest hS _ 5 (by first | with_reducible assumption | decide | omega) (by first | with_reducible assumption | decide | omega) _ 4 (by first | with_reducible assumption | decide | omega) (by first | with_reducible assumption | decide | omega)) kv_X4_196 14 rfl rfl rfl rfl (Nat.le_of_ble_eq_true rfl) ⟨(Nat.le_of_ble_eq_true rfl), (Nat.le_of_ble_eq_true rfl)⟩ ⟨(Nat.le_of_ble_eq_true rfl), (Nat.le_of_ble_eq_true rfl)⟩ dX4_digest_284 (fun _ _ z => False.elim z) (fun v9 ws9 h130 => ?_)))))))
  obtain ⟨rfl, hw9⟩ := h130
  subst ws9
  dsimp only [mPush]
  have hto130 := zTo_b (sse S 5) (sna S 5) (sow S 5) (sse S 4) (sna S 4) (sow S 4)
  refine r_i2lZ hX dX4_digest_287 (by first | with_reducible assumption | decide | omega) (r_laddG hX dX4_digest_288 (fun g118 hg118 => ?_))
  refine r_lstore_n hX dX4_digest_289 rfl (by decide) rfl (r_iincZ (z := 1) (y := 5) hX dX4_digest_290 rfl (by decide) rfl rfl (r_goto (tgt := 268) hX dX4_digest_293 (by decide) (r_iload hX dX4_digest_268 rfl (r_bipushZ hX dX4_digest_270 (by decide +kernel) (r_icmp_geZ (tgt := 296) hX dX4_digest_272 (by decide) (by decide) (by decide) (fun q => absurd q (by decide)) (fun _ => ?_))))))
  refine r_lload_n hX dX4_digest_275 rfl rfl (r_ldc2Z (z := 31) hX kc_X4_227 (by decide +kernel) dX4_digest_276 (r_lmulZ hX dX4_digest_279 (r_aload_n hX dX4_digest_280 rfl rfl (r_iload_n hX dX4_digest_281 rfl rfl (r_iload hX dX4_digest_282 rfl (r_callV hX (z_X4_ordered ad ae cs K S 0 rest hS _ 5 (by first | with_reducible assumption | decide | omega) (by first | with_reducible assumption | decide | omega) _ 5 (by first | with_reducible assumption | decide | omega) (by first | with_reducible assumption | decide | omega)) kv_X4_196 14 rfl rfl rfl rfl (Nat.le_of_ble_eq_true rfl) ⟨(Nat.le_of_ble_eq_true rfl), (Nat.le_of_ble_eq_true rfl)⟩ ⟨(Nat.le_of_ble_eq_true rfl), (Nat.le_of_ble_eq_true rfl)⟩ dX4_digest_284 (fun _ _ z => False.elim z) (fun v9 ws9 h131 => ?_)))))))
  obtain ⟨rfl, hw9⟩ := h131
  subst ws9
  dsimp only [mPush]
  have hto131 := zTo_b (sse S 5) (sna S 5) (sow S 5) (sse S 5) (sna S 5) (sow S 5)
  refine r_i2lZ hX dX4_digest_287 (by first | with_reducible assumption | decide | omega) (r_laddG hX dX4_digest_288 (fun g119 hg119 => ?_))
  refine r_lstore_n hX dX4_digest_289 rfl (by decide) rfl (r_iincZ (z := 1) (y := 6) hX dX4_digest_290 rfl (by decide) rfl rfl (r_goto (tgt := 268) hX dX4_digest_293 (by decide) (r_iload hX dX4_digest_268 rfl (r_bipushZ hX dX4_digest_270 (by decide +kernel) (r_icmp_geZ (tgt := 296) hX dX4_digest_272 (by decide) (by decide) (by decide) (fun q => absurd q (by decide)) (fun _ => ?_))))))
  refine r_lload_n hX dX4_digest_275 rfl rfl (r_ldc2Z (z := 31) hX kc_X4_227 (by decide +kernel) dX4_digest_276 (r_lmulZ hX dX4_digest_279 (r_aload_n hX dX4_digest_280 rfl rfl (r_iload_n hX dX4_digest_281 rfl rfl (r_iload hX dX4_digest_282 rfl (r_callV hX (z_X4_ordered ad ae cs K S 0 rest hS _ 5 (by first | with_reducible assumption | decide | omega) (by first | with_reducible assumption | decide | omega) _ 6 (by first | with_reducible assumption | decide | omega) (by first | with_reducible assumption | decide | omega)) kv_X4_196 14 rfl rfl rfl rfl (Nat.le_of_ble_eq_true rfl) ⟨(Nat.le_of_ble_eq_true rfl), (Nat.le_of_ble_eq_true rfl)⟩ ⟨(Nat.le_of_ble_eq_true rfl), (Nat.le_of_ble_eq_true rfl)⟩ dX4_digest_284 (fun _ _ z => False.elim z) (fun v9 ws9 h132 => ?_)))))))
  obtain ⟨rfl, hw9⟩ := h132
  subst ws9
  dsimp only [mPush]
  have hto132 := zTo_b (sse S 5) (sna S 5) (sow S 5) (sse S 6) (sna S 6) (sow S 6)
  refine r_i2lZ hX dX4_digest_287 (by first | with_reducible assumption | decide | omega) (r_laddG hX dX4_digest_288 (fun g120 hg120 => ?_))
  refine r_lstore_n hX dX4_digest_289 rfl (by decide) rfl (r_iincZ (z := 1) (y := 7) hX dX4_digest_290 rfl (by decide) rfl rfl (r_goto (tgt := 268) hX dX4_digest_293 (by decide) (r_iload hX dX4_digest_268 rfl (r_bipushZ hX dX4_digest_270 (by decide +kernel) (r_icmp_geZ (tgt := 296) hX dX4_digest_272 (by decide) (by decide) (by decide) (fun _ => ?_) (fun q => absurd (by decide) q))))))
  refine r_iincZ (z := 1) (y := 6) hX dX4_digest_296 rfl (by decide) rfl rfl (r_goto (tgt := 259) hX dX4_digest_299 (by decide) (r_iload_n hX dX4_digest_259 rfl rfl (r_bipushZ hX dX4_digest_260 (by decide +kernel) (r_icmp_geZ (tgt := 302) hX dX4_digest_262 (by decide) (by decide) (by decide) (fun q => absurd q (by decide)) (fun _ => ?_)))))
  refine r_iconstZ hX dX4_digest_265 (r_istore hX dX4_digest_266 (by decide) rfl (r_iload hX dX4_digest_268 rfl (r_bipushZ hX dX4_digest_270 (by decide +kernel) (r_icmp_geZ (tgt := 296) hX dX4_digest_272 (by decide) (by decide) (by decide) (fun q => absurd q (by decide)) (fun _ => ?_)))))
  refine r_lload_n hX dX4_digest_275 rfl rfl (r_ldc2Z (z := 31) hX kc_X4_227 (by decide +kernel) dX4_digest_276 (r_lmulZ hX dX4_digest_279 (r_aload_n hX dX4_digest_280 rfl rfl (r_iload_n hX dX4_digest_281 rfl rfl (r_iload hX dX4_digest_282 rfl (r_callV hX (z_X4_ordered ad ae cs K S 0 rest hS _ 6 (by first | with_reducible assumption | decide | omega) (by first | with_reducible assumption | decide | omega) _ 4 (by first | with_reducible assumption | decide | omega) (by first | with_reducible assumption | decide | omega)) kv_X4_196 14 rfl rfl rfl rfl (Nat.le_of_ble_eq_true rfl) ⟨(Nat.le_of_ble_eq_true rfl), (Nat.le_of_ble_eq_true rfl)⟩ ⟨(Nat.le_of_ble_eq_true rfl), (Nat.le_of_ble_eq_true rfl)⟩ dX4_digest_284 (fun _ _ z => False.elim z) (fun v9 ws9 h133 => ?_)))))))
  obtain ⟨rfl, hw9⟩ := h133
  subst ws9
  dsimp only [mPush]
  have hto133 := zTo_b (sse S 6) (sna S 6) (sow S 6) (sse S 4) (sna S 4) (sow S 4)
  refine r_i2lZ hX dX4_digest_287 (by first | with_reducible assumption | decide | omega) (r_laddG hX dX4_digest_288 (fun g121 hg121 => ?_))
  refine r_lstore_n hX dX4_digest_289 rfl (by decide) rfl (r_lc6 (i0 := 0) (i1 := 1) (i2 := 3) (i3 := 4) (i4 := 5) (i5 := 6) rfl rfl rfl rfl rfl rfl (r_iincZ (z := 1) (y := 5) hX dX4_digest_290 rfl (by decide) rfl rfl (r_goto (tgt := 268) hX dX4_digest_293 (by decide) (r_iload hX dX4_digest_268 rfl (r_bipushZ hX dX4_digest_270 (by decide +kernel) (r_icmp_geZ (tgt := 296) hX dX4_digest_272 (by decide) (by decide) (by decide) (fun q => absurd q (by decide)) (fun _ => ?_)))))))
  refine r_lload_n hX dX4_digest_275 rfl rfl (r_ldc2Z (z := 31) hX kc_X4_227 (by decide +kernel) dX4_digest_276 (r_lmulZ hX dX4_digest_279 (r_aload_n hX dX4_digest_280 rfl rfl (r_iload_n hX dX4_digest_281 rfl rfl (r_iload hX dX4_digest_282 rfl (r_callV hX (z_X4_ordered ad ae cs K S 0 rest hS _ 6 (by first | with_reducible assumption | decide | omega) (by first | with_reducible assumption | decide | omega) _ 5 (by first | with_reducible assumption | decide | omega) (by first | with_reducible assumption | decide | omega)) kv_X4_196 14 rfl rfl rfl rfl (Nat.le_of_ble_eq_true rfl) ⟨(Nat.le_of_ble_eq_true rfl), (Nat.le_of_ble_eq_true rfl)⟩ ⟨(Nat.le_of_ble_eq_true rfl), (Nat.le_of_ble_eq_true rfl)⟩ dX4_digest_284 (fun _ _ z => False.elim z) (fun v9 ws9 h134 => ?_)))))))
  obtain ⟨rfl, hw9⟩ := h134
  subst ws9
  dsimp only [mPush]
  have hto134 := zTo_b (sse S 6) (sna S 6) (sow S 6) (sse S 5) (sna S 5) (sow S 5)
  refine r_i2lZ hX dX4_digest_287 (by first | with_reducible assumption | decide | omega) (r_laddG hX dX4_digest_288 (fun g122 hg122 => ?_))
  refine r_lstore_n hX dX4_digest_289 rfl (by decide) rfl (r_iincZ (z := 1) (y := 6) hX dX4_digest_290 rfl (by decide) rfl rfl (r_goto (tgt := 268) hX dX4_digest_293 (by decide) (r_iload hX dX4_digest_268 rfl (r_bipushZ hX dX4_digest_270 (by decide +kernel) (r_icmp_geZ (tgt := 296) hX dX4_digest_272 (by decide) (by decide) (by decide) (fun q => absurd q (by decide)) (fun _ => ?_))))))
  refine r_lload_n hX dX4_digest_275 rfl rfl (r_ldc2Z (z := 31) hX kc_X4_227 (by decide +kernel) dX4_digest_276 (r_lmulZ hX dX4_digest_279 (r_aload_n hX dX4_digest_280 rfl rfl (r_iload_n hX dX4_digest_281 rfl rfl (r_iload hX dX4_digest_282 rfl (r_callV hX (z_X4_ordered ad ae cs K S 0 rest hS _ 6 (by first | with_reducible assumption | decide | omega) (by first | with_reducible assumption | decide | omega) _ 6 (by first | with_reducible assumption | decide | omega) (by first | with_reducible assumption | decide | omega)) kv_X4_196 14 rfl rfl rfl rfl (Nat.le_of_ble_eq_true rfl) ⟨(Nat.le_of_ble_eq_true rfl), (Nat.le_of_ble_eq_true rfl)⟩ ⟨(Nat.le_of_ble_eq_true rfl), (Nat.le_of_ble_eq_true rfl)⟩ dX4_digest_284 (fun _ _ z => False.elim z) (fun v9 ws9 h135 => ?_)))))))
  obtain ⟨rfl, hw9⟩ := h135
  subst ws9
  dsimp only [mPush]
  have hto135 := zTo_b (sse S 6) (sna S 6) (sow S 6) (sse S 6) (sna S 6) (sow S 6)
  refine r_i2lZ hX dX4_digest_287 (by first | with_reducible assumption | decide | omega) (r_laddG hX dX4_digest_288 (fun g123 hg123 => ?_))
  refine r_lstore_n hX dX4_digest_289 rfl (by decide) rfl (r_iincZ (z := 1) (y := 7) hX dX4_digest_290 rfl (by decide) rfl rfl (r_goto (tgt := 268) hX dX4_digest_293 (by decide) (r_iload hX dX4_digest_268 rfl (r_bipushZ hX dX4_digest_270 (by decide +kernel) (r_icmp_geZ (tgt := 296) hX dX4_digest_272 (by decide) (by decide) (by decide) (fun _ => ?_) (fun q => absurd (by decide) q))))))
  refine r_iincZ (z := 1) (y := 7) hX dX4_digest_296 rfl (by decide) rfl rfl (r_goto (tgt := 259) hX dX4_digest_299 (by decide) (r_iload_n hX dX4_digest_259 rfl rfl (r_bipushZ hX dX4_digest_260 (by decide +kernel) (r_icmp_geZ (tgt := 302) hX dX4_digest_262 (by decide) (by decide) (by decide) (fun _ => ?_) (fun q => absurd (by decide) q)))))
  refine r_iconstZ hX dX4_digest_302 (r_istore_n hX dX4_digest_303 rfl (by decide) rfl (r_iload_n hX dX4_digest_304 rfl rfl (r_iconstZ hX dX4_digest_305 (r_icmp_gtZ (tgt := 328) hX dX4_digest_306 (by decide) (by decide) (by decide) (fun q => absurd q (by decide)) (fun _ => ?_)))))
  refine r_lload_n hX dX4_digest_309 rfl rfl (r_ldc2Z (z := 31) hX kc_X4_227 (by decide +kernel) dX4_digest_310 (r_lmulZ hX dX4_digest_313 (r_aload_n hX dX4_digest_314 rfl rfl (r_iload_n hX dX4_digest_315 rfl rfl (r_callV hX (z_X4_houseTold ad ae cs K S 0 rest hS _ (by first | with_reducible assumption | decide | omega)) kv_X4_222 14 rfl rfl rfl rfl (Nat.le_of_ble_eq_true rfl) ⟨(Nat.le_of_ble_eq_true rfl), (Nat.le_of_ble_eq_true rfl)⟩ ⟨(Nat.le_of_ble_eq_true rfl), (Nat.le_of_ble_eq_true rfl)⟩ dX4_digest_316 (fun _ _ z => False.elim z) (fun v9 ws9 h136 => ?_))))))
  obtain ⟨rfl, hw9⟩ := h136
  subst ws9
  dsimp only [mPush]
  try clear hho
  have hho := iZ_rng (zHo S 0)
  rw [← iZ_self (zHo S 0)]
  refine r_i2lZ hX dX4_digest_319 (by first | with_reducible assumption | decide | omega) (r_laddG hX dX4_digest_320 (fun g124 hg124 => ?_))
  refine r_lstore_n hX dX4_digest_321 rfl (by decide) rfl (r_iincZ (z := 1) (y := 1) hX dX4_digest_322 rfl (by decide) rfl rfl (r_lc6 (i0 := 0) (i1 := 1) (i2 := 3) (i3 := 4) (i4 := 5) (i5 := 6) rfl rfl rfl rfl rfl rfl (r_goto (tgt := 304) hX dX4_digest_325 (by decide) (r_iload_n hX dX4_digest_304 rfl rfl (r_iconstZ hX dX4_digest_305 (r_icmp_gtZ (tgt := 328) hX dX4_digest_306 (by decide) (by decide) (by decide) (fun q => absurd q (by decide)) (fun _ => ?_)))))))
  refine r_lload_n hX dX4_digest_309 rfl rfl (r_ldc2Z (z := 31) hX kc_X4_227 (by decide +kernel) dX4_digest_310 (r_lmulZ hX dX4_digest_313 (r_aload_n hX dX4_digest_314 rfl rfl (r_iload_n hX dX4_digest_315 rfl rfl (r_callV hX (z_X4_houseTold ad ae cs K S 0 rest hS _ (by first | with_reducible assumption | decide | omega)) kv_X4_222 14 rfl rfl rfl rfl (Nat.le_of_ble_eq_true rfl) ⟨(Nat.le_of_ble_eq_true rfl), (Nat.le_of_ble_eq_true rfl)⟩ ⟨(Nat.le_of_ble_eq_true rfl), (Nat.le_of_ble_eq_true rfl)⟩ dX4_digest_316 (fun _ _ z => False.elim z) (fun v9 ws9 h137 => ?_))))))
  obtain ⟨rfl, hw9⟩ := h137
  subst ws9
  dsimp only [mPush]
  try clear hho
  have hho := iZ_rng (zHo S 1)
  rw [← iZ_self (zHo S 1)]
  refine r_i2lZ hX dX4_digest_319 (by first | with_reducible assumption | decide | omega) (r_laddG hX dX4_digest_320 (fun g125 hg125 => ?_))
  refine r_lstore_n hX dX4_digest_321 rfl (by decide) rfl (r_iincZ (z := 1) (y := 2) hX dX4_digest_322 rfl (by decide) rfl rfl (r_goto (tgt := 304) hX dX4_digest_325 (by decide) (r_iload_n hX dX4_digest_304 rfl rfl (r_iconstZ hX dX4_digest_305 (r_icmp_gtZ (tgt := 328) hX dX4_digest_306 (by decide) (by decide) (by decide) (fun q => absurd q (by decide)) (fun _ => ?_))))))
  refine r_lload_n hX dX4_digest_309 rfl rfl (r_ldc2Z (z := 31) hX kc_X4_227 (by decide +kernel) dX4_digest_310 (r_lmulZ hX dX4_digest_313 (r_aload_n hX dX4_digest_314 rfl rfl (r_iload_n hX dX4_digest_315 rfl rfl (r_callV hX (z_X4_houseTold ad ae cs K S 0 rest hS _ (by first | with_reducible assumption | decide | omega)) kv_X4_222 14 rfl rfl rfl rfl (Nat.le_of_ble_eq_true rfl) ⟨(Nat.le_of_ble_eq_true rfl), (Nat.le_of_ble_eq_true rfl)⟩ ⟨(Nat.le_of_ble_eq_true rfl), (Nat.le_of_ble_eq_true rfl)⟩ dX4_digest_316 (fun _ _ z => False.elim z) (fun v9 ws9 h138 => ?_))))))
  obtain ⟨rfl, hw9⟩ := h138
  subst ws9
  dsimp only [mPush]
  try clear hho
  have hho := iZ_rng (zHo S 2)
  rw [← iZ_self (zHo S 2)]
  refine r_i2lZ hX dX4_digest_319 (by first | with_reducible assumption | decide | omega) (r_laddG hX dX4_digest_320 (fun g126 hg126 => ?_))
  refine r_lstore_n hX dX4_digest_321 rfl (by decide) rfl (r_iincZ (z := 1) (y := 3) hX dX4_digest_322 rfl (by decide) rfl rfl (r_goto (tgt := 304) hX dX4_digest_325 (by decide) (r_iload_n hX dX4_digest_304 rfl rfl (r_iconstZ hX dX4_digest_305 (r_icmp_gtZ (tgt := 328) hX dX4_digest_306 (by decide) (by decide) (by decide) (fun q => absurd q (by decide)) (fun _ => ?_))))))
  refine r_lload_n hX dX4_digest_309 rfl rfl (r_ldc2Z (z := 31) hX kc_X4_227 (by decide +kernel) dX4_digest_310 (r_lmulZ hX dX4_digest_313 (r_aload_n hX dX4_digest_314 rfl rfl (r_iload_n hX dX4_digest_315 rfl rfl (r_callV hX (z_X4_houseTold ad ae cs K S 0 rest hS _ (by first | with_reducible assumption | decide | omega)) kv_X4_222 14 rfl rfl rfl rfl (Nat.le_of_ble_eq_true rfl) ⟨(Nat.le_of_ble_eq_true rfl), (Nat.le_of_ble_eq_true rfl)⟩ ⟨(Nat.le_of_ble_eq_true rfl), (Nat.le_of_ble_eq_true rfl)⟩ dX4_digest_316 (fun _ _ z => False.elim z) (fun v9 ws9 h139 => ?_))))))
  obtain ⟨rfl, hw9⟩ := h139
  subst ws9
  dsimp only [mPush]
  try clear hho
  have hho := iZ_rng (zHo S 3)
  rw [← iZ_self (zHo S 3)]
  refine r_i2lZ hX dX4_digest_319 (by first | with_reducible assumption | decide | omega) (r_laddG hX dX4_digest_320 (fun g127 hg127 => ?_))
  refine r_lstore_n hX dX4_digest_321 rfl (by decide) rfl (r_iincZ (z := 1) (y := 4) hX dX4_digest_322 rfl (by decide) rfl rfl (r_goto (tgt := 304) hX dX4_digest_325 (by decide) (r_iload_n hX dX4_digest_304 rfl rfl (r_iconstZ hX dX4_digest_305 (r_icmp_gtZ (tgt := 328) hX dX4_digest_306 (by decide) (by decide) (by decide) (fun _ => ?_) (fun q => absurd (by decide) q))))))
  refine r_lload_n hX dX4_digest_328 rfl rfl (r_ldc2Z (z := 31) hX kc_X4_227 (by decide +kernel) dX4_digest_329 (r_lmulZ hX dX4_digest_332 (r_lconstZ (v := 1) hX dX4_digest_333 rfl (r_laddG hX dX4_digest_334 (fun g128 hg128 => ?_)))))
  have e0 : dOff S 6199 = g4 := ((dg_step hg1).trans ((dg_step hg2).trans ((dg_step hg3).trans (dg_step (l := []) hg4))))
  have e1 : dMom S g4 = g12 := ((dg_step hg5).trans ((dg_step hg6).trans ((dg_step hg7).trans ((dg_step hg8).trans ((dg_step hg9).trans ((dg_step hg10).trans ((dg_step hg11).trans (dg_step (l := []) hg12))))))))
  have e2 : dDat S g12 = g64 := ((dg_step hg13).trans ((dg_step hg14).trans ((dg_step hg15).trans ((dg_step hg16).trans ((dg_step hg17).trans ((dg_step hg18).trans ((dg_step hg19).trans ((dg_step hg20).trans ((dg_step hg21).trans ((dg_step hg22).trans ((dg_step hg23).trans ((dg_step hg24).trans ((dg_step hg25).trans ((dg_step hg26).trans ((dg_step hg27).trans ((dg_step hg28).trans ((dg_step hg29).trans ((dg_step hg30).trans ((dg_step hg31).trans ((dg_step hg32).trans ((dg_step hg33).trans ((dg_step hg34).trans ((dg_step hg35).trans ((dg_step hg36).trans ((dg_step hg37).trans ((dg_step hg38).trans ((dg_step hg39).trans ((dg_step hg40).trans ((dg_step hg41).trans ((dg_step hg42).trans ((dg_step hg43).trans ((dg_step hg44).trans ((dg_step hg45).trans ((dg_step hg46).trans ((dg_step hg47).trans ((dg_step hg48).trans ((dg_step hg49).trans ((dg_step hg50).trans ((dg_step hg51).trans ((dg_step hg52).trans ((dg_step hg53).trans ((dg_step hg54).trans ((dg_step hg55).trans ((dg_step hg56).trans ((dg_step hg57).trans ((dg_step hg58).trans ((dg_step hg59).trans ((dg_step hg60).trans ((dg_step hg61).trans ((dg_step hg62).trans ((dg_step hg63).trans (dg_step (l := []) hg64))))))))))))))))))))))))))))))))))))))))))))))))))))
  have e3 : dClk S g64 = g82 := ((dg_step hg65).trans ((dg_step hg66).trans ((dg_step hg67).trans ((dg_step hg68).trans ((dg_step hg69).trans ((dg_step hg70).trans ((dg_step hg71).trans ((dg_step hg72).trans ((dg_step hg73).trans ((dg_step hg74).trans ((dg_step hg75).trans ((dg_step hg76).trans ((dg_step hg77).trans ((dg_step hg78).trans ((dg_step hg79).trans ((dg_step hg80).trans ((dg_step hg81).trans (dg_step (l := []) hg82))))))))))))))))))
  have e4 : dDp S g82 = g114 := ((dg_step hg83).trans ((dg_step hg84).trans ((dg_step hg85).trans ((dg_step hg86).trans ((dg_step hg87).trans ((dg_step hg88).trans ((dg_step hg89).trans ((dg_step hg90).trans ((dg_step hg91).trans ((dg_step hg92).trans ((dg_step hg93).trans ((dg_step hg94).trans ((dg_step hg95).trans ((dg_step hg96).trans ((dg_step hg97).trans ((dg_step hg98).trans ((dg_step hg99).trans ((dg_step hg100).trans ((dg_step hg101).trans ((dg_step hg102).trans ((dg_step hg103).trans ((dg_step hg104).trans ((dg_step hg105).trans ((dg_step hg106).trans ((dg_step hg107).trans ((dg_step hg108).trans ((dg_step hg109).trans ((dg_step hg110).trans ((dg_step hg111).trans ((dg_step hg112).trans ((dg_step hg113).trans (dg_step (l := []) hg114))))))))))))))))))))))))))))))))
  have e5 : dCp S g114 = g123 := ((dg_step hg115).trans ((dg_step hg116).trans ((dg_step hg117).trans ((dg_step hg118).trans ((dg_step hg119).trans ((dg_step hg120).trans ((dg_step hg121).trans ((dg_step hg122).trans (dg_step (l := []) hg123)))))))))
  have e6 : dHo S g123 = g127 := ((dg_step hg124).trans ((dg_step hg125).trans ((dg_step hg126).trans (dg_step (l := []) hg127))))
  refine r_lret hX hE dX4_digest_335 (Nat.le_of_ble_eq_true rfl) (Nat.le_of_ble_eq_true rfl) ⟨zl ?_, rfl⟩
  unfold zDig
  rw [e0, e1, e2, e3, e4, e5, e6]
  exact Eq.symm (show g127 * 31 + 1 = g128 from hg128)
end
-- 80 zwrap
section
/-! The law's wrappers, exact. (Rows by a program of this repository.) -/
theorem z_X2_secondsP (ad : Nat → Nat) (cs : ClassId × ClassId × ClassId) (S : mS) (T : mT2) (rest : va_W) (hS : sWF S) (a0 : Int) (h0 : rJ a0) : mCt (mTy cs) yX2_seconds cX2_seconds 2 (some .int) ⟨7, 1, 6, 103⟩ [.ref (ad 0), .int (iZ a0)] (mWd ad cs (mKof S T) rest) (fun v ws' => (((0 ≤ a0 ∧ a0 < 4)) ∧ (0 ≤ (0 : Int))) ∧ v = some (.int (iZ (sof S a0.toNat))) ∧ ws' = mWd ad cs (mKof S T) rest) (fun E ws' => ws' = mWd ad cs (mKof S T) rest ∧ ((E = xI ∧ ¬ ((0 ≤ a0 ∧ a0 < 4))) ∨ (E = xA ∧ ((0 ≤ a0 ∧ a0 < 4)) ∧ ¬ (0 ≤ (0 : Int))))) :=
  (z_X2_seconds ad cs S T rest hS a0 h0).mono (fun v w h => ⟨⟨h.1, by decide⟩, h.2⟩) (fun E w h => ⟨h.2.1, Or.inl ⟨h.1, h.2.2⟩⟩)
theorem z_X2_houseP (ad : Nat → Nat) (cs : ClassId × ClassId × ClassId) (S : mS) (T : mT2) (rest : va_W) (hS : sWF S) (a0 : Int) (h0 : rJ a0) : mCt (mTy cs) yX2_house cX2_house 2 (some .int) ⟨7, 1, 6, 104⟩ [.ref (ad 0), .int (iZ a0)] (mWd ad cs (mKof S T) rest) (fun v ws' => (((0 ≤ a0 ∧ a0 ≤ 3)) ∧ (0 ≤ (0 : Int))) ∧ v = some (.int (iZ (zHo S a0).toInt)) ∧ ws' = mWd ad cs (mKof S T) rest) (fun E ws' => ws' = mWd ad cs (mKof S T) rest ∧ ((E = xA ∧ ¬ ((0 ≤ a0 ∧ a0 ≤ 3))) ∨ (E = xI ∧ ((0 ≤ a0 ∧ a0 ≤ 3)) ∧ ¬ (0 ≤ (0 : Int))))) :=
  (z_X2_house ad cs S T rest hS a0 h0).mono (fun v w h => ⟨⟨h.1, by decide⟩, by rw [iZ_self]; exact h.2.1, h.2.2⟩) (fun E w h => ⟨h.2.1, Or.inl ⟨h.1, h.2.2⟩⟩)
set_option maxHeartbeats 1000000 in
theorem z_L_offset (ad ae : Nat → Nat) (cs : ClassId × ClassId × ClassId) (S : mS) (T : mT2) (J : mJ) (rest : va_W) (hS : sWF S) (ao : Nat) (n0 : Int64) (s0 : Value) (a0 : Int) (h0 : rJ a0) (a1 : Int) (h1 : rJ a1)  : mCw (mTy cs) yL_offset cL_offset 5 (some .int) [(0, 11, 14, 19), (0, 11, 18, 21)] ⟨8, 2, 12, 127⟩ [.ref (ad 0), .int (iZ a0), .int (iZ a1), .ref ao] (mRw ad ae cs (mKof S T) J ((ao, .inr (4, [.long n0, s0])) :: rest)) (fun v ws' => ((((0 ≤ a0 ∧ a0 < 4)) ∧ (-64800 ≤ a1 ∧ a1 ≤ 64800)) ∧ v = some (.int 0) ∧ ws' = (mRw ad ae cs (mKof ((sof S a0.toNat, sOf S a0.toNat a1)).2 T) J ((ao, .inr (4, [.long (iZ ((sof S a0.toNat, sOf S a0.toNat a1)).1).toInt64, s0])) :: rest))) ∨ (¬ ((0 ≤ a0 ∧ a0 < 4)) ∧ v = some (.int 1) ∧ ws' = (mRw ad ae cs (mKof S T) J ((ao, .inr (4, [.long n0, s0])) :: rest))) ∨ (((0 ≤ a0 ∧ a0 < 4)) ∧ ¬ (-64800 ≤ a1 ∧ a1 ≤ 64800) ∧ v = some (.int 2) ∧ ws' = (mRw ad ae cs (mKof S T) J ((ao, .inr (4, [.long n0, s0])) :: rest)))) := by
  refine mCw.of (by decide +kernel) (Nat.le_of_ble_eq_true rfl) (fun X hX hg hE => ?_)
  replace hX : mOK X RL cL_offset 5 ⟨8, 2, 12, 127⟩ [(0, 11, 14, 19), (0, 11, 18, 21)] (mTy cs) := hX
  refine r_aload_n hX dL_offset_0 rfl rfl (r_aload_n hX dL_offset_1 rfl rfl (r_iload_n hX dL_offset_2 rfl rfl (r_iload_n hX dL_offset_3 rfl rfl (r_callV hX (z_X2_offset ad cs S T (mMd ae cs J ((ao, .inr (4, [.long n0, s0])) :: rest)) hS _ h0 _ h1) kv_L_7 0 rfl rfl rfl rfl (Nat.le_of_ble_eq_true rfl) ⟨(Nat.le_of_ble_eq_true rfl), (Nat.le_of_ble_eq_true rfl)⟩ ⟨(Nat.le_of_ble_eq_true rfl), (Nat.le_of_ble_eq_true rfl)⟩ dL_offset_4 (fun E ws9 z => ?_) (fun v9 ws9 h9 => ?_)))))
  · obtain ⟨rfl, ⟨rfl, zi⟩ | ⟨rfl, zi, za⟩⟩ := z
    ·
      refine r_catch1 hX rfl (by decide) kl_L_19 kca_I (fun q => ?_)
      refine r_astore hX dL_offset_14 (by decide) rfl (r_iconst (v := 1) hX dL_offset_16 (by decide) ?_)
      exact r_iret hX hE dL_offset_17 (Nat.le_of_ble_eq_true rfl) (Nat.le_of_ble_eq_true rfl) (Or.inr (Or.inl ⟨zi, rfl, rfl⟩))
    ·
      refine r_catch2 hX hg (by decide) kl_L_19 rfl (by decide) kl_L_21 (fun q => ?_)
      refine r_astore hX dL_offset_18 (by decide) rfl (r_iconst (v := 2) hX dL_offset_20 (by decide) ?_)
      exact r_iret hX hE dL_offset_21 (Nat.le_of_ble_eq_true rfl) (Nat.le_of_ble_eq_true rfl) (Or.inr (Or.inr ⟨zi, za, rfl, rfl⟩))
  obtain ⟨hg9, rfl, hw9⟩ := h9
  subst ws9
  dsimp only [mPush]
  refine r_i2l hX dL_offset_7 (r_putN hX kg_L_13 21 rfl rfl rfl rfl (Nat.le_of_ble_eq_true rfl) dL_offset_8 (r_goto (tgt := 22) hX dL_offset_11 (by decide) (r_iconst (v := 0) hX dL_offset_22 (by decide) ?_)))
  exact r_iret hX hE dL_offset_23 (Nat.le_of_ble_eq_true rfl) (Nat.le_of_ble_eq_true rfl) (Or.inl ⟨hg9, rfl, rfl⟩)
set_option maxHeartbeats 1000000 in
theorem z_L_offsetOf (ad ae : Nat → Nat) (cs : ClassId × ClassId × ClassId) (S : mS) (T : mT2) (J : mJ) (rest : va_W) (hS : sWF S) (ao : Nat) (n0 : Int64) (s0 : Value) (a0 : Int) (h0 : rJ a0) (a1 : Int) (h1 : rJ a1) (a2 : Int) (h2 : rJ a2) (a3 : Int) (h3 : rJ a3)  : mCw (mTy cs) yL_offsetOf cL_offsetOf 7 (some .int) [(0, 15, 18, 19)] ⟨8, 1, 6, 130⟩ [.ref (ad 0), .int (iZ a0), .int (iZ a1), .int (iZ a2), .int (iZ a3), .ref ao] (mRw ad ae cs (mKof S T) J ((ao, .inr (4, [.long n0, s0])) :: rest)) (fun v ws' => ((((0 ≤ a0 ∧ a0 < 4)) ∧ (0 ≤ (0 : Int))) ∧ v = some (.int 0) ∧ ws' = (mRw ad ae cs (mKof (oOff S a0.toNat a1 a2 a3).2 T) J ((ao, .inr (4, [.long (iZ (oOff S a0.toNat a1 a2 a3).1).toInt64, s0])) :: rest))) ∨ (¬ ((0 ≤ a0 ∧ a0 < 4)) ∧ v = some (.int 1) ∧ ws' = (mRw ad ae cs (mKof S T) J ((ao, .inr (4, [.long n0, s0])) :: rest))) ∨ (((0 ≤ a0 ∧ a0 < 4)) ∧ ¬ (0 ≤ (0 : Int)) ∧ v = some (.int 2) ∧ ws' = (mRw ad ae cs (mKof S T) J ((ao, .inr (4, [.long n0, s0])) :: rest)))) := by
  refine mCw.of (by decide +kernel) (Nat.le_of_ble_eq_true rfl) (fun X hX hg hE => ?_)
  replace hX : mOK X RL cL_offsetOf 7 ⟨8, 1, 6, 130⟩ [(0, 15, 18, 19)] (mTy cs) := hX
  refine r_aload hX dL_offsetOf_0 rfl (r_aload_n hX dL_offsetOf_2 rfl rfl (r_iload_n hX dL_offsetOf_3 rfl rfl (r_iload_n hX dL_offsetOf_4 rfl rfl (r_iload_n hX dL_offsetOf_5 rfl rfl (r_iload hX dL_offsetOf_6 rfl (r_callV hX (z_X2_offsetOf ad cs S T (mMd ae cs J ((ao, .inr (4, [.long n0, s0])) :: rest)) hS _ h0 _ h1 _ h2 _ h3) kv_L_23 0 rfl rfl rfl rfl (Nat.le_of_ble_eq_true rfl) ⟨(Nat.le_of_ble_eq_true rfl), (Nat.le_of_ble_eq_true rfl)⟩ ⟨(Nat.le_of_ble_eq_true rfl), (Nat.le_of_ble_eq_true rfl)⟩ dL_offsetOf_8 (fun E ws9 z => ?_) (fun v9 ws9 h9 => ?_)))))))
  · obtain ⟨rfl, ⟨rfl, zi⟩ | ⟨rfl, zi, za⟩⟩ := z
    ·
      refine r_catch1 hX rfl (by decide) kl_L_19 kca_I (fun q => ?_)
      refine r_astore hX dL_offsetOf_18 (by decide) rfl (r_iconst (v := 1) hX dL_offsetOf_20 (by decide) ?_)
      exact r_iret hX hE dL_offsetOf_21 (Nat.le_of_ble_eq_true rfl) (Nat.le_of_ble_eq_true rfl) (Or.inr (Or.inl ⟨zi, rfl, rfl⟩))
    · exact absurd (by decide) za
  obtain ⟨hg9, rfl, hw9⟩ := h9
  subst ws9
  dsimp only [mPush]
  refine r_i2l hX dL_offsetOf_11 (r_putN hX kg_L_13 21 rfl rfl rfl rfl (Nat.le_of_ble_eq_true rfl) dL_offsetOf_12 (r_goto (tgt := 22) hX dL_offsetOf_15 (by decide) (r_iconst (v := 0) hX dL_offsetOf_22 (by decide) ?_)))
  exact r_iret hX hE dL_offsetOf_23 (Nat.le_of_ble_eq_true rfl) (Nat.le_of_ble_eq_true rfl) (Or.inl ⟨hg9, rfl, rfl⟩)
set_option maxHeartbeats 1000000 in
theorem z_L_seconds (ad ae : Nat → Nat) (cs : ClassId × ClassId × ClassId) (S : mS) (T : mT2) (J : mJ) (rest : va_W) (hS : sWF S) (ao : Nat) (n0 : Int64) (s0 : Value) (a0 : Int) (h0 : rJ a0)  : mCw (mTy cs) yL_seconds cL_seconds 4 (some .int) [(0, 10, 13, 19)] ⟨8, 1, 6, 124⟩ [.ref (ad 0), .int (iZ a0), .ref ao] (mRw ad ae cs (mKof S T) J ((ao, .inr (4, [.long n0, s0])) :: rest)) (fun v ws' => ((((0 ≤ a0 ∧ a0 < 4)) ∧ (0 ≤ (0 : Int))) ∧ v = some (.int 0) ∧ ws' = (mRw ad ae cs (mKof S T) J ((ao, .inr (4, [.long (iZ (sof S a0.toNat)).toInt64, s0])) :: rest))) ∨ (¬ ((0 ≤ a0 ∧ a0 < 4)) ∧ v = some (.int 1) ∧ ws' = (mRw ad ae cs (mKof S T) J ((ao, .inr (4, [.long n0, s0])) :: rest))) ∨ (((0 ≤ a0 ∧ a0 < 4)) ∧ ¬ (0 ≤ (0 : Int)) ∧ v = some (.int 2) ∧ ws' = (mRw ad ae cs (mKof S T) J ((ao, .inr (4, [.long n0, s0])) :: rest)))) := by
  refine mCw.of (by decide +kernel) (Nat.le_of_ble_eq_true rfl) (fun X hX hg hE => ?_)
  replace hX : mOK X RL cL_seconds 4 ⟨8, 1, 6, 124⟩ [(0, 10, 13, 19)] (mTy cs) := hX
  refine r_aload_n hX dL_seconds_0 rfl rfl (r_aload_n hX dL_seconds_1 rfl rfl (r_iload_n hX dL_seconds_2 rfl rfl (r_callV hX (z_X2_secondsP ad cs S T (mMd ae cs J ((ao, .inr (4, [.long n0, s0])) :: rest)) hS _ h0) kv_L_27 0 rfl rfl rfl rfl (Nat.le_of_ble_eq_true rfl) ⟨(Nat.le_of_ble_eq_true rfl), (Nat.le_of_ble_eq_true rfl)⟩ ⟨(Nat.le_of_ble_eq_true rfl), (Nat.le_of_ble_eq_true rfl)⟩ dL_seconds_3 (fun E ws9 z => ?_) (fun v9 ws9 h9 => ?_))))
  · obtain ⟨rfl, ⟨rfl, zi⟩ | ⟨rfl, zi, za⟩⟩ := z
    ·
      refine r_catch1 hX rfl (by decide) kl_L_19 kca_I (fun q => ?_)
      refine r_astore_n hX dL_seconds_13 rfl (by decide) rfl (r_iconst (v := 1) hX dL_seconds_14 (by decide) ?_)
      exact r_iret hX hE dL_seconds_15 (Nat.le_of_ble_eq_true rfl) (Nat.le_of_ble_eq_true rfl) (Or.inr (Or.inl ⟨zi, rfl, rfl⟩))
    · exact absurd (by decide) za
  obtain ⟨hg9, rfl, hw9⟩ := h9
  subst ws9
  dsimp only [mPush]
  refine r_i2l hX dL_seconds_6 (r_putN hX kg_L_13 21 rfl rfl rfl rfl (Nat.le_of_ble_eq_true rfl) dL_seconds_7 (r_goto (tgt := 16) hX dL_seconds_10 (by decide) (r_iconst (v := 0) hX dL_seconds_16 (by decide) ?_)))
  exact r_iret hX hE dL_seconds_17 (Nat.le_of_ble_eq_true rfl) (Nat.le_of_ble_eq_true rfl) (Or.inl ⟨hg9, rfl, rfl⟩)
set_option maxHeartbeats 1000000 in
theorem z_L_orderOffset (ad ae : Nat → Nat) (cs : ClassId × ClassId × ClassId) (S : mS) (T : mT2) (J : mJ) (rest : va_W) (hS : sWF S) (ao : Nat) (n0 : Int64) (s0 : Value) (a0 : Int) (h0 : rJ a0) (a1 : Int) (h1 : rJ a1)  : mCw (mTy cs) yL_orderOffset cL_orderOffset 5 (some .int) [(0, 11, 14, 19)] ⟨9, 2, 12, 146⟩ [.ref (ad 0), .int (iZ a0), .int (iZ a1), .ref ao] (mRw ad ae cs (mKof S T) J ((ao, .inr (4, [.long n0, s0])) :: rest)) (fun v ws' => ((((0 ≤ a0 ∧ a0 < 4) ∧ (0 ≤ a1 ∧ a1 < 4)) ∧ (0 ≤ (0 : Int))) ∧ v = some (.int 0) ∧ ws' = (mRw ad ae cs (mKof S T) J ((ao, .inr (4, [.long (iZ (cmpZ (sof S a1.toNat) (sof S a0.toNat))).toInt64, s0])) :: rest))) ∨ (¬ ((0 ≤ a0 ∧ a0 < 4) ∧ (0 ≤ a1 ∧ a1 < 4)) ∧ v = some (.int 1) ∧ ws' = (mRw ad ae cs (mKof S T) J ((ao, .inr (4, [.long n0, s0])) :: rest))) ∨ (((0 ≤ a0 ∧ a0 < 4) ∧ (0 ≤ a1 ∧ a1 < 4)) ∧ ¬ (0 ≤ (0 : Int)) ∧ v = some (.int 2) ∧ ws' = (mRw ad ae cs (mKof S T) J ((ao, .inr (4, [.long n0, s0])) :: rest)))) := by
  refine mCw.of (by decide +kernel) (Nat.le_of_ble_eq_true rfl) (fun X hX hg hE => ?_)
  replace hX : mOK X RL cL_orderOffset 5 ⟨9, 2, 12, 146⟩ [(0, 11, 14, 19)] (mTy cs) := hX
  refine r_aload_n hX dL_orderOffset_0 rfl rfl (r_aload_n hX dL_orderOffset_1 rfl rfl (r_iload_n hX dL_orderOffset_2 rfl rfl (r_iload_n hX dL_orderOffset_3 rfl rfl (r_callV hX (z_X2_orderOffset ad cs S T (mMd ae cs J ((ao, .inr (4, [.long n0, s0])) :: rest)) hS _ h0 _ h1) kv_L_31 0 rfl rfl rfl rfl (Nat.le_of_ble_eq_true rfl) ⟨(Nat.le_of_ble_eq_true rfl), (Nat.le_of_ble_eq_true rfl)⟩ ⟨(Nat.le_of_ble_eq_true rfl), (Nat.le_of_ble_eq_true rfl)⟩ dL_orderOffset_4 (fun E ws9 z => ?_) (fun v9 ws9 h9 => ?_)))))
  · obtain ⟨rfl, ⟨rfl, zi⟩ | ⟨rfl, zi, za⟩⟩ := z
    ·
      refine r_catch1 hX rfl (by decide) kl_L_19 kca_I (fun q => ?_)
      refine r_astore hX dL_orderOffset_14 (by decide) rfl (r_iconst (v := 1) hX dL_orderOffset_16 (by decide) ?_)
      exact r_iret hX hE dL_orderOffset_17 (Nat.le_of_ble_eq_true rfl) (Nat.le_of_ble_eq_true rfl) (Or.inr (Or.inl ⟨zi, rfl, rfl⟩))
    · exact absurd (by decide) za
  obtain ⟨hg9, rfl, hw9⟩ := h9
  subst ws9
  dsimp only [mPush]
  refine r_i2l hX dL_orderOffset_7 (r_putN hX kg_L_13 21 rfl rfl rfl rfl (Nat.le_of_ble_eq_true rfl) dL_orderOffset_8 (r_goto (tgt := 18) hX dL_orderOffset_11 (by decide) (r_iconst (v := 0) hX dL_orderOffset_18 (by decide) ?_)))
  exact r_iret hX hE dL_orderOffset_19 (Nat.le_of_ble_eq_true rfl) (Nat.le_of_ble_eq_true rfl) (Or.inl ⟨hg9, rfl, rfl⟩)
set_option maxHeartbeats 1000000 in
theorem z_L_moment (ad ae : Nat → Nat) (cs : ClassId × ClassId × ClassId) (S : mS) (T : mT2) (J : mJ) (rest : va_W) (hS : sWF S) (ao : Nat) (n0 : Int64) (s0 : Value) (a0 : Int) (h0 : rJ a0) (a1 : Int) (h1 : rJ a1) (a2 : Int) (h2 : rJ a2)  : mCw (mTy cs) yL_moment cL_moment 6 (some .int) [(0, 13, 16, 19)] ⟨8, 1, 6, 126⟩ [.ref (ad 0), .int (iZ a0), .int (iZ a1), .int (iZ a2), .ref ao] (mRw ad ae cs (mKof S T) J ((ao, .inr (4, [.long n0, s0])) :: rest)) (fun v ws' => ((((0 ≤ a0 ∧ a0 < 4)) ∧ (0 ≤ (0 : Int))) ∧ v = some (.int 0) ∧ ws' = (mRw ad ae cs (mKof (oNum S a0.toNat (a1 * 1000000000 + a2)).2 T) J ((ao, .inr (4, [.long (iZ (oNum S a0.toNat (a1 * 1000000000 + a2)).1).toInt64, s0])) :: rest))) ∨ (¬ ((0 ≤ a0 ∧ a0 < 4)) ∧ v = some (.int 1) ∧ ws' = (mRw ad ae cs (mKof S T) J ((ao, .inr (4, [.long n0, s0])) :: rest))) ∨ (((0 ≤ a0 ∧ a0 < 4)) ∧ ¬ (0 ≤ (0 : Int)) ∧ v = some (.int 2) ∧ ws' = (mRw ad ae cs (mKof S T) J ((ao, .inr (4, [.long n0, s0])) :: rest)))) := by
  refine mCw.of (by decide +kernel) (Nat.le_of_ble_eq_true rfl) (fun X hX hg hE => ?_)
  replace hX : mOK X RL cL_moment 6 ⟨8, 1, 6, 126⟩ [(0, 13, 16, 19)] (mTy cs) := hX
  refine r_aload hX dL_moment_0 rfl (r_aload_n hX dL_moment_2 rfl rfl (r_iload_n hX dL_moment_3 rfl rfl (r_iload_n hX dL_moment_4 rfl rfl (r_iload_n hX dL_moment_5 rfl rfl (r_callV hX (z_X2_moment ad cs S T (mMd ae cs J ((ao, .inr (4, [.long n0, s0])) :: rest)) hS _ h0 _ h1 _ h2) kv_L_34 0 rfl rfl rfl rfl (Nat.le_of_ble_eq_true rfl) ⟨(Nat.le_of_ble_eq_true rfl), (Nat.le_of_ble_eq_true rfl)⟩ ⟨(Nat.le_of_ble_eq_true rfl), (Nat.le_of_ble_eq_true rfl)⟩ dL_moment_6 (fun E ws9 z => ?_) (fun v9 ws9 h9 => ?_))))))
  · obtain ⟨rfl, ⟨rfl, zi⟩ | ⟨rfl, zi, za⟩⟩ := z
    ·
      refine r_catch1 hX rfl (by decide) kl_L_19 kca_I (fun q => ?_)
      refine r_astore hX dL_moment_16 (by decide) rfl (r_iconst (v := 1) hX dL_moment_18 (by decide) ?_)
      exact r_iret hX hE dL_moment_19 (Nat.le_of_ble_eq_true rfl) (Nat.le_of_ble_eq_true rfl) (Or.inr (Or.inl ⟨zi, rfl, rfl⟩))
    · exact absurd (by decide) za
  obtain ⟨hg9, rfl, hw9⟩ := h9
  subst ws9
  dsimp only [mPush]
  refine r_i2l hX dL_moment_9 (r_putN hX kg_L_13 21 rfl rfl rfl rfl (Nat.le_of_ble_eq_true rfl) dL_moment_10 (r_goto (tgt := 20) hX dL_moment_13 (by decide) (r_iconst (v := 0) hX dL_moment_20 (by decide) ?_)))
  exact r_iret hX hE dL_moment_21 (Nat.le_of_ble_eq_true rfl) (Nat.le_of_ble_eq_true rfl) (Or.inl ⟨hg9, rfl, rfl⟩)
set_option maxHeartbeats 1000000 in
theorem z_L_milli (ad ae : Nat → Nat) (cs : ClassId × ClassId × ClassId) (S : mS) (T : mT2) (J : mJ) (rest : va_W) (hS : sWF S) (ao : Nat) (n0 : Int64) (s0 : Value) (a0 : Int) (h0 : rJ a0) (a1 : Int) (h1 : rJ a1) (a2 : Int) (h2 : rJ a2)  : mCw (mTy cs) yL_milli cL_milli 6 (some .int) [(0, 13, 16, 19)] ⟨8, 1, 6, 126⟩ [.ref (ad 0), .int (iZ a0), .int (iZ a1), .int (iZ a2), .ref ao] (mRw ad ae cs (mKof S T) J ((ao, .inr (4, [.long n0, s0])) :: rest)) (fun v ws' => ((((0 ≤ a0 ∧ a0 < 4)) ∧ (0 ≤ (0 : Int))) ∧ v = some (.int 0) ∧ ws' = (mRw ad ae cs (mKof (oNum S a0.toNat (a1 * 1000000000 + a2 * 1000000)).2 T) J ((ao, .inr (4, [.long (iZ (oNum S a0.toNat (a1 * 1000000000 + a2 * 1000000)).1).toInt64, s0])) :: rest))) ∨ (¬ ((0 ≤ a0 ∧ a0 < 4)) ∧ v = some (.int 1) ∧ ws' = (mRw ad ae cs (mKof S T) J ((ao, .inr (4, [.long n0, s0])) :: rest))) ∨ (((0 ≤ a0 ∧ a0 < 4)) ∧ ¬ (0 ≤ (0 : Int)) ∧ v = some (.int 2) ∧ ws' = (mRw ad ae cs (mKof S T) J ((ao, .inr (4, [.long n0, s0])) :: rest)))) := by
  refine mCw.of (by decide +kernel) (Nat.le_of_ble_eq_true rfl) (fun X hX hg hE => ?_)
  replace hX : mOK X RL cL_milli 6 ⟨8, 1, 6, 126⟩ [(0, 13, 16, 19)] (mTy cs) := hX
  refine r_aload hX dL_milli_0 rfl (r_aload_n hX dL_milli_2 rfl rfl (r_iload_n hX dL_milli_3 rfl rfl (r_iload_n hX dL_milli_4 rfl rfl (r_iload_n hX dL_milli_5 rfl rfl (r_callV hX (z_X2_milli ad cs S T (mMd ae cs J ((ao, .inr (4, [.long n0, s0])) :: rest)) hS _ h0 _ h1 _ h2) kv_L_38 0 rfl rfl rfl rfl (Nat.le_of_ble_eq_true rfl) ⟨(Nat.le_of_ble_eq_true rfl), (Nat.le_of_ble_eq_true rfl)⟩ ⟨(Nat.le_of_ble_eq_true rfl), (Nat.le_of_ble_eq_true rfl)⟩ dL_milli_6 (fun E ws9 z => ?_) (fun v9 ws9 h9 => ?_))))))
  · obtain ⟨rfl, ⟨rfl, zi⟩ | ⟨rfl, zi, za⟩⟩ := z
    ·
      refine r_catch1 hX rfl (by decide) kl_L_19 kca_I (fun q => ?_)
      refine r_astore hX dL_milli_16 (by decide) rfl (r_iconst (v := 1) hX dL_milli_18 (by decide) ?_)
      exact r_iret hX hE dL_milli_19 (Nat.le_of_ble_eq_true rfl) (Nat.le_of_ble_eq_true rfl) (Or.inr (Or.inl ⟨zi, rfl, rfl⟩))
    · exact absurd (by decide) za
  obtain ⟨hg9, rfl, hw9⟩ := h9
  subst ws9
  dsimp only [mPush]
  refine r_i2l hX dL_milli_9 (r_putN hX kg_L_13 21 rfl rfl rfl rfl (Nat.le_of_ble_eq_true rfl) dL_milli_10 (r_goto (tgt := 20) hX dL_milli_13 (by decide) (r_iconst (v := 0) hX dL_milli_20 (by decide) ?_)))
  exact r_iret hX hE dL_milli_21 (Nat.le_of_ble_eq_true rfl) (Nat.le_of_ble_eq_true rfl) (Or.inl ⟨hg9, rfl, rfl⟩)
set_option maxHeartbeats 1000000 in
theorem z_L_move (ad ae : Nat → Nat) (cs : ClassId × ClassId × ClassId) (S : mS) (T : mT2) (J : mJ) (rest : va_W) (hS : sWF S) (ao : Nat) (n0 : Int64) (s0 : Value) (a0 : Int) (h0 : rJ a0) (a1 : Int) (h1 : rJ a1) (a2 : Int) (h2 : rJ a2) (b3 : Bool)  : mCw (mTy cs) yL_move cL_move 7 (some .int) [(0, 15, 18, 19), (0, 15, 22, 21)] ⟨8, 2, 12, 130⟩ [.ref (ad 0), .int (iZ a0), .int (iZ a1), .int (iZ a2), .int (b2i b3), .ref ao] (mRw ad ae cs (mKof S T) J ((ao, .inr (4, [.long n0, s0])) :: rest)) (fun v ws' => ((((0 ≤ a0 ∧ a0 < 4)) ∧ (0 ≤ a1 ∧ a1 ≤ 2)) ∧ v = some (.int 0) ∧ ws' = (mRw ad ae cs (mKof (oNum S a0.toNat (snu S a0.toNat + zSg a2 b3 * zUn a1)).2 T) J ((ao, .inr (4, [.long (iZ (oNum S a0.toNat (snu S a0.toNat + zSg a2 b3 * zUn a1)).1).toInt64, s0])) :: rest))) ∨ (¬ ((0 ≤ a0 ∧ a0 < 4)) ∧ v = some (.int 1) ∧ ws' = (mRw ad ae cs (mKof S T) J ((ao, .inr (4, [.long n0, s0])) :: rest))) ∨ (((0 ≤ a0 ∧ a0 < 4)) ∧ ¬ (0 ≤ a1 ∧ a1 ≤ 2) ∧ v = some (.int 2) ∧ ws' = (mRw ad ae cs (mKof S T) J ((ao, .inr (4, [.long n0, s0])) :: rest)))) := by
  refine mCw.of (by decide +kernel) (Nat.le_of_ble_eq_true rfl) (fun X hX hg hE => ?_)
  replace hX : mOK X RL cL_move 7 ⟨8, 2, 12, 130⟩ [(0, 15, 18, 19), (0, 15, 22, 21)] (mTy cs) := hX
  refine r_aload hX dL_move_0 rfl (r_aload_n hX dL_move_2 rfl rfl (r_iload_n hX dL_move_3 rfl rfl (r_iload_n hX dL_move_4 rfl rfl (r_iload_n hX dL_move_5 rfl rfl (r_iload hX dL_move_6 rfl (r_callV hX (z_X2_move ad cs S T (mMd ae cs J ((ao, .inr (4, [.long n0, s0])) :: rest)) hS _ h0 _ h1 _ h2 _) kv_L_41 0 rfl rfl rfl rfl (Nat.le_of_ble_eq_true rfl) ⟨(Nat.le_of_ble_eq_true rfl), (Nat.le_of_ble_eq_true rfl)⟩ ⟨(Nat.le_of_ble_eq_true rfl), (Nat.le_of_ble_eq_true rfl)⟩ dL_move_8 (fun E ws9 z => ?_) (fun v9 ws9 h9 => ?_)))))))
  · obtain ⟨rfl, ⟨rfl, zi⟩ | ⟨rfl, zi, za⟩⟩ := z
    ·
      refine r_catch1 hX rfl (by decide) kl_L_19 kca_I (fun q => ?_)
      refine r_astore hX dL_move_18 (by decide) rfl (r_iconst (v := 1) hX dL_move_20 (by decide) ?_)
      exact r_iret hX hE dL_move_21 (Nat.le_of_ble_eq_true rfl) (Nat.le_of_ble_eq_true rfl) (Or.inr (Or.inl ⟨zi, rfl, rfl⟩))
    ·
      refine r_catch2 hX hg (by decide) kl_L_19 rfl (by decide) kl_L_21 (fun q => ?_)
      refine r_astore hX dL_move_22 (by decide) rfl (r_iconst (v := 2) hX dL_move_24 (by decide) ?_)
      exact r_iret hX hE dL_move_25 (Nat.le_of_ble_eq_true rfl) (Nat.le_of_ble_eq_true rfl) (Or.inr (Or.inr ⟨zi, za, rfl, rfl⟩))
  obtain ⟨hg9, rfl, hw9⟩ := h9
  subst ws9
  dsimp only [mPush]
  refine r_i2l hX dL_move_11 (r_putN hX kg_L_13 21 rfl rfl rfl rfl (Nat.le_of_ble_eq_true rfl) dL_move_12 (r_goto (tgt := 26) hX dL_move_15 (by decide) (r_iconst (v := 0) hX dL_move_26 (by decide) ?_)))
  exact r_iret hX hE dL_move_27 (Nat.le_of_ble_eq_true rfl) (Nat.le_of_ble_eq_true rfl) (Or.inl ⟨hg9, rfl, rfl⟩)
set_option maxHeartbeats 1000000 in
theorem z_L_momentOf (ad ae : Nat → Nat) (cs : ClassId × ClassId × ClassId) (S : mS) (T : mT2) (J : mJ) (rest : va_W) (hS : sWF S) (ao : Nat) (n0 : Int64) (s0 : Value) (a0 : Int) (h0 : rJ a0) (a1 : Int) (h1 : rJ a1)  : mCw (mTy cs) yL_momentOf cL_momentOf 5 (some .int) [(0, 11, 14, 19)] ⟨8, 2, 12, 125⟩ [.ref (ad 0), .int (iZ a0), .int (iZ a1), .ref ao] (mRw ad ae cs (mKof S T) J ((ao, .inr (4, [.long n0, s0])) :: rest)) (fun v ws' => ((((0 ≤ a0 ∧ a0 < 4) ∧ (0 ≤ a1 ∧ a1 < 4)) ∧ (0 ≤ (0 : Int))) ∧ v = some (.int 0) ∧ ws' = (mRw ad ae cs (mKof (oNum S a0.toNat ((sse S a1.toNat - sow S a1.toNat) * 1000000000 + sna S a1.toNat)).2 T) J ((ao, .inr (4, [.long (iZ (oNum S a0.toNat ((sse S a1.toNat - sow S a1.toNat) * 1000000000 + sna S a1.toNat)).1).toInt64, s0])) :: rest))) ∨ (¬ ((0 ≤ a0 ∧ a0 < 4) ∧ (0 ≤ a1 ∧ a1 < 4)) ∧ v = some (.int 1) ∧ ws' = (mRw ad ae cs (mKof S T) J ((ao, .inr (4, [.long n0, s0])) :: rest))) ∨ (((0 ≤ a0 ∧ a0 < 4) ∧ (0 ≤ a1 ∧ a1 < 4)) ∧ ¬ (0 ≤ (0 : Int)) ∧ v = some (.int 2) ∧ ws' = (mRw ad ae cs (mKof S T) J ((ao, .inr (4, [.long n0, s0])) :: rest)))) := by
  refine mCw.of (by decide +kernel) (Nat.le_of_ble_eq_true rfl) (fun X hX hg hE => ?_)
  replace hX : mOK X RL cL_momentOf 5 ⟨8, 2, 12, 125⟩ [(0, 11, 14, 19)] (mTy cs) := hX
  refine r_aload_n hX dL_momentOf_0 rfl rfl (r_aload_n hX dL_momentOf_1 rfl rfl (r_iload_n hX dL_momentOf_2 rfl rfl (r_iload_n hX dL_momentOf_3 rfl rfl (r_callV hX (z_X2_momentOf ad cs S T (mMd ae cs J ((ao, .inr (4, [.long n0, s0])) :: rest)) hS _ h0 _ h1) kv_L_45 0 rfl rfl rfl rfl (Nat.le_of_ble_eq_true rfl) ⟨(Nat.le_of_ble_eq_true rfl), (Nat.le_of_ble_eq_true rfl)⟩ ⟨(Nat.le_of_ble_eq_true rfl), (Nat.le_of_ble_eq_true rfl)⟩ dL_momentOf_4 (fun E ws9 z => ?_) (fun v9 ws9 h9 => ?_)))))
  · obtain ⟨rfl, ⟨rfl, zi⟩ | ⟨rfl, zi, za⟩⟩ := z
    ·
      refine r_catch1 hX rfl (by decide) kl_L_19 kca_I (fun q => ?_)
      refine r_astore hX dL_momentOf_14 (by decide) rfl (r_iconst (v := 1) hX dL_momentOf_16 (by decide) ?_)
      exact r_iret hX hE dL_momentOf_17 (Nat.le_of_ble_eq_true rfl) (Nat.le_of_ble_eq_true rfl) (Or.inr (Or.inl ⟨zi, rfl, rfl⟩))
    · exact absurd (by decide) za
  obtain ⟨hg9, rfl, hw9⟩ := h9
  subst ws9
  dsimp only [mPush]
  refine r_i2l hX dL_momentOf_7 (r_putN hX kg_L_13 21 rfl rfl rfl rfl (Nat.le_of_ble_eq_true rfl) dL_momentOf_8 (r_goto (tgt := 18) hX dL_momentOf_11 (by decide) (r_iconst (v := 0) hX dL_momentOf_18 (by decide) ?_)))
  exact r_iret hX hE dL_momentOf_19 (Nat.le_of_ble_eq_true rfl) (Nat.le_of_ble_eq_true rfl) (Or.inl ⟨hg9, rfl, rfl⟩)
set_option maxHeartbeats 1000000 in
theorem z_L_ofMoment (ad ae : Nat → Nat) (cs : ClassId × ClassId × ClassId) (S : mS) (T : mT2) (J : mJ) (rest : va_W) (hS : sWF S) (ao : Nat) (n0 : Int64) (s0 : Value) (a0 : Int) (h0 : rJ a0) (b1 : Bool)  : mCw (mTy cs) yL_ofMoment cL_ofMoment 5 (some .int) [(0, 11, 14, 19)] ⟨8, 1, 6, 125⟩ [.ref (ad 0), .int (iZ a0), .int (b2i b1), .ref ao] (mRw ad ae cs (mKof S T) J ((ao, .inr (4, [.long n0, s0])) :: rest)) (fun v ws' => ((((0 ≤ a0 ∧ a0 < 4)) ∧ (0 ≤ (0 : Int))) ∧ v = some (.int 0) ∧ ws' = (mRw ad ae cs (mKof S T) J ((ao, .inr (4, [.long (iZ (cond b1 (snu S a0.toNat % 1000000000) (snu S a0.toNat / 1000000000))).toInt64, s0])) :: rest))) ∨ (¬ ((0 ≤ a0 ∧ a0 < 4)) ∧ v = some (.int 1) ∧ ws' = (mRw ad ae cs (mKof S T) J ((ao, .inr (4, [.long n0, s0])) :: rest))) ∨ (((0 ≤ a0 ∧ a0 < 4)) ∧ ¬ (0 ≤ (0 : Int)) ∧ v = some (.int 2) ∧ ws' = (mRw ad ae cs (mKof S T) J ((ao, .inr (4, [.long n0, s0])) :: rest)))) := by
  refine mCw.of (by decide +kernel) (Nat.le_of_ble_eq_true rfl) (fun X hX hg hE => ?_)
  replace hX : mOK X RL cL_ofMoment 5 ⟨8, 1, 6, 125⟩ [(0, 11, 14, 19)] (mTy cs) := hX
  refine r_aload_n hX dL_ofMoment_0 rfl rfl (r_aload_n hX dL_ofMoment_1 rfl rfl (r_iload_n hX dL_ofMoment_2 rfl rfl (r_iload_n hX dL_ofMoment_3 rfl rfl (r_callV hX (z_X2_ofMoment ad cs S T (mMd ae cs J ((ao, .inr (4, [.long n0, s0])) :: rest)) hS _ h0 _) kv_L_48 0 rfl rfl rfl rfl (Nat.le_of_ble_eq_true rfl) ⟨(Nat.le_of_ble_eq_true rfl), (Nat.le_of_ble_eq_true rfl)⟩ ⟨(Nat.le_of_ble_eq_true rfl), (Nat.le_of_ble_eq_true rfl)⟩ dL_ofMoment_4 (fun E ws9 z => ?_) (fun v9 ws9 h9 => ?_)))))
  · obtain ⟨rfl, ⟨rfl, zi⟩ | ⟨rfl, zi, za⟩⟩ := z
    ·
      refine r_catch1 hX rfl (by decide) kl_L_19 kca_I (fun q => ?_)
      refine r_astore hX dL_ofMoment_14 (by decide) rfl (r_iconst (v := 1) hX dL_ofMoment_16 (by decide) ?_)
      exact r_iret hX hE dL_ofMoment_17 (Nat.le_of_ble_eq_true rfl) (Nat.le_of_ble_eq_true rfl) (Or.inr (Or.inl ⟨zi, rfl, rfl⟩))
    · exact absurd (by decide) za
  obtain ⟨hg9, rfl, hw9⟩ := h9
  subst ws9
  dsimp only [mPush]
  refine r_i2l hX dL_ofMoment_7 (r_putN hX kg_L_13 21 rfl rfl rfl rfl (Nat.le_of_ble_eq_true rfl) dL_ofMoment_8 (r_goto (tgt := 18) hX dL_ofMoment_11 (by decide) (r_iconst (v := 0) hX dL_ofMoment_18 (by decide) ?_)))
  exact r_iret hX hE dL_ofMoment_19 (Nat.le_of_ble_eq_true rfl) (Nat.le_of_ble_eq_true rfl) (Or.inl ⟨hg9, rfl, rfl⟩)
set_option maxHeartbeats 1000000 in
theorem z_L_orderMoment (ad ae : Nat → Nat) (cs : ClassId × ClassId × ClassId) (S : mS) (T : mT2) (J : mJ) (rest : va_W) (hS : sWF S) (ao : Nat) (n0 : Int64) (s0 : Value) (a0 : Int) (h0 : rJ a0) (a1 : Int) (h1 : rJ a1)  : mCw (mTy cs) yL_orderMoment cL_orderMoment 5 (some .int) [(0, 11, 14, 19)] ⟨8, 2, 12, 125⟩ [.ref (ad 0), .int (iZ a0), .int (iZ a1), .ref ao] (mRw ad ae cs (mKof S T) J ((ao, .inr (4, [.long n0, s0])) :: rest)) (fun v ws' => ((((0 ≤ a0 ∧ a0 < 4) ∧ (0 ≤ a1 ∧ a1 < 4)) ∧ (0 ≤ (0 : Int))) ∧ v = some (.int 0) ∧ ws' = (mRw ad ae cs (mKof S T) J ((ao, .inr (4, [.long (iZ (cmpZ (snu S a0.toNat) (snu S a1.toNat))).toInt64, s0])) :: rest))) ∨ (¬ ((0 ≤ a0 ∧ a0 < 4) ∧ (0 ≤ a1 ∧ a1 < 4)) ∧ v = some (.int 1) ∧ ws' = (mRw ad ae cs (mKof S T) J ((ao, .inr (4, [.long n0, s0])) :: rest))) ∨ (((0 ≤ a0 ∧ a0 < 4) ∧ (0 ≤ a1 ∧ a1 < 4)) ∧ ¬ (0 ≤ (0 : Int)) ∧ v = some (.int 2) ∧ ws' = (mRw ad ae cs (mKof S T) J ((ao, .inr (4, [.long n0, s0])) :: rest)))) := by
  refine mCw.of (by decide +kernel) (Nat.le_of_ble_eq_true rfl) (fun X hX hg hE => ?_)
  replace hX : mOK X RL cL_orderMoment 5 ⟨8, 2, 12, 125⟩ [(0, 11, 14, 19)] (mTy cs) := hX
  refine r_aload_n hX dL_orderMoment_0 rfl rfl (r_aload_n hX dL_orderMoment_1 rfl rfl (r_iload_n hX dL_orderMoment_2 rfl rfl (r_iload_n hX dL_orderMoment_3 rfl rfl (r_callV hX (z_X2_orderMoment ad cs S T (mMd ae cs J ((ao, .inr (4, [.long n0, s0])) :: rest)) hS _ h0 _ h1) kv_L_60 0 rfl rfl rfl rfl (Nat.le_of_ble_eq_true rfl) ⟨(Nat.le_of_ble_eq_true rfl), (Nat.le_of_ble_eq_true rfl)⟩ ⟨(Nat.le_of_ble_eq_true rfl), (Nat.le_of_ble_eq_true rfl)⟩ dL_orderMoment_4 (fun E ws9 z => ?_) (fun v9 ws9 h9 => ?_)))))
  · obtain ⟨rfl, ⟨rfl, zi⟩ | ⟨rfl, zi, za⟩⟩ := z
    ·
      refine r_catch1 hX rfl (by decide) kl_L_19 kca_I (fun q => ?_)
      refine r_astore hX dL_orderMoment_14 (by decide) rfl (r_iconst (v := 1) hX dL_orderMoment_16 (by decide) ?_)
      exact r_iret hX hE dL_orderMoment_17 (Nat.le_of_ble_eq_true rfl) (Nat.le_of_ble_eq_true rfl) (Or.inr (Or.inl ⟨zi, rfl, rfl⟩))
    · exact absurd (by decide) za
  obtain ⟨hg9, rfl, hw9⟩ := h9
  subst ws9
  dsimp only [mPush]
  refine r_i2l hX dL_orderMoment_7 (r_putN hX kg_L_13 21 rfl rfl rfl rfl (Nat.le_of_ble_eq_true rfl) dL_orderMoment_8 (r_goto (tgt := 18) hX dL_orderMoment_11 (by decide) (r_iconst (v := 0) hX dL_orderMoment_18 (by decide) ?_)))
  exact r_iret hX hE dL_orderMoment_19 (Nat.le_of_ble_eq_true rfl) (Nat.le_of_ble_eq_true rfl) (Or.inl ⟨hg9, rfl, rfl⟩)
set_option maxHeartbeats 1000000 in
theorem z_L_isMoment (ad ae : Nat → Nat) (cs : ClassId × ClassId × ClassId) (S : mS) (T : mT2) (J : mJ) (rest : va_W) (hS : sWF S) (ao : Nat) (n0 : Int64) (s0 : Value) (a0 : Int) (h0 : rJ a0) (a1 : Int) (h1 : rJ a1) (a2 : Int) (h2 : rJ a2)  : mCw (mTy cs) yL_isMoment cL_isMoment 6 (some .int) [(0, 20, 23, 19), (0, 20, 27, 21)] ⟨9, 3, 18, 149⟩ [.ref (ad 0), .int (iZ a0), .int (iZ a1), .int (iZ a2), .ref ao] (mRw ad ae cs (mKof S T) J ((ao, .inr (4, [.long n0, s0])) :: rest)) (fun v ws' => ((((0 ≤ a0 ∧ a0 < 4) ∧ (0 ≤ a1 ∧ a1 < 4)) ∧ (0 ≤ a2 ∧ a2 ≤ 2)) ∧ v = some (.int 0) ∧ ws' = (mRw ad ae cs (mKof S T) J ((ao, .inr (4, [.long (cond (zIs (cmpZ (snu S a0.toNat) (snu S a1.toNat)) a2) 1 0), s0])) :: rest))) ∨ (¬ ((0 ≤ a0 ∧ a0 < 4) ∧ (0 ≤ a1 ∧ a1 < 4)) ∧ v = some (.int 1) ∧ ws' = (mRw ad ae cs (mKof S T) J ((ao, .inr (4, [.long n0, s0])) :: rest))) ∨ (((0 ≤ a0 ∧ a0 < 4) ∧ (0 ≤ a1 ∧ a1 < 4)) ∧ ¬ (0 ≤ a2 ∧ a2 ≤ 2) ∧ v = some (.int 2) ∧ ws' = (mRw ad ae cs (mKof S T) J ((ao, .inr (4, [.long n0, s0])) :: rest)))) := by
  refine mCw.of (by decide +kernel) (Nat.le_of_ble_eq_true rfl) (fun X hX hg hE => ?_)
  replace hX : mOK X RL cL_isMoment 6 ⟨9, 3, 18, 149⟩ [(0, 20, 23, 19), (0, 20, 27, 21)] (mTy cs) := hX
  refine r_aload hX dL_isMoment_0 rfl (r_aload_n hX dL_isMoment_2 rfl rfl (r_iload_n hX dL_isMoment_3 rfl rfl (r_iload_n hX dL_isMoment_4 rfl rfl (r_iload_n hX dL_isMoment_5 rfl rfl (r_callV hX (z_X2_isMoment ad cs S T (mMd ae cs J ((ao, .inr (4, [.long n0, s0])) :: rest)) hS _ h0 _ h1 _ h2) kv_L_63 0 rfl rfl rfl rfl (Nat.le_of_ble_eq_true rfl) ⟨(Nat.le_of_ble_eq_true rfl), (Nat.le_of_ble_eq_true rfl)⟩ ⟨(Nat.le_of_ble_eq_true rfl), (Nat.le_of_ble_eq_true rfl)⟩ dL_isMoment_6 (fun E ws9 z => ?_) (fun v9 ws9 h9 => ?_))))))
  · obtain ⟨rfl, ⟨rfl, zi⟩ | ⟨rfl, zi, za⟩⟩ := z
    ·
      refine r_catch1 hX rfl (by decide) kl_L_19 kca_I (fun q => ?_)
      refine r_astore hX dL_isMoment_23 (by decide) rfl (r_iconst (v := 1) hX dL_isMoment_25 (by decide) ?_)
      exact r_iret hX hE dL_isMoment_26 (Nat.le_of_ble_eq_true rfl) (Nat.le_of_ble_eq_true rfl) (Or.inr (Or.inl ⟨zi, rfl, rfl⟩))
    ·
      refine r_catch2 hX hg (by decide) kl_L_19 rfl (by decide) kl_L_21 (fun q => ?_)
      refine r_astore hX dL_isMoment_27 (by decide) rfl (r_iconst (v := 2) hX dL_isMoment_29 (by decide) ?_)
      exact r_iret hX hE dL_isMoment_30 (Nat.le_of_ble_eq_true rfl) (Nat.le_of_ble_eq_true rfl) (Or.inr (Or.inr ⟨zi, za, rfl, rfl⟩))
  obtain ⟨hg9, rfl, hw9⟩ := h9
  subst ws9
  dsimp only [mPush]
  refine r_if_eqB (tgt := 16) hX dL_isMoment_9 (by decide) (fun c => ?_) (fun c => ?_)
  · refine r_lconst (v := 0) hX dL_isMoment_16 (by decide) (r_putN hX kg_L_13 21 rfl rfl rfl rfl (Nat.le_of_ble_eq_true rfl) dL_isMoment_17 (r_goto (tgt := 31) hX dL_isMoment_20 (by decide) (r_iconst (v := 0) hX dL_isMoment_31 (by decide) ?_)))
    exact r_iret hX hE dL_isMoment_32 (Nat.le_of_ble_eq_true rfl) (Nat.le_of_ble_eq_true rfl) (Or.inl ⟨hg9, rfl, by rw [c]; rfl⟩)
  · refine r_lconst (v := 1) hX dL_isMoment_12 (by decide) (r_goto (tgt := 17) hX dL_isMoment_13 (by decide) (r_putN hX kg_L_13 21 rfl rfl rfl rfl (Nat.le_of_ble_eq_true rfl) dL_isMoment_17 (r_goto (tgt := 31) hX dL_isMoment_20 (by decide) (r_iconst (v := 0) hX dL_isMoment_31 (by decide) ?_))))
    exact r_iret hX hE dL_isMoment_32 (Nat.le_of_ble_eq_true rfl) (Nat.le_of_ble_eq_true rfl) (Or.inl ⟨hg9, rfl, by rw [c]; rfl⟩)
set_option maxHeartbeats 1000000 in
theorem z_L_copyMoment (ad ae : Nat → Nat) (cs : ClassId × ClassId × ClassId) (S : mS) (T : mT2) (J : mJ) (rest : va_W) (hS : sWF S) (ao : Nat) (n0 : Int64) (s0 : Value) (a0 : Int) (h0 : rJ a0) (a1 : Int) (h1 : rJ a1)  : mCw (mTy cs) yL_copyMoment cL_copyMoment 5 (some .int) [(0, 11, 14, 19)] ⟨8, 2, 12, 125⟩ [.ref (ad 0), .int (iZ a0), .int (iZ a1), .ref ao] (mRw ad ae cs (mKof S T) J ((ao, .inr (4, [.long n0, s0])) :: rest)) (fun v ws' => ((((0 ≤ a0 ∧ a0 < 4) ∧ (0 ≤ a1 ∧ a1 < 4)) ∧ (0 ≤ (0 : Int))) ∧ v = some (.int 0) ∧ ws' = (mRw ad ae cs (mKof (oNum S a0.toNat (snu S a1.toNat)).2 T) J ((ao, .inr (4, [.long (iZ (oNum S a0.toNat (snu S a1.toNat)).1).toInt64, s0])) :: rest))) ∨ (¬ ((0 ≤ a0 ∧ a0 < 4) ∧ (0 ≤ a1 ∧ a1 < 4)) ∧ v = some (.int 1) ∧ ws' = (mRw ad ae cs (mKof S T) J ((ao, .inr (4, [.long n0, s0])) :: rest))) ∨ (((0 ≤ a0 ∧ a0 < 4) ∧ (0 ≤ a1 ∧ a1 < 4)) ∧ ¬ (0 ≤ (0 : Int)) ∧ v = some (.int 2) ∧ ws' = (mRw ad ae cs (mKof S T) J ((ao, .inr (4, [.long n0, s0])) :: rest)))) := by
  refine mCw.of (by decide +kernel) (Nat.le_of_ble_eq_true rfl) (fun X hX hg hE => ?_)
  replace hX : mOK X RL cL_copyMoment 5 ⟨8, 2, 12, 125⟩ [(0, 11, 14, 19)] (mTy cs) := hX
  refine r_aload_n hX dL_copyMoment_0 rfl rfl (r_aload_n hX dL_copyMoment_1 rfl rfl (r_iload_n hX dL_copyMoment_2 rfl rfl (r_iload_n hX dL_copyMoment_3 rfl rfl (r_callV hX (z_X2_copyMoment ad cs S T (mMd ae cs J ((ao, .inr (4, [.long n0, s0])) :: rest)) hS _ h0 _ h1) kv_L_67 0 rfl rfl rfl rfl (Nat.le_of_ble_eq_true rfl) ⟨(Nat.le_of_ble_eq_true rfl), (Nat.le_of_ble_eq_true rfl)⟩ ⟨(Nat.le_of_ble_eq_true rfl), (Nat.le_of_ble_eq_true rfl)⟩ dL_copyMoment_4 (fun E ws9 z => ?_) (fun v9 ws9 h9 => ?_)))))
  · obtain ⟨rfl, ⟨rfl, zi⟩ | ⟨rfl, zi, za⟩⟩ := z
    ·
      refine r_catch1 hX rfl (by decide) kl_L_19 kca_I (fun q => ?_)
      refine r_astore hX dL_copyMoment_14 (by decide) rfl (r_iconst (v := 1) hX dL_copyMoment_16 (by decide) ?_)
      exact r_iret hX hE dL_copyMoment_17 (Nat.le_of_ble_eq_true rfl) (Nat.le_of_ble_eq_true rfl) (Or.inr (Or.inl ⟨zi, rfl, rfl⟩))
    · exact absurd (by decide) za
  obtain ⟨hg9, rfl, hw9⟩ := h9
  subst ws9
  dsimp only [mPush]
  refine r_i2l hX dL_copyMoment_7 (r_putN hX kg_L_13 21 rfl rfl rfl rfl (Nat.le_of_ble_eq_true rfl) dL_copyMoment_8 (r_goto (tgt := 18) hX dL_copyMoment_11 (by decide) (r_iconst (v := 0) hX dL_copyMoment_18 (by decide) ?_)))
  exact r_iret hX hE dL_copyMoment_19 (Nat.le_of_ble_eq_true rfl) (Nat.le_of_ble_eq_true rfl) (Or.inl ⟨hg9, rfl, rfl⟩)
set_option maxHeartbeats 1000000 in
theorem z_L_date (ad ae : Nat → Nat) (cs : ClassId × ClassId × ClassId) (S : mS) (T : mT2) (J : mJ) (rest : va_W) (hS : sWF S) (ao : Nat) (n0 : Int64) (s0 : Value) (a0 : Int) (h0 : rJ a0) (a1 : Int) (h1 : rJ a1) (a2 : Int) (h2 : rJ a2) (a3 : Int) (h3 : rJ a3) (a4 : Int) (h4 : rJ a4) (a5 : Int) (h5 : rJ a5)  : mCw (mTy cs) yL_date cL_date 9 (some .int) [(0, 19, 22, 19), (0, 19, 26, 21)] ⟨9, 5, 30, 154⟩ [.ref (ad 0), .int (iZ a0), .int (iZ a1), .int (iZ a2), .int (iZ a3), .int (iZ a4), .int (iZ a5), .ref ao] (mRw ad ae cs (mKof S T) J ((ao, .inr (4, [.long n0, s0])) :: rest)) (fun v ws' => ((((0 ≤ a0 ∧ a0 < 4) ∧ (0 ≤ a5 ∧ a5 < 4)) ∧ ((0 ≤ a2 ∧ a2 ≤ 9999) ∧ (0 ≤ a3 ∧ a3 ≤ 86399) ∧ (0 ≤ a4 ∧ a4 ≤ 999999999))) ∧ v = some (.int 0) ∧ ws' = (mRw ad ae cs (mKof (oDate S a0.toNat a1 a2 a3 a4 (sof S a5.toNat)).2 T) J ((ao, .inr (4, [.long (iZ (oDate S a0.toNat a1 a2 a3 a4 (sof S a5.toNat)).1).toInt64, s0])) :: rest))) ∨ (¬ ((0 ≤ a0 ∧ a0 < 4) ∧ (0 ≤ a5 ∧ a5 < 4)) ∧ v = some (.int 1) ∧ ws' = (mRw ad ae cs (mKof S T) J ((ao, .inr (4, [.long n0, s0])) :: rest))) ∨ (((0 ≤ a0 ∧ a0 < 4) ∧ (0 ≤ a5 ∧ a5 < 4)) ∧ ¬ ((0 ≤ a2 ∧ a2 ≤ 9999) ∧ (0 ≤ a3 ∧ a3 ≤ 86399) ∧ (0 ≤ a4 ∧ a4 ≤ 999999999)) ∧ v = some (.int 2) ∧ ws' = (mRw ad ae cs (mKof S T) J ((ao, .inr (4, [.long n0, s0])) :: rest)))) := by
  refine mCw.of (by decide +kernel) (Nat.le_of_ble_eq_true rfl) (fun X hX hg hE => ?_)
  replace hX : mOK X RL cL_date 9 ⟨9, 5, 30, 154⟩ [(0, 19, 22, 19), (0, 19, 26, 21)] (mTy cs) := hX
  refine r_aload hX dL_date_0 rfl (r_aload_n hX dL_date_2 rfl rfl (r_iload_n hX dL_date_3 rfl rfl (r_iload_n hX dL_date_4 rfl rfl (r_iload_n hX dL_date_5 rfl rfl (r_iload hX dL_date_6 rfl (r_iload hX dL_date_8 rfl (r_iload hX dL_date_10 rfl ?_)))))))
  refine r_callV hX (z_X2_date ad cs S T (mMd ae cs J ((ao, .inr (4, [.long n0, s0])) :: rest)) hS _ h0 _ h1 _ h2 _ h3 _ h4 _ h5) kv_L_70 0 rfl rfl rfl rfl (Nat.le_of_ble_eq_true rfl) ⟨(Nat.le_of_ble_eq_true rfl), (Nat.le_of_ble_eq_true rfl)⟩ ⟨(Nat.le_of_ble_eq_true rfl), (Nat.le_of_ble_eq_true rfl)⟩ dL_date_12 (fun E ws9 z => ?_) (fun v9 ws9 h9 => ?_)
  · obtain ⟨rfl, ⟨rfl, zi⟩ | ⟨rfl, zi, za⟩⟩ := z
    ·
      refine r_catch1 hX rfl (by decide) kl_L_19 kca_I (fun q => ?_)
      refine r_astore hX dL_date_22 (by decide) rfl (r_iconst (v := 1) hX dL_date_24 (by decide) ?_)
      exact r_iret hX hE dL_date_25 (Nat.le_of_ble_eq_true rfl) (Nat.le_of_ble_eq_true rfl) (Or.inr (Or.inl ⟨zi, rfl, rfl⟩))
    ·
      refine r_catch2 hX hg (by decide) kl_L_19 rfl (by decide) kl_L_21 (fun q => ?_)
      refine r_astore hX dL_date_26 (by decide) rfl (r_iconst (v := 2) hX dL_date_28 (by decide) ?_)
      exact r_iret hX hE dL_date_29 (Nat.le_of_ble_eq_true rfl) (Nat.le_of_ble_eq_true rfl) (Or.inr (Or.inr ⟨zi, za, rfl, rfl⟩))
  obtain ⟨hg9, rfl, hw9⟩ := h9
  subst ws9
  dsimp only [mPush]
  refine r_i2l hX dL_date_15 (r_putN hX kg_L_13 21 rfl rfl rfl rfl (Nat.le_of_ble_eq_true rfl) dL_date_16 (r_goto (tgt := 30) hX dL_date_19 (by decide) (r_iconst (v := 0) hX dL_date_30 (by decide) ?_)))
  exact r_iret hX hE dL_date_31 (Nat.le_of_ble_eq_true rfl) (Nat.le_of_ble_eq_true rfl) (Or.inl ⟨hg9, rfl, rfl⟩)
set_option maxHeartbeats 1000000 in
theorem z_L_dateOf (ad ae : Nat → Nat) (cs : ClassId × ClassId × ClassId) (S : mS) (T : mT2) (J : mJ) (rest : va_W) (hS : sWF S) (ao : Nat) (n0 : Int64) (s0 : Value) (a0 : Int) (h0 : rJ a0) (a1 : Int) (h1 : rJ a1) (a2 : Int) (h2 : rJ a2)  : mCw (mTy cs) yL_dateOf cL_dateOf 6 (some .int) [(0, 13, 16, 19)] ⟨9, 3, 18, 151⟩ [.ref (ad 0), .int (iZ a0), .int (iZ a1), .int (iZ a2), .ref ao] (mRw ad ae cs (mKof S T) J ((ao, .inr (4, [.long n0, s0])) :: rest)) (fun v ws' => ((((0 ≤ a0 ∧ a0 < 4) ∧ (0 ≤ a1 ∧ a1 < 4) ∧ (0 ≤ a2 ∧ a2 < 4)) ∧ (0 ≤ (0 : Int))) ∧ v = some (.int 0) ∧ ws' = (mRw ad ae cs (mKof (oLoc S a0.toNat (snu S a1.toNat / 1000000000 + sof S a2.toNat) (snu S a1.toNat % 1000000000) (sof S a2.toNat)).2 T) J ((ao, .inr (4, [.long (iZ (oLoc S a0.toNat (snu S a1.toNat / 1000000000 + sof S a2.toNat) (snu S a1.toNat % 1000000000) (sof S a2.toNat)).1).toInt64, s0])) :: rest))) ∨ (¬ ((0 ≤ a0 ∧ a0 < 4) ∧ (0 ≤ a1 ∧ a1 < 4) ∧ (0 ≤ a2 ∧ a2 < 4)) ∧ v = some (.int 1) ∧ ws' = (mRw ad ae cs (mKof S T) J ((ao, .inr (4, [.long n0, s0])) :: rest))) ∨ (((0 ≤ a0 ∧ a0 < 4) ∧ (0 ≤ a1 ∧ a1 < 4) ∧ (0 ≤ a2 ∧ a2 < 4)) ∧ ¬ (0 ≤ (0 : Int)) ∧ v = some (.int 2) ∧ ws' = (mRw ad ae cs (mKof S T) J ((ao, .inr (4, [.long n0, s0])) :: rest)))) := by
  refine mCw.of (by decide +kernel) (Nat.le_of_ble_eq_true rfl) (fun X hX hg hE => ?_)
  replace hX : mOK X RL cL_dateOf 6 ⟨9, 3, 18, 151⟩ [(0, 13, 16, 19)] (mTy cs) := hX
  refine r_aload hX dL_dateOf_0 rfl (r_aload_n hX dL_dateOf_2 rfl rfl (r_iload_n hX dL_dateOf_3 rfl rfl (r_iload_n hX dL_dateOf_4 rfl rfl (r_iload_n hX dL_dateOf_5 rfl rfl (r_callV hX (z_X2_dateOf ad cs S T (mMd ae cs J ((ao, .inr (4, [.long n0, s0])) :: rest)) hS _ h0 _ h1 _ h2) kv_L_74 0 rfl rfl rfl rfl (Nat.le_of_ble_eq_true rfl) ⟨(Nat.le_of_ble_eq_true rfl), (Nat.le_of_ble_eq_true rfl)⟩ ⟨(Nat.le_of_ble_eq_true rfl), (Nat.le_of_ble_eq_true rfl)⟩ dL_dateOf_6 (fun E ws9 z => ?_) (fun v9 ws9 h9 => ?_))))))
  · obtain ⟨rfl, ⟨rfl, zi⟩ | ⟨rfl, zi, za⟩⟩ := z
    ·
      refine r_catch1 hX rfl (by decide) kl_L_19 kca_I (fun q => ?_)
      refine r_astore hX dL_dateOf_16 (by decide) rfl (r_iconst (v := 1) hX dL_dateOf_18 (by decide) ?_)
      exact r_iret hX hE dL_dateOf_19 (Nat.le_of_ble_eq_true rfl) (Nat.le_of_ble_eq_true rfl) (Or.inr (Or.inl ⟨zi, rfl, rfl⟩))
    · exact absurd (by decide) za
  obtain ⟨hg9, rfl, hw9⟩ := h9
  subst ws9
  dsimp only [mPush]
  refine r_i2l hX dL_dateOf_9 (r_putN hX kg_L_13 21 rfl rfl rfl rfl (Nat.le_of_ble_eq_true rfl) dL_dateOf_10 (r_goto (tgt := 20) hX dL_dateOf_13 (by decide) (r_iconst (v := 0) hX dL_dateOf_20 (by decide) ?_)))
  exact r_iret hX hE dL_dateOf_21 (Nat.le_of_ble_eq_true rfl) (Nat.le_of_ble_eq_true rfl) (Or.inl ⟨hg9, rfl, rfl⟩)
set_option maxHeartbeats 1000000 in
theorem z_L_moveDate (ad ae : Nat → Nat) (cs : ClassId × ClassId × ClassId) (S : mS) (T : mT2) (J : mJ) (rest : va_W) (hS : sWF S) (ao : Nat) (n0 : Int64) (s0 : Value) (a0 : Int) (h0 : rJ a0) (a1 : Int) (h1 : rJ a1) (a2 : Int) (h2 : rJ a2) (b3 : Bool)  : mCw (mTy cs) yL_moveDate cL_moveDate 7 (some .int) [(0, 15, 18, 19), (0, 15, 22, 21)] ⟨8, 2, 12, 147⟩ [.ref (ad 0), .int (iZ a0), .int (iZ a1), .int (iZ a2), .int (b2i b3), .ref ao] (mRw ad ae cs (mKof S T) J ((ao, .inr (4, [.long n0, s0])) :: rest)) (fun v ws' => ((((0 ≤ a0 ∧ a0 < 4)) ∧ (0 ≤ a1 ∧ a1 ≤ 7)) ∧ v = some (.int 0) ∧ ws' = (mRw ad ae cs (mKof (oMv S a0.toNat a1 (zSg a2 b3)).2 T) J ((ao, .inr (4, [.long (iZ (oMv S a0.toNat a1 (zSg a2 b3)).1).toInt64, s0])) :: rest))) ∨ (¬ ((0 ≤ a0 ∧ a0 < 4)) ∧ v = some (.int 1) ∧ ws' = (mRw ad ae cs (mKof S T) J ((ao, .inr (4, [.long n0, s0])) :: rest))) ∨ (((0 ≤ a0 ∧ a0 < 4)) ∧ ¬ (0 ≤ a1 ∧ a1 ≤ 7) ∧ v = some (.int 2) ∧ ws' = (mRw ad ae cs (mKof S T) J ((ao, .inr (4, [.long n0, s0])) :: rest)))) := by
  refine mCw.of (by decide +kernel) (Nat.le_of_ble_eq_true rfl) (fun X hX hg hE => ?_)
  replace hX : mOK X RL cL_moveDate 7 ⟨8, 2, 12, 147⟩ [(0, 15, 18, 19), (0, 15, 22, 21)] (mTy cs) := hX
  refine r_aload hX dL_moveDate_0 rfl (r_aload_n hX dL_moveDate_2 rfl rfl (r_iload_n hX dL_moveDate_3 rfl rfl (r_iload_n hX dL_moveDate_4 rfl rfl (r_iload_n hX dL_moveDate_5 rfl rfl (r_iload hX dL_moveDate_6 rfl (r_callV hX (z_X2_moveDate ad cs S T (mMd ae cs J ((ao, .inr (4, [.long n0, s0])) :: rest)) hS _ h0 _ h1 _ h2 _) kv_L_77 0 rfl rfl rfl rfl (Nat.le_of_ble_eq_true rfl) ⟨(Nat.le_of_ble_eq_true rfl), (Nat.le_of_ble_eq_true rfl)⟩ ⟨(Nat.le_of_ble_eq_true rfl), (Nat.le_of_ble_eq_true rfl)⟩ dL_moveDate_8 (fun E ws9 z => ?_) (fun v9 ws9 h9 => ?_)))))))
  · obtain ⟨rfl, ⟨rfl, zi⟩ | ⟨rfl, zi, za⟩⟩ := z
    ·
      refine r_catch1 hX rfl (by decide) kl_L_19 kca_I (fun q => ?_)
      refine r_astore hX dL_moveDate_18 (by decide) rfl (r_iconst (v := 1) hX dL_moveDate_20 (by decide) ?_)
      exact r_iret hX hE dL_moveDate_21 (Nat.le_of_ble_eq_true rfl) (Nat.le_of_ble_eq_true rfl) (Or.inr (Or.inl ⟨zi, rfl, rfl⟩))
    ·
      refine r_catch2 hX hg (by decide) kl_L_19 rfl (by decide) kl_L_21 (fun q => ?_)
      refine r_astore hX dL_moveDate_22 (by decide) rfl (r_iconst (v := 2) hX dL_moveDate_24 (by decide) ?_)
      exact r_iret hX hE dL_moveDate_25 (Nat.le_of_ble_eq_true rfl) (Nat.le_of_ble_eq_true rfl) (Or.inr (Or.inr ⟨zi, za, rfl, rfl⟩))
  obtain ⟨hg9, rfl, hw9⟩ := h9
  subst ws9
  dsimp only [mPush]
  refine r_i2l hX dL_moveDate_11 (r_putN hX kg_L_13 21 rfl rfl rfl rfl (Nat.le_of_ble_eq_true rfl) dL_moveDate_12 (r_goto (tgt := 26) hX dL_moveDate_15 (by decide) (r_iconst (v := 0) hX dL_moveDate_26 (by decide) ?_)))
  exact r_iret hX hE dL_moveDate_27 (Nat.le_of_ble_eq_true rfl) (Nat.le_of_ble_eq_true rfl) (Or.inl ⟨hg9, rfl, rfl⟩)
set_option maxHeartbeats 1000000 in
theorem z_L_set (ad ae : Nat → Nat) (cs : ClassId × ClassId × ClassId) (S : mS) (T : mT2) (J : mJ) (rest : va_W) (hS : sWF S) (ao : Nat) (n0 : Int64) (s0 : Value) (a0 : Int) (h0 : rJ a0) (a1 : Int) (h1 : rJ a1) (a2 : Int) (h2 : rJ a2)  : mCw (mTy cs) yL_set cL_set 6 (some .int) [(0, 13, 16, 19), (0, 13, 20, 21)] ⟨8, 2, 12, 169⟩ [.ref (ad 0), .int (iZ a0), .int (iZ a1), .int (iZ a2), .ref ao] (mRw ad ae cs (mKof S T) J ((ao, .inr (4, [.long n0, s0])) :: rest)) (fun v ws' => ((((0 ≤ a0 ∧ a0 < 4)) ∧ (0 ≤ a1 ∧ a1 ≤ 7)) ∧ v = some (.int 0) ∧ ws' = (mRw ad ae cs (mKof (oSet S a0.toNat a1 a2).2 T) J ((ao, .inr (4, [.long (iZ (oSet S a0.toNat a1 a2).1).toInt64, s0])) :: rest))) ∨ (¬ ((0 ≤ a0 ∧ a0 < 4)) ∧ v = some (.int 1) ∧ ws' = (mRw ad ae cs (mKof S T) J ((ao, .inr (4, [.long n0, s0])) :: rest))) ∨ (((0 ≤ a0 ∧ a0 < 4)) ∧ ¬ (0 ≤ a1 ∧ a1 ≤ 7) ∧ v = some (.int 2) ∧ ws' = (mRw ad ae cs (mKof S T) J ((ao, .inr (4, [.long n0, s0])) :: rest)))) := by
  refine mCw.of (by decide +kernel) (Nat.le_of_ble_eq_true rfl) (fun X hX hg hE => ?_)
  replace hX : mOK X RL cL_set 6 ⟨8, 2, 12, 169⟩ [(0, 13, 16, 19), (0, 13, 20, 21)] (mTy cs) := hX
  refine r_aload hX dL_set_0 rfl (r_aload_n hX dL_set_2 rfl rfl (r_iload_n hX dL_set_3 rfl rfl (r_iload_n hX dL_set_4 rfl rfl (r_iload_n hX dL_set_5 rfl rfl (r_callV hX (z_X2_set ad cs S T (mMd ae cs J ((ao, .inr (4, [.long n0, s0])) :: rest)) hS _ h0 _ h1 _ h2) kv_L_80 0 rfl rfl rfl rfl (Nat.le_of_ble_eq_true rfl) ⟨(Nat.le_of_ble_eq_true rfl), (Nat.le_of_ble_eq_true rfl)⟩ ⟨(Nat.le_of_ble_eq_true rfl), (Nat.le_of_ble_eq_true rfl)⟩ dL_set_6 (fun E ws9 z => ?_) (fun v9 ws9 h9 => ?_))))))
  · obtain ⟨rfl, ⟨rfl, zi⟩ | ⟨rfl, zi, za⟩⟩ := z
    ·
      refine r_catch1 hX rfl (by decide) kl_L_19 kca_I (fun q => ?_)
      refine r_astore hX dL_set_16 (by decide) rfl (r_iconst (v := 1) hX dL_set_18 (by decide) ?_)
      exact r_iret hX hE dL_set_19 (Nat.le_of_ble_eq_true rfl) (Nat.le_of_ble_eq_true rfl) (Or.inr (Or.inl ⟨zi, rfl, rfl⟩))
    ·
      refine r_catch2 hX hg (by decide) kl_L_19 rfl (by decide) kl_L_21 (fun q => ?_)
      refine r_astore hX dL_set_20 (by decide) rfl (r_iconst (v := 2) hX dL_set_22 (by decide) ?_)
      exact r_iret hX hE dL_set_23 (Nat.le_of_ble_eq_true rfl) (Nat.le_of_ble_eq_true rfl) (Or.inr (Or.inr ⟨zi, za, rfl, rfl⟩))
  obtain ⟨hg9, rfl, hw9⟩ := h9
  subst ws9
  dsimp only [mPush]
  refine r_i2l hX dL_set_9 (r_putN hX kg_L_13 21 rfl rfl rfl rfl (Nat.le_of_ble_eq_true rfl) dL_set_10 (r_goto (tgt := 24) hX dL_set_13 (by decide) (r_iconst (v := 0) hX dL_set_24 (by decide) ?_)))
  exact r_iret hX hE dL_set_25 (Nat.le_of_ble_eq_true rfl) (Nat.le_of_ble_eq_true rfl) (Or.inl ⟨hg9, rfl, rfl⟩)
set_option maxHeartbeats 1000000 in
theorem z_L_anew (ad ae : Nat → Nat) (cs : ClassId × ClassId × ClassId) (S : mS) (T : mT2) (J : mJ) (rest : va_W) (hS : sWF S) (ao : Nat) (n0 : Int64) (s0 : Value) (a0 : Int) (h0 : rJ a0) (a1 : Int) (h1 : rJ a1) (b2 : Bool)  : mCw (mTy cs) yL_anew cL_anew 6 (some .int) [(0, 13, 16, 19)] ⟨9, 2, 12, 151⟩ [.ref (ad 0), .int (iZ a0), .int (iZ a1), .int (b2i b2), .ref ao] (mRw ad ae cs (mKof S T) J ((ao, .inr (4, [.long n0, s0])) :: rest)) (fun v ws' => ((((0 ≤ a0 ∧ a0 < 4) ∧ (0 ≤ a1 ∧ a1 < 4)) ∧ (0 ≤ (0 : Int))) ∧ v = some (.int 0) ∧ ws' = (mRw ad ae cs (mKof (oLoc S a0.toNat (cond b2 (sse S a0.toNat) (sse S a0.toNat - sow S a0.toNat + sof S a1.toNat)) (sna S a0.toNat) (sof S a1.toNat)).2 T) J ((ao, .inr (4, [.long (iZ (oLoc S a0.toNat (cond b2 (sse S a0.toNat) (sse S a0.toNat - sow S a0.toNat + sof S a1.toNat)) (sna S a0.toNat) (sof S a1.toNat)).1).toInt64, s0])) :: rest))) ∨ (¬ ((0 ≤ a0 ∧ a0 < 4) ∧ (0 ≤ a1 ∧ a1 < 4)) ∧ v = some (.int 1) ∧ ws' = (mRw ad ae cs (mKof S T) J ((ao, .inr (4, [.long n0, s0])) :: rest))) ∨ (((0 ≤ a0 ∧ a0 < 4) ∧ (0 ≤ a1 ∧ a1 < 4)) ∧ ¬ (0 ≤ (0 : Int)) ∧ v = some (.int 2) ∧ ws' = (mRw ad ae cs (mKof S T) J ((ao, .inr (4, [.long n0, s0])) :: rest)))) := by
  refine mCw.of (by decide +kernel) (Nat.le_of_ble_eq_true rfl) (fun X hX hg hE => ?_)
  replace hX : mOK X RL cL_anew 6 ⟨9, 2, 12, 151⟩ [(0, 13, 16, 19)] (mTy cs) := hX
  refine r_aload hX dL_anew_0 rfl (r_aload_n hX dL_anew_2 rfl rfl (r_iload_n hX dL_anew_3 rfl rfl (r_iload_n hX dL_anew_4 rfl rfl (r_iload_n hX dL_anew_5 rfl rfl (r_callV hX (z_X2_anew ad cs S T (mMd ae cs J ((ao, .inr (4, [.long n0, s0])) :: rest)) hS _ h0 _ h1 _) kv_L_83 0 rfl rfl rfl rfl (Nat.le_of_ble_eq_true rfl) ⟨(Nat.le_of_ble_eq_true rfl), (Nat.le_of_ble_eq_true rfl)⟩ ⟨(Nat.le_of_ble_eq_true rfl), (Nat.le_of_ble_eq_true rfl)⟩ dL_anew_6 (fun E ws9 z => ?_) (fun v9 ws9 h9 => ?_))))))
  · obtain ⟨rfl, ⟨rfl, zi⟩ | ⟨rfl, zi, za⟩⟩ := z
    ·
      refine r_catch1 hX rfl (by decide) kl_L_19 kca_I (fun q => ?_)
      refine r_astore hX dL_anew_16 (by decide) rfl (r_iconst (v := 1) hX dL_anew_18 (by decide) ?_)
      exact r_iret hX hE dL_anew_19 (Nat.le_of_ble_eq_true rfl) (Nat.le_of_ble_eq_true rfl) (Or.inr (Or.inl ⟨zi, rfl, rfl⟩))
    · exact absurd (by decide) za
  obtain ⟨hg9, rfl, hw9⟩ := h9
  subst ws9
  dsimp only [mPush]
  refine r_i2l hX dL_anew_9 (r_putN hX kg_L_13 21 rfl rfl rfl rfl (Nat.le_of_ble_eq_true rfl) dL_anew_10 (r_goto (tgt := 20) hX dL_anew_13 (by decide) (r_iconst (v := 0) hX dL_anew_20 (by decide) ?_)))
  exact r_iret hX hE dL_anew_21 (Nat.le_of_ble_eq_true rfl) (Nat.le_of_ble_eq_true rfl) (Or.inl ⟨hg9, rfl, rfl⟩)
set_option maxHeartbeats 1000000 in
theorem z_L_copy (ad ae : Nat → Nat) (cs : ClassId × ClassId × ClassId) (S : mS) (T : mT2) (J : mJ) (rest : va_W) (hS : sWF S) (ao : Nat) (n0 : Int64) (s0 : Value) (a0 : Int) (h0 : rJ a0) (a1 : Int) (h1 : rJ a1)  : mCw (mTy cs) yL_copy cL_copy 5 (some .int) [(0, 11, 14, 19)] ⟨8, 2, 12, 127⟩ [.ref (ad 0), .int (iZ a0), .int (iZ a1), .ref ao] (mRw ad ae cs (mKof S T) J ((ao, .inr (4, [.long n0, s0])) :: rest)) (fun v ws' => ((((0 ≤ a0 ∧ a0 < 4) ∧ (0 ≤ a1 ∧ a1 < 4)) ∧ (0 ≤ (0 : Int))) ∧ v = some (.int 0) ∧ ws' = (mRw ad ae cs (mKof (oLoc S a0.toNat (sse S a1.toNat) (sna S a1.toNat) (sow S a1.toNat)).2 T) J ((ao, .inr (4, [.long (iZ (oLoc S a0.toNat (sse S a1.toNat) (sna S a1.toNat) (sow S a1.toNat)).1).toInt64, s0])) :: rest))) ∨ (¬ ((0 ≤ a0 ∧ a0 < 4) ∧ (0 ≤ a1 ∧ a1 < 4)) ∧ v = some (.int 1) ∧ ws' = (mRw ad ae cs (mKof S T) J ((ao, .inr (4, [.long n0, s0])) :: rest))) ∨ (((0 ≤ a0 ∧ a0 < 4) ∧ (0 ≤ a1 ∧ a1 < 4)) ∧ ¬ (0 ≤ (0 : Int)) ∧ v = some (.int 2) ∧ ws' = (mRw ad ae cs (mKof S T) J ((ao, .inr (4, [.long n0, s0])) :: rest)))) := by
  refine mCw.of (by decide +kernel) (Nat.le_of_ble_eq_true rfl) (fun X hX hg hE => ?_)
  replace hX : mOK X RL cL_copy 5 ⟨8, 2, 12, 127⟩ [(0, 11, 14, 19)] (mTy cs) := hX
  refine r_aload_n hX dL_copy_0 rfl rfl (r_aload_n hX dL_copy_1 rfl rfl (r_iload_n hX dL_copy_2 rfl rfl (r_iload_n hX dL_copy_3 rfl rfl (r_callV hX (z_X2_copy ad cs S T (mMd ae cs J ((ao, .inr (4, [.long n0, s0])) :: rest)) hS _ h0 _ h1) kv_L_87 0 rfl rfl rfl rfl (Nat.le_of_ble_eq_true rfl) ⟨(Nat.le_of_ble_eq_true rfl), (Nat.le_of_ble_eq_true rfl)⟩ ⟨(Nat.le_of_ble_eq_true rfl), (Nat.le_of_ble_eq_true rfl)⟩ dL_copy_4 (fun E ws9 z => ?_) (fun v9 ws9 h9 => ?_)))))
  · obtain ⟨rfl, ⟨rfl, zi⟩ | ⟨rfl, zi, za⟩⟩ := z
    ·
      refine r_catch1 hX rfl (by decide) kl_L_19 kca_I (fun q => ?_)
      refine r_astore hX dL_copy_14 (by decide) rfl (r_iconst (v := 1) hX dL_copy_16 (by decide) ?_)
      exact r_iret hX hE dL_copy_17 (Nat.le_of_ble_eq_true rfl) (Nat.le_of_ble_eq_true rfl) (Or.inr (Or.inl ⟨zi, rfl, rfl⟩))
    · exact absurd (by decide) za
  obtain ⟨hg9, rfl, hw9⟩ := h9
  subst ws9
  dsimp only [mPush]
  refine r_i2l hX dL_copy_7 (r_putN hX kg_L_13 21 rfl rfl rfl rfl (Nat.le_of_ble_eq_true rfl) dL_copy_8 (r_goto (tgt := 18) hX dL_copy_11 (by decide) (r_iconst (v := 0) hX dL_copy_18 (by decide) ?_)))
  exact r_iret hX hE dL_copy_19 (Nat.le_of_ble_eq_true rfl) (Nat.le_of_ble_eq_true rfl) (Or.inl ⟨hg9, rfl, rfl⟩)
set_option maxHeartbeats 1000000 in
theorem z_L_ofDate (ad ae : Nat → Nat) (cs : ClassId × ClassId × ClassId) (S : mS) (T : mT2) (J : mJ) (rest : va_W) (hS : sWF S) (ao : Nat) (n0 : Int64) (s0 : Value) (a0 : Int) (h0 : rJ a0) (a1 : Int) (h1 : rJ a1)  : mCw (mTy cs) yL_ofDate cL_ofDate 5 (some .int) [(0, 11, 14, 19), (0, 11, 18, 21)] ⟨8, 2, 12, 130⟩ [.ref (ad 0), .int (iZ a0), .int (iZ a1), .ref ao] (mRw ad ae cs (mKof S T) J ((ao, .inr (4, [.long n0, s0])) :: rest)) (fun v ws' => ((((0 ≤ a0 ∧ a0 < 4)) ∧ (0 ≤ a1 ∧ a1 ≤ 12)) ∧ v = some (.int 0) ∧ ws' = (mRw ad ae cs (mKof S T) J ((ao, .inr (4, [.long (iZ (zDP (sse S a0.toNat) (sna S a0.toNat) (sow S a0.toNat) a1)).toInt64, s0])) :: rest))) ∨ (¬ ((0 ≤ a0 ∧ a0 < 4)) ∧ v = some (.int 1) ∧ ws' = (mRw ad ae cs (mKof S T) J ((ao, .inr (4, [.long n0, s0])) :: rest))) ∨ (((0 ≤ a0 ∧ a0 < 4)) ∧ ¬ (0 ≤ a1 ∧ a1 ≤ 12) ∧ v = some (.int 2) ∧ ws' = (mRw ad ae cs (mKof S T) J ((ao, .inr (4, [.long n0, s0])) :: rest)))) := by
  refine mCw.of (by decide +kernel) (Nat.le_of_ble_eq_true rfl) (fun X hX hg hE => ?_)
  replace hX : mOK X RL cL_ofDate 5 ⟨8, 2, 12, 130⟩ [(0, 11, 14, 19), (0, 11, 18, 21)] (mTy cs) := hX
  refine r_aload_n hX dL_ofDate_0 rfl rfl (r_aload_n hX dL_ofDate_1 rfl rfl (r_iload_n hX dL_ofDate_2 rfl rfl (r_iload_n hX dL_ofDate_3 rfl rfl (r_callV hX (z_X2_ofDate ad cs S T (mMd ae cs J ((ao, .inr (4, [.long n0, s0])) :: rest)) hS _ h0 _ h1) kv_L_90 0 rfl rfl rfl rfl (Nat.le_of_ble_eq_true rfl) ⟨(Nat.le_of_ble_eq_true rfl), (Nat.le_of_ble_eq_true rfl)⟩ ⟨(Nat.le_of_ble_eq_true rfl), (Nat.le_of_ble_eq_true rfl)⟩ dL_ofDate_4 (fun E ws9 z => ?_) (fun v9 ws9 h9 => ?_)))))
  · obtain ⟨rfl, ⟨rfl, zi⟩ | ⟨rfl, zi, za⟩⟩ := z
    ·
      refine r_catch1 hX rfl (by decide) kl_L_19 kca_I (fun q => ?_)
      refine r_astore hX dL_ofDate_14 (by decide) rfl (r_iconst (v := 1) hX dL_ofDate_16 (by decide) ?_)
      exact r_iret hX hE dL_ofDate_17 (Nat.le_of_ble_eq_true rfl) (Nat.le_of_ble_eq_true rfl) (Or.inr (Or.inl ⟨zi, rfl, rfl⟩))
    ·
      refine r_catch2 hX hg (by decide) kl_L_19 rfl (by decide) kl_L_21 (fun q => ?_)
      refine r_astore hX dL_ofDate_18 (by decide) rfl (r_iconst (v := 2) hX dL_ofDate_20 (by decide) ?_)
      exact r_iret hX hE dL_ofDate_21 (Nat.le_of_ble_eq_true rfl) (Nat.le_of_ble_eq_true rfl) (Or.inr (Or.inr ⟨zi, za, rfl, rfl⟩))
  obtain ⟨hg9, rfl, hw9⟩ := h9
  subst ws9
  dsimp only [mPush]
  refine r_i2l hX dL_ofDate_7 (r_putN hX kg_L_13 21 rfl rfl rfl rfl (Nat.le_of_ble_eq_true rfl) dL_ofDate_8 (r_goto (tgt := 22) hX dL_ofDate_11 (by decide) (r_iconst (v := 0) hX dL_ofDate_22 (by decide) ?_)))
  exact r_iret hX hE dL_ofDate_23 (Nat.le_of_ble_eq_true rfl) (Nat.le_of_ble_eq_true rfl) (Or.inl ⟨hg9, rfl, rfl⟩)
set_option maxHeartbeats 1000000 in
theorem z_L_orderDate (ad ae : Nat → Nat) (cs : ClassId × ClassId × ClassId) (S : mS) (T : mT2) (J : mJ) (rest : va_W) (hS : sWF S) (ao : Nat) (n0 : Int64) (s0 : Value) (a0 : Int) (h0 : rJ a0) (a1 : Int) (h1 : rJ a1)  : mCw (mTy cs) yL_orderDate cL_orderDate 5 (some .int) [(0, 11, 14, 19)] ⟨8, 2, 12, 125⟩ [.ref (ad 0), .int (iZ a0), .int (iZ a1), .ref ao] (mRw ad ae cs (mKof S T) J ((ao, .inr (4, [.long n0, s0])) :: rest)) (fun v ws' => ((((0 ≤ a0 ∧ a0 < 4) ∧ (0 ≤ a1 ∧ a1 < 4)) ∧ (0 ≤ (0 : Int))) ∧ v = some (.int 0) ∧ ws' = (mRw ad ae cs (mKof S T) J ((ao, .inr (4, [.long (iZ (zTo (sse S a0.toNat) (sna S a0.toNat) (sow S a0.toNat) (sse S a1.toNat) (sna S a1.toNat) (sow S a1.toNat))).toInt64, s0])) :: rest))) ∨ (¬ ((0 ≤ a0 ∧ a0 < 4) ∧ (0 ≤ a1 ∧ a1 < 4)) ∧ v = some (.int 1) ∧ ws' = (mRw ad ae cs (mKof S T) J ((ao, .inr (4, [.long n0, s0])) :: rest))) ∨ (((0 ≤ a0 ∧ a0 < 4) ∧ (0 ≤ a1 ∧ a1 < 4)) ∧ ¬ (0 ≤ (0 : Int)) ∧ v = some (.int 2) ∧ ws' = (mRw ad ae cs (mKof S T) J ((ao, .inr (4, [.long n0, s0])) :: rest)))) := by
  refine mCw.of (by decide +kernel) (Nat.le_of_ble_eq_true rfl) (fun X hX hg hE => ?_)
  replace hX : mOK X RL cL_orderDate 5 ⟨8, 2, 12, 125⟩ [(0, 11, 14, 19)] (mTy cs) := hX
  refine r_aload_n hX dL_orderDate_0 rfl rfl (r_aload_n hX dL_orderDate_1 rfl rfl (r_iload_n hX dL_orderDate_2 rfl rfl (r_iload_n hX dL_orderDate_3 rfl rfl (r_callV hX (z_X2_orderDate ad cs S T (mMd ae cs J ((ao, .inr (4, [.long n0, s0])) :: rest)) hS _ h0 _ h1) kv_L_93 0 rfl rfl rfl rfl (Nat.le_of_ble_eq_true rfl) ⟨(Nat.le_of_ble_eq_true rfl), (Nat.le_of_ble_eq_true rfl)⟩ ⟨(Nat.le_of_ble_eq_true rfl), (Nat.le_of_ble_eq_true rfl)⟩ dL_orderDate_4 (fun E ws9 z => ?_) (fun v9 ws9 h9 => ?_)))))
  · obtain ⟨rfl, ⟨rfl, zi⟩ | ⟨rfl, zi, za⟩⟩ := z
    ·
      refine r_catch1 hX rfl (by decide) kl_L_19 kca_I (fun q => ?_)
      refine r_astore hX dL_orderDate_14 (by decide) rfl (r_iconst (v := 1) hX dL_orderDate_16 (by decide) ?_)
      exact r_iret hX hE dL_orderDate_17 (Nat.le_of_ble_eq_true rfl) (Nat.le_of_ble_eq_true rfl) (Or.inr (Or.inl ⟨zi, rfl, rfl⟩))
    · exact absurd (by decide) za
  obtain ⟨hg9, rfl, hw9⟩ := h9
  subst ws9
  dsimp only [mPush]
  refine r_i2l hX dL_orderDate_7 (r_putN hX kg_L_13 21 rfl rfl rfl rfl (Nat.le_of_ble_eq_true rfl) dL_orderDate_8 (r_goto (tgt := 18) hX dL_orderDate_11 (by decide) (r_iconst (v := 0) hX dL_orderDate_18 (by decide) ?_)))
  exact r_iret hX hE dL_orderDate_19 (Nat.le_of_ble_eq_true rfl) (Nat.le_of_ble_eq_true rfl) (Or.inl ⟨hg9, rfl, rfl⟩)
set_option maxHeartbeats 1000000 in
theorem z_L_isDate (ad ae : Nat → Nat) (cs : ClassId × ClassId × ClassId) (S : mS) (T : mT2) (J : mJ) (rest : va_W) (hS : sWF S) (ao : Nat) (n0 : Int64) (s0 : Value) (a0 : Int) (h0 : rJ a0) (a1 : Int) (h1 : rJ a1) (a2 : Int) (h2 : rJ a2)  : mCw (mTy cs) yL_isDate cL_isDate 6 (some .int) [(0, 20, 23, 19), (0, 20, 27, 21)] ⟨8, 3, 18, 129⟩ [.ref (ad 0), .int (iZ a0), .int (iZ a1), .int (iZ a2), .ref ao] (mRw ad ae cs (mKof S T) J ((ao, .inr (4, [.long n0, s0])) :: rest)) (fun v ws' => ((((0 ≤ a0 ∧ a0 < 4) ∧ (0 ≤ a1 ∧ a1 < 4)) ∧ (0 ≤ a2 ∧ a2 ≤ 3)) ∧ v = some (.int 0) ∧ ws' = (mRw ad ae cs (mKof S T) J ((ao, .inr (4, [.long (cond (zSo (sse S a0.toNat) (sna S a0.toNat) (sow S a0.toNat) (sse S a1.toNat) (sna S a1.toNat) (sow S a1.toNat) a2) 1 0), s0])) :: rest))) ∨ (¬ ((0 ≤ a0 ∧ a0 < 4) ∧ (0 ≤ a1 ∧ a1 < 4)) ∧ v = some (.int 1) ∧ ws' = (mRw ad ae cs (mKof S T) J ((ao, .inr (4, [.long n0, s0])) :: rest))) ∨ (((0 ≤ a0 ∧ a0 < 4) ∧ (0 ≤ a1 ∧ a1 < 4)) ∧ ¬ (0 ≤ a2 ∧ a2 ≤ 3) ∧ v = some (.int 2) ∧ ws' = (mRw ad ae cs (mKof S T) J ((ao, .inr (4, [.long n0, s0])) :: rest)))) := by
  refine mCw.of (by decide +kernel) (Nat.le_of_ble_eq_true rfl) (fun X hX hg hE => ?_)
  replace hX : mOK X RL cL_isDate 6 ⟨8, 3, 18, 129⟩ [(0, 20, 23, 19), (0, 20, 27, 21)] (mTy cs) := hX
  refine r_aload hX dL_isDate_0 rfl (r_aload_n hX dL_isDate_2 rfl rfl (r_iload_n hX dL_isDate_3 rfl rfl (r_iload_n hX dL_isDate_4 rfl rfl (r_iload_n hX dL_isDate_5 rfl rfl (r_callV hX (z_X2_isDate ad cs S T (mMd ae cs J ((ao, .inr (4, [.long n0, s0])) :: rest)) hS _ h0 _ h1 _ h2) kv_L_96 0 rfl rfl rfl rfl (Nat.le_of_ble_eq_true rfl) ⟨(Nat.le_of_ble_eq_true rfl), (Nat.le_of_ble_eq_true rfl)⟩ ⟨(Nat.le_of_ble_eq_true rfl), (Nat.le_of_ble_eq_true rfl)⟩ dL_isDate_6 (fun E ws9 z => ?_) (fun v9 ws9 h9 => ?_))))))
  · obtain ⟨rfl, ⟨rfl, zi⟩ | ⟨rfl, zi, za⟩⟩ := z
    ·
      refine r_catch1 hX rfl (by decide) kl_L_19 kca_I (fun q => ?_)
      refine r_astore hX dL_isDate_23 (by decide) rfl (r_iconst (v := 1) hX dL_isDate_25 (by decide) ?_)
      exact r_iret hX hE dL_isDate_26 (Nat.le_of_ble_eq_true rfl) (Nat.le_of_ble_eq_true rfl) (Or.inr (Or.inl ⟨zi, rfl, rfl⟩))
    ·
      refine r_catch2 hX hg (by decide) kl_L_19 rfl (by decide) kl_L_21 (fun q => ?_)
      refine r_astore hX dL_isDate_27 (by decide) rfl (r_iconst (v := 2) hX dL_isDate_29 (by decide) ?_)
      exact r_iret hX hE dL_isDate_30 (Nat.le_of_ble_eq_true rfl) (Nat.le_of_ble_eq_true rfl) (Or.inr (Or.inr ⟨zi, za, rfl, rfl⟩))
  obtain ⟨hg9, rfl, hw9⟩ := h9
  subst ws9
  dsimp only [mPush]
  refine r_if_eqB (tgt := 16) hX dL_isDate_9 (by decide) (fun c => ?_) (fun c => ?_)
  · refine r_lconst (v := 0) hX dL_isDate_16 (by decide) (r_putN hX kg_L_13 21 rfl rfl rfl rfl (Nat.le_of_ble_eq_true rfl) dL_isDate_17 (r_goto (tgt := 31) hX dL_isDate_20 (by decide) (r_iconst (v := 0) hX dL_isDate_31 (by decide) ?_)))
    exact r_iret hX hE dL_isDate_32 (Nat.le_of_ble_eq_true rfl) (Nat.le_of_ble_eq_true rfl) (Or.inl ⟨hg9, rfl, by rw [c]; rfl⟩)
  · refine r_lconst (v := 1) hX dL_isDate_12 (by decide) (r_goto (tgt := 17) hX dL_isDate_13 (by decide) (r_putN hX kg_L_13 21 rfl rfl rfl rfl (Nat.le_of_ble_eq_true rfl) dL_isDate_17 (r_goto (tgt := 31) hX dL_isDate_20 (by decide) (r_iconst (v := 0) hX dL_isDate_31 (by decide) ?_))))
    exact r_iret hX hE dL_isDate_32 (Nat.le_of_ble_eq_true rfl) (Nat.le_of_ble_eq_true rfl) (Or.inl ⟨hg9, rfl, by rw [c]; rfl⟩)
set_option maxHeartbeats 1000000 in
theorem z_L_clock (ad ae : Nat → Nat) (cs : ClassId × ClassId × ClassId) (S : mS) (T : mT2) (J : mJ) (rest : va_W) (hS : sWF S) (ao : Nat) (n0 : Int64) (s0 : Value) (a0 : Int) (h0 : rJ a0) (a1 : Int) (h1 : rJ a1) (a2 : Int) (h2 : rJ a2) (a3 : Int) (h3 : rJ a3)  : mCw (mTy cs) yL_clock cL_clock 7 (some .int) [(0, 15, 18, 19), (0, 15, 22, 21)] ⟨9, 4, 24, 150⟩ [.ref (ad 0), .int (iZ a0), .int (iZ a1), .int (iZ a2), .int (iZ a3), .ref ao] (mRw ad ae cs (mKof S T) J ((ao, .inr (4, [.long n0, s0])) :: rest)) (fun v ws' => ((((0 ≤ a0 ∧ a0 < 3) ∧ (0 ≤ a3 ∧ a3 < 4)) ∧ ((0 ≤ a1 ∧ a1 ≤ 86399) ∧ (0 ≤ a2 ∧ a2 ≤ 999999999))) ∧ v = some (.int 0) ∧ ws' = (mRw ad ae cs (mKof (oClk S a0.toNat a1 a2 (sof S a3.toNat)).2 T) J ((ao, .inr (4, [.long (iZ (oClk S a0.toNat a1 a2 (sof S a3.toNat)).1).toInt64, s0])) :: rest))) ∨ (¬ ((0 ≤ a0 ∧ a0 < 3) ∧ (0 ≤ a3 ∧ a3 < 4)) ∧ v = some (.int 1) ∧ ws' = (mRw ad ae cs (mKof S T) J ((ao, .inr (4, [.long n0, s0])) :: rest))) ∨ (((0 ≤ a0 ∧ a0 < 3) ∧ (0 ≤ a3 ∧ a3 < 4)) ∧ ¬ ((0 ≤ a1 ∧ a1 ≤ 86399) ∧ (0 ≤ a2 ∧ a2 ≤ 999999999)) ∧ v = some (.int 2) ∧ ws' = (mRw ad ae cs (mKof S T) J ((ao, .inr (4, [.long n0, s0])) :: rest)))) := by
  refine mCw.of (by decide +kernel) (Nat.le_of_ble_eq_true rfl) (fun X hX hg hE => ?_)
  replace hX : mOK X RL cL_clock 7 ⟨9, 4, 24, 150⟩ [(0, 15, 18, 19), (0, 15, 22, 21)] (mTy cs) := hX
  refine r_aload hX dL_clock_0 rfl (r_aload_n hX dL_clock_2 rfl rfl (r_iload_n hX dL_clock_3 rfl rfl (r_iload_n hX dL_clock_4 rfl rfl (r_iload_n hX dL_clock_5 rfl rfl (r_iload hX dL_clock_6 rfl (r_callV hX (z_X2_clock ad cs S T (mMd ae cs J ((ao, .inr (4, [.long n0, s0])) :: rest)) hS _ h0 _ h1 _ h2 _ h3) kv_L_99 0 rfl rfl rfl rfl (Nat.le_of_ble_eq_true rfl) ⟨(Nat.le_of_ble_eq_true rfl), (Nat.le_of_ble_eq_true rfl)⟩ ⟨(Nat.le_of_ble_eq_true rfl), (Nat.le_of_ble_eq_true rfl)⟩ dL_clock_8 (fun E ws9 z => ?_) (fun v9 ws9 h9 => ?_)))))))
  · obtain ⟨rfl, ⟨rfl, zi⟩ | ⟨rfl, zi, za⟩⟩ := z
    ·
      refine r_catch1 hX rfl (by decide) kl_L_19 kca_I (fun q => ?_)
      refine r_astore hX dL_clock_18 (by decide) rfl (r_iconst (v := 1) hX dL_clock_20 (by decide) ?_)
      exact r_iret hX hE dL_clock_21 (Nat.le_of_ble_eq_true rfl) (Nat.le_of_ble_eq_true rfl) (Or.inr (Or.inl ⟨zi, rfl, rfl⟩))
    ·
      refine r_catch2 hX hg (by decide) kl_L_19 rfl (by decide) kl_L_21 (fun q => ?_)
      refine r_astore hX dL_clock_22 (by decide) rfl (r_iconst (v := 2) hX dL_clock_24 (by decide) ?_)
      exact r_iret hX hE dL_clock_25 (Nat.le_of_ble_eq_true rfl) (Nat.le_of_ble_eq_true rfl) (Or.inr (Or.inr ⟨zi, za, rfl, rfl⟩))
  obtain ⟨hg9, rfl, hw9⟩ := h9
  subst ws9
  dsimp only [mPush]
  refine r_i2l hX dL_clock_11 (r_putN hX kg_L_13 21 rfl rfl rfl rfl (Nat.le_of_ble_eq_true rfl) dL_clock_12 (r_goto (tgt := 26) hX dL_clock_15 (by decide) (r_iconst (v := 0) hX dL_clock_26 (by decide) ?_)))
  exact r_iret hX hE dL_clock_27 (Nat.le_of_ble_eq_true rfl) (Nat.le_of_ble_eq_true rfl) (Or.inl ⟨hg9, rfl, rfl⟩)
set_option maxHeartbeats 1000000 in
theorem z_L_clockOf (ad ae : Nat → Nat) (cs : ClassId × ClassId × ClassId) (S : mS) (T : mT2) (J : mJ) (rest : va_W) (hS : sWF S) (ao : Nat) (n0 : Int64) (s0 : Value) (a0 : Int) (h0 : rJ a0) (a1 : Int) (h1 : rJ a1)  : mCw (mTy cs) yL_clockOf cL_clockOf 5 (some .int) [(0, 11, 14, 19)] ⟨8, 2, 12, 127⟩ [.ref (ad 0), .int (iZ a0), .int (iZ a1), .ref ao] (mRw ad ae cs (mKof S T) J ((ao, .inr (4, [.long n0, s0])) :: rest)) (fun v ws' => ((((0 ≤ a0 ∧ a0 < 3) ∧ (0 ≤ a1 ∧ a1 < 4)) ∧ (0 ≤ (0 : Int))) ∧ v = some (.int 0) ∧ ws' = (mRw ad ae cs (mKof (oClk S a0.toNat (sse S a1.toNat) (sna S a1.toNat) (sow S a1.toNat)).2 T) J ((ao, .inr (4, [.long (iZ (oClk S a0.toNat (sse S a1.toNat) (sna S a1.toNat) (sow S a1.toNat)).1).toInt64, s0])) :: rest))) ∨ (¬ ((0 ≤ a0 ∧ a0 < 3) ∧ (0 ≤ a1 ∧ a1 < 4)) ∧ v = some (.int 1) ∧ ws' = (mRw ad ae cs (mKof S T) J ((ao, .inr (4, [.long n0, s0])) :: rest))) ∨ (((0 ≤ a0 ∧ a0 < 3) ∧ (0 ≤ a1 ∧ a1 < 4)) ∧ ¬ (0 ≤ (0 : Int)) ∧ v = some (.int 2) ∧ ws' = (mRw ad ae cs (mKof S T) J ((ao, .inr (4, [.long n0, s0])) :: rest)))) := by
  refine mCw.of (by decide +kernel) (Nat.le_of_ble_eq_true rfl) (fun X hX hg hE => ?_)
  replace hX : mOK X RL cL_clockOf 5 ⟨8, 2, 12, 127⟩ [(0, 11, 14, 19)] (mTy cs) := hX
  refine r_aload_n hX dL_clockOf_0 rfl rfl (r_aload_n hX dL_clockOf_1 rfl rfl (r_iload_n hX dL_clockOf_2 rfl rfl (r_iload_n hX dL_clockOf_3 rfl rfl (r_callV hX (z_X2_clockOf ad cs S T (mMd ae cs J ((ao, .inr (4, [.long n0, s0])) :: rest)) hS _ h0 _ h1) kv_L_102 0 rfl rfl rfl rfl (Nat.le_of_ble_eq_true rfl) ⟨(Nat.le_of_ble_eq_true rfl), (Nat.le_of_ble_eq_true rfl)⟩ ⟨(Nat.le_of_ble_eq_true rfl), (Nat.le_of_ble_eq_true rfl)⟩ dL_clockOf_4 (fun E ws9 z => ?_) (fun v9 ws9 h9 => ?_)))))
  · obtain ⟨rfl, ⟨rfl, zi⟩ | ⟨rfl, zi, za⟩⟩ := z
    ·
      refine r_catch1 hX rfl (by decide) kl_L_19 kca_I (fun q => ?_)
      refine r_astore hX dL_clockOf_14 (by decide) rfl (r_iconst (v := 1) hX dL_clockOf_16 (by decide) ?_)
      exact r_iret hX hE dL_clockOf_17 (Nat.le_of_ble_eq_true rfl) (Nat.le_of_ble_eq_true rfl) (Or.inr (Or.inl ⟨zi, rfl, rfl⟩))
    · exact absurd (by decide) za
  obtain ⟨hg9, rfl, hw9⟩ := h9
  subst ws9
  dsimp only [mPush]
  refine r_i2l hX dL_clockOf_7 (r_putN hX kg_L_13 21 rfl rfl rfl rfl (Nat.le_of_ble_eq_true rfl) dL_clockOf_8 (r_goto (tgt := 18) hX dL_clockOf_11 (by decide) (r_iconst (v := 0) hX dL_clockOf_18 (by decide) ?_)))
  exact r_iret hX hE dL_clockOf_19 (Nat.le_of_ble_eq_true rfl) (Nat.le_of_ble_eq_true rfl) (Or.inl ⟨hg9, rfl, rfl⟩)
set_option maxHeartbeats 1000000 in
theorem z_L_strike (ad ae : Nat → Nat) (cs : ClassId × ClassId × ClassId) (S : mS) (T : mT2) (J : mJ) (rest : va_W) (hS : sWF S) (ao : Nat) (n0 : Int64) (s0 : Value) (a0 : Int) (h0 : rJ a0) (a1 : Int) (h1 : rJ a1)  : mCw (mTy cs) yL_strike cL_strike 5 (some .int) [(0, 11, 14, 19)] ⟨8, 2, 12, 127⟩ [.ref (ad 0), .int (iZ a0), .int (iZ a1), .ref ao] (mRw ad ae cs (mKof S T) J ((ao, .inr (4, [.long n0, s0])) :: rest)) (fun v ws' => ((((0 ≤ a0 ∧ a0 < 4) ∧ (0 ≤ a1 ∧ a1 < 3)) ∧ (0 ≤ (0 : Int))) ∧ v = some (.int 0) ∧ ws' = (mRw ad ae cs (mKof (oLoc S a0.toNat (sse S a0.toNat / 86400 * 86400 + sse S (a1.toNat + 4)) (sna S (a1.toNat + 4)) (sow S (a1.toNat + 4))).2 T) J ((ao, .inr (4, [.long (iZ (oLoc S a0.toNat (sse S a0.toNat / 86400 * 86400 + sse S (a1.toNat + 4)) (sna S (a1.toNat + 4)) (sow S (a1.toNat + 4))).1).toInt64, s0])) :: rest))) ∨ (¬ ((0 ≤ a0 ∧ a0 < 4) ∧ (0 ≤ a1 ∧ a1 < 3)) ∧ v = some (.int 1) ∧ ws' = (mRw ad ae cs (mKof S T) J ((ao, .inr (4, [.long n0, s0])) :: rest))) ∨ (((0 ≤ a0 ∧ a0 < 4) ∧ (0 ≤ a1 ∧ a1 < 3)) ∧ ¬ (0 ≤ (0 : Int)) ∧ v = some (.int 2) ∧ ws' = (mRw ad ae cs (mKof S T) J ((ao, .inr (4, [.long n0, s0])) :: rest)))) := by
  refine mCw.of (by decide +kernel) (Nat.le_of_ble_eq_true rfl) (fun X hX hg hE => ?_)
  replace hX : mOK X RL cL_strike 5 ⟨8, 2, 12, 127⟩ [(0, 11, 14, 19)] (mTy cs) := hX
  refine r_aload_n hX dL_strike_0 rfl rfl (r_aload_n hX dL_strike_1 rfl rfl (r_iload_n hX dL_strike_2 rfl rfl (r_iload_n hX dL_strike_3 rfl rfl (r_callV hX (z_X2_strike ad cs S T (mMd ae cs J ((ao, .inr (4, [.long n0, s0])) :: rest)) hS _ h0 _ h1) kv_L_105 0 rfl rfl rfl rfl (Nat.le_of_ble_eq_true rfl) ⟨(Nat.le_of_ble_eq_true rfl), (Nat.le_of_ble_eq_true rfl)⟩ ⟨(Nat.le_of_ble_eq_true rfl), (Nat.le_of_ble_eq_true rfl)⟩ dL_strike_4 (fun E ws9 z => ?_) (fun v9 ws9 h9 => ?_)))))
  · obtain ⟨rfl, ⟨rfl, zi⟩ | ⟨rfl, zi, za⟩⟩ := z
    ·
      refine r_catch1 hX rfl (by decide) kl_L_19 kca_I (fun q => ?_)
      refine r_astore hX dL_strike_14 (by decide) rfl (r_iconst (v := 1) hX dL_strike_16 (by decide) ?_)
      exact r_iret hX hE dL_strike_17 (Nat.le_of_ble_eq_true rfl) (Nat.le_of_ble_eq_true rfl) (Or.inr (Or.inl ⟨zi, rfl, rfl⟩))
    · exact absurd (by decide) za
  obtain ⟨hg9, rfl, hw9⟩ := h9
  subst ws9
  dsimp only [mPush]
  refine r_i2l hX dL_strike_7 (r_putN hX kg_L_13 21 rfl rfl rfl rfl (Nat.le_of_ble_eq_true rfl) dL_strike_8 (r_goto (tgt := 18) hX dL_strike_11 (by decide) (r_iconst (v := 0) hX dL_strike_18 (by decide) ?_)))
  exact r_iret hX hE dL_strike_19 (Nat.le_of_ble_eq_true rfl) (Nat.le_of_ble_eq_true rfl) (Or.inl ⟨hg9, rfl, rfl⟩)
set_option maxHeartbeats 1000000 in
theorem z_L_moveClock (ad ae : Nat → Nat) (cs : ClassId × ClassId × ClassId) (S : mS) (T : mT2) (J : mJ) (rest : va_W) (hS : sWF S) (ao : Nat) (n0 : Int64) (s0 : Value) (a0 : Int) (h0 : rJ a0) (a1 : Int) (h1 : rJ a1) (a2 : Int) (h2 : rJ a2) (b3 : Bool)  : mCw (mTy cs) yL_moveClock cL_moveClock 7 (some .int) [(0, 15, 18, 19), (0, 15, 22, 21)] ⟨8, 2, 12, 131⟩ [.ref (ad 0), .int (iZ a0), .int (iZ a1), .int (iZ a2), .int (b2i b3), .ref ao] (mRw ad ae cs (mKof S T) J ((ao, .inr (4, [.long n0, s0])) :: rest)) (fun v ws' => ((((0 ≤ a0 ∧ a0 < 3)) ∧ (4 ≤ a1 ∧ a1 ≤ 7)) ∧ v = some (.int 0) ∧ ws' = (mRw ad ae cs (mKof (oClk S a0.toNat (sse S (a0.toNat + 4) + zSn (sna S (a0.toNat + 4)) a1 (zSg a2 b3)) (zNn (sna S (a0.toNat + 4)) a1 (zSg a2 b3)) (sow S (a0.toNat + 4))).2 T) J ((ao, .inr (4, [.long (iZ (oClk S a0.toNat (sse S (a0.toNat + 4) + zSn (sna S (a0.toNat + 4)) a1 (zSg a2 b3)) (zNn (sna S (a0.toNat + 4)) a1 (zSg a2 b3)) (sow S (a0.toNat + 4))).1).toInt64, s0])) :: rest))) ∨ (¬ ((0 ≤ a0 ∧ a0 < 3)) ∧ v = some (.int 1) ∧ ws' = (mRw ad ae cs (mKof S T) J ((ao, .inr (4, [.long n0, s0])) :: rest))) ∨ (((0 ≤ a0 ∧ a0 < 3)) ∧ ¬ (4 ≤ a1 ∧ a1 ≤ 7) ∧ v = some (.int 2) ∧ ws' = (mRw ad ae cs (mKof S T) J ((ao, .inr (4, [.long n0, s0])) :: rest)))) := by
  refine mCw.of (by decide +kernel) (Nat.le_of_ble_eq_true rfl) (fun X hX hg hE => ?_)
  replace hX : mOK X RL cL_moveClock 7 ⟨8, 2, 12, 131⟩ [(0, 15, 18, 19), (0, 15, 22, 21)] (mTy cs) := hX
  refine r_aload hX dL_moveClock_0 rfl (r_aload_n hX dL_moveClock_2 rfl rfl (r_iload_n hX dL_moveClock_3 rfl rfl (r_iload_n hX dL_moveClock_4 rfl rfl (r_iload_n hX dL_moveClock_5 rfl rfl (r_iload hX dL_moveClock_6 rfl (r_callV hX (z_X2_moveClock ad cs S T (mMd ae cs J ((ao, .inr (4, [.long n0, s0])) :: rest)) hS _ h0 _ h1 _ h2 _) kv_L_108 0 rfl rfl rfl rfl (Nat.le_of_ble_eq_true rfl) ⟨(Nat.le_of_ble_eq_true rfl), (Nat.le_of_ble_eq_true rfl)⟩ ⟨(Nat.le_of_ble_eq_true rfl), (Nat.le_of_ble_eq_true rfl)⟩ dL_moveClock_8 (fun E ws9 z => ?_) (fun v9 ws9 h9 => ?_)))))))
  · obtain ⟨rfl, ⟨rfl, zi⟩ | ⟨rfl, zi, za⟩⟩ := z
    ·
      refine r_catch1 hX rfl (by decide) kl_L_19 kca_I (fun q => ?_)
      refine r_astore hX dL_moveClock_18 (by decide) rfl (r_iconst (v := 1) hX dL_moveClock_20 (by decide) ?_)
      exact r_iret hX hE dL_moveClock_21 (Nat.le_of_ble_eq_true rfl) (Nat.le_of_ble_eq_true rfl) (Or.inr (Or.inl ⟨zi, rfl, rfl⟩))
    ·
      refine r_catch2 hX hg (by decide) kl_L_19 rfl (by decide) kl_L_21 (fun q => ?_)
      refine r_astore hX dL_moveClock_22 (by decide) rfl (r_iconst (v := 2) hX dL_moveClock_24 (by decide) ?_)
      exact r_iret hX hE dL_moveClock_25 (Nat.le_of_ble_eq_true rfl) (Nat.le_of_ble_eq_true rfl) (Or.inr (Or.inr ⟨zi, za, rfl, rfl⟩))
  obtain ⟨hg9, rfl, hw9⟩ := h9
  subst ws9
  dsimp only [mPush]
  refine r_i2l hX dL_moveClock_11 (r_putN hX kg_L_13 21 rfl rfl rfl rfl (Nat.le_of_ble_eq_true rfl) dL_moveClock_12 (r_goto (tgt := 26) hX dL_moveClock_15 (by decide) (r_iconst (v := 0) hX dL_moveClock_26 (by decide) ?_)))
  exact r_iret hX hE dL_moveClock_27 (Nat.le_of_ble_eq_true rfl) (Nat.le_of_ble_eq_true rfl) (Or.inl ⟨hg9, rfl, rfl⟩)
set_option maxHeartbeats 1000000 in
theorem z_L_anewClock (ad ae : Nat → Nat) (cs : ClassId × ClassId × ClassId) (S : mS) (T : mT2) (J : mJ) (rest : va_W) (hS : sWF S) (ao : Nat) (n0 : Int64) (s0 : Value) (a0 : Int) (h0 : rJ a0) (a1 : Int) (h1 : rJ a1) (b2 : Bool)  : mCw (mTy cs) yL_anewClock cL_anewClock 6 (some .int) [(0, 13, 16, 19)] ⟨9, 2, 12, 151⟩ [.ref (ad 0), .int (iZ a0), .int (iZ a1), .int (b2i b2), .ref ao] (mRw ad ae cs (mKof S T) J ((ao, .inr (4, [.long n0, s0])) :: rest)) (fun v ws' => ((((0 ≤ a0 ∧ a0 < 3) ∧ (0 ≤ a1 ∧ a1 < 4)) ∧ (0 ≤ (0 : Int))) ∧ v = some (.int 0) ∧ ws' = (mRw ad ae cs (mKof (oClk S a0.toNat (cond b2 (sse S (a0.toNat + 4)) (sse S (a0.toNat + 4) - sow S (a0.toNat + 4) + sof S a1.toNat)) (sna S (a0.toNat + 4)) (sof S a1.toNat)).2 T) J ((ao, .inr (4, [.long (iZ (oClk S a0.toNat (cond b2 (sse S (a0.toNat + 4)) (sse S (a0.toNat + 4) - sow S (a0.toNat + 4) + sof S a1.toNat)) (sna S (a0.toNat + 4)) (sof S a1.toNat)).1).toInt64, s0])) :: rest))) ∨ (¬ ((0 ≤ a0 ∧ a0 < 3) ∧ (0 ≤ a1 ∧ a1 < 4)) ∧ v = some (.int 1) ∧ ws' = (mRw ad ae cs (mKof S T) J ((ao, .inr (4, [.long n0, s0])) :: rest))) ∨ (((0 ≤ a0 ∧ a0 < 3) ∧ (0 ≤ a1 ∧ a1 < 4)) ∧ ¬ (0 ≤ (0 : Int)) ∧ v = some (.int 2) ∧ ws' = (mRw ad ae cs (mKof S T) J ((ao, .inr (4, [.long n0, s0])) :: rest)))) := by
  refine mCw.of (by decide +kernel) (Nat.le_of_ble_eq_true rfl) (fun X hX hg hE => ?_)
  replace hX : mOK X RL cL_anewClock 6 ⟨9, 2, 12, 151⟩ [(0, 13, 16, 19)] (mTy cs) := hX
  refine r_aload hX dL_anewClock_0 rfl (r_aload_n hX dL_anewClock_2 rfl rfl (r_iload_n hX dL_anewClock_3 rfl rfl (r_iload_n hX dL_anewClock_4 rfl rfl (r_iload_n hX dL_anewClock_5 rfl rfl (r_callV hX (z_X2_anewClock ad cs S T (mMd ae cs J ((ao, .inr (4, [.long n0, s0])) :: rest)) hS _ h0 _ h1 _) kv_L_111 0 rfl rfl rfl rfl (Nat.le_of_ble_eq_true rfl) ⟨(Nat.le_of_ble_eq_true rfl), (Nat.le_of_ble_eq_true rfl)⟩ ⟨(Nat.le_of_ble_eq_true rfl), (Nat.le_of_ble_eq_true rfl)⟩ dL_anewClock_6 (fun E ws9 z => ?_) (fun v9 ws9 h9 => ?_))))))
  · obtain ⟨rfl, ⟨rfl, zi⟩ | ⟨rfl, zi, za⟩⟩ := z
    ·
      refine r_catch1 hX rfl (by decide) kl_L_19 kca_I (fun q => ?_)
      refine r_astore hX dL_anewClock_16 (by decide) rfl (r_iconst (v := 1) hX dL_anewClock_18 (by decide) ?_)
      exact r_iret hX hE dL_anewClock_19 (Nat.le_of_ble_eq_true rfl) (Nat.le_of_ble_eq_true rfl) (Or.inr (Or.inl ⟨zi, rfl, rfl⟩))
    · exact absurd (by decide) za
  obtain ⟨hg9, rfl, hw9⟩ := h9
  subst ws9
  dsimp only [mPush]
  refine r_i2l hX dL_anewClock_9 (r_putN hX kg_L_13 21 rfl rfl rfl rfl (Nat.le_of_ble_eq_true rfl) dL_anewClock_10 (r_goto (tgt := 20) hX dL_anewClock_13 (by decide) (r_iconst (v := 0) hX dL_anewClock_20 (by decide) ?_)))
  exact r_iret hX hE dL_anewClock_21 (Nat.le_of_ble_eq_true rfl) (Nat.le_of_ble_eq_true rfl) (Or.inl ⟨hg9, rfl, rfl⟩)
set_option maxHeartbeats 1000000 in
theorem z_L_copyClock (ad ae : Nat → Nat) (cs : ClassId × ClassId × ClassId) (S : mS) (T : mT2) (J : mJ) (rest : va_W) (hS : sWF S) (ao : Nat) (n0 : Int64) (s0 : Value) (a0 : Int) (h0 : rJ a0) (a1 : Int) (h1 : rJ a1)  : mCw (mTy cs) yL_copyClock cL_copyClock 5 (some .int) [(0, 11, 14, 19)] ⟨8, 2, 12, 127⟩ [.ref (ad 0), .int (iZ a0), .int (iZ a1), .ref ao] (mRw ad ae cs (mKof S T) J ((ao, .inr (4, [.long n0, s0])) :: rest)) (fun v ws' => ((((0 ≤ a0 ∧ a0 < 3) ∧ (0 ≤ a1 ∧ a1 < 3)) ∧ (0 ≤ (0 : Int))) ∧ v = some (.int 0) ∧ ws' = (mRw ad ae cs (mKof (oClk S a0.toNat (sse S (a1.toNat + 4)) (sna S (a1.toNat + 4)) (sow S (a1.toNat + 4))).2 T) J ((ao, .inr (4, [.long (iZ (oClk S a0.toNat (sse S (a1.toNat + 4)) (sna S (a1.toNat + 4)) (sow S (a1.toNat + 4))).1).toInt64, s0])) :: rest))) ∨ (¬ ((0 ≤ a0 ∧ a0 < 3) ∧ (0 ≤ a1 ∧ a1 < 3)) ∧ v = some (.int 1) ∧ ws' = (mRw ad ae cs (mKof S T) J ((ao, .inr (4, [.long n0, s0])) :: rest))) ∨ (((0 ≤ a0 ∧ a0 < 3) ∧ (0 ≤ a1 ∧ a1 < 3)) ∧ ¬ (0 ≤ (0 : Int)) ∧ v = some (.int 2) ∧ ws' = (mRw ad ae cs (mKof S T) J ((ao, .inr (4, [.long n0, s0])) :: rest)))) := by
  refine mCw.of (by decide +kernel) (Nat.le_of_ble_eq_true rfl) (fun X hX hg hE => ?_)
  replace hX : mOK X RL cL_copyClock 5 ⟨8, 2, 12, 127⟩ [(0, 11, 14, 19)] (mTy cs) := hX
  refine r_aload_n hX dL_copyClock_0 rfl rfl (r_aload_n hX dL_copyClock_1 rfl rfl (r_iload_n hX dL_copyClock_2 rfl rfl (r_iload_n hX dL_copyClock_3 rfl rfl (r_callV hX (z_X2_copyClock ad cs S T (mMd ae cs J ((ao, .inr (4, [.long n0, s0])) :: rest)) hS _ h0 _ h1) kv_L_114 0 rfl rfl rfl rfl (Nat.le_of_ble_eq_true rfl) ⟨(Nat.le_of_ble_eq_true rfl), (Nat.le_of_ble_eq_true rfl)⟩ ⟨(Nat.le_of_ble_eq_true rfl), (Nat.le_of_ble_eq_true rfl)⟩ dL_copyClock_4 (fun E ws9 z => ?_) (fun v9 ws9 h9 => ?_)))))
  · obtain ⟨rfl, ⟨rfl, zi⟩ | ⟨rfl, zi, za⟩⟩ := z
    ·
      refine r_catch1 hX rfl (by decide) kl_L_19 kca_I (fun q => ?_)
      refine r_astore hX dL_copyClock_14 (by decide) rfl (r_iconst (v := 1) hX dL_copyClock_16 (by decide) ?_)
      exact r_iret hX hE dL_copyClock_17 (Nat.le_of_ble_eq_true rfl) (Nat.le_of_ble_eq_true rfl) (Or.inr (Or.inl ⟨zi, rfl, rfl⟩))
    · exact absurd (by decide) za
  obtain ⟨hg9, rfl, hw9⟩ := h9
  subst ws9
  dsimp only [mPush]
  refine r_i2l hX dL_copyClock_7 (r_putN hX kg_L_13 21 rfl rfl rfl rfl (Nat.le_of_ble_eq_true rfl) dL_copyClock_8 (r_goto (tgt := 18) hX dL_copyClock_11 (by decide) (r_iconst (v := 0) hX dL_copyClock_18 (by decide) ?_)))
  exact r_iret hX hE dL_copyClock_19 (Nat.le_of_ble_eq_true rfl) (Nat.le_of_ble_eq_true rfl) (Or.inl ⟨hg9, rfl, rfl⟩)
set_option maxHeartbeats 1000000 in
theorem z_L_ofClock (ad ae : Nat → Nat) (cs : ClassId × ClassId × ClassId) (S : mS) (T : mT2) (J : mJ) (rest : va_W) (hS : sWF S) (ao : Nat) (n0 : Int64) (s0 : Value) (a0 : Int) (h0 : rJ a0) (a1 : Int) (h1 : rJ a1)  : mCw (mTy cs) yL_ofClock cL_ofClock 5 (some .int) [(0, 11, 14, 19), (0, 11, 18, 21)] ⟨8, 2, 12, 127⟩ [.ref (ad 0), .int (iZ a0), .int (iZ a1), .ref ao] (mRw ad ae cs (mKof S T) J ((ao, .inr (4, [.long n0, s0])) :: rest)) (fun v ws' => ((((0 ≤ a0 ∧ a0 < 3)) ∧ (0 ≤ a1 ∧ a1 ≤ 5)) ∧ v = some (.int 0) ∧ ws' = (mRw ad ae cs (mKof S T) J ((ao, .inr (4, [.long (iZ (zCP (sse S (a0.toNat + 4)) (sna S (a0.toNat + 4)) (sow S (a0.toNat + 4)) a1)).toInt64, s0])) :: rest))) ∨ (¬ ((0 ≤ a0 ∧ a0 < 3)) ∧ v = some (.int 1) ∧ ws' = (mRw ad ae cs (mKof S T) J ((ao, .inr (4, [.long n0, s0])) :: rest))) ∨ (((0 ≤ a0 ∧ a0 < 3)) ∧ ¬ (0 ≤ a1 ∧ a1 ≤ 5) ∧ v = some (.int 2) ∧ ws' = (mRw ad ae cs (mKof S T) J ((ao, .inr (4, [.long n0, s0])) :: rest)))) := by
  refine mCw.of (by decide +kernel) (Nat.le_of_ble_eq_true rfl) (fun X hX hg hE => ?_)
  replace hX : mOK X RL cL_ofClock 5 ⟨8, 2, 12, 127⟩ [(0, 11, 14, 19), (0, 11, 18, 21)] (mTy cs) := hX
  refine r_aload_n hX dL_ofClock_0 rfl rfl (r_aload_n hX dL_ofClock_1 rfl rfl (r_iload_n hX dL_ofClock_2 rfl rfl (r_iload_n hX dL_ofClock_3 rfl rfl (r_callV hX (z_X2_ofClock ad cs S T (mMd ae cs J ((ao, .inr (4, [.long n0, s0])) :: rest)) hS _ h0 _ h1) kv_L_117 0 rfl rfl rfl rfl (Nat.le_of_ble_eq_true rfl) ⟨(Nat.le_of_ble_eq_true rfl), (Nat.le_of_ble_eq_true rfl)⟩ ⟨(Nat.le_of_ble_eq_true rfl), (Nat.le_of_ble_eq_true rfl)⟩ dL_ofClock_4 (fun E ws9 z => ?_) (fun v9 ws9 h9 => ?_)))))
  · obtain ⟨rfl, ⟨rfl, zi⟩ | ⟨rfl, zi, za⟩⟩ := z
    ·
      refine r_catch1 hX rfl (by decide) kl_L_19 kca_I (fun q => ?_)
      refine r_astore hX dL_ofClock_14 (by decide) rfl (r_iconst (v := 1) hX dL_ofClock_16 (by decide) ?_)
      exact r_iret hX hE dL_ofClock_17 (Nat.le_of_ble_eq_true rfl) (Nat.le_of_ble_eq_true rfl) (Or.inr (Or.inl ⟨zi, rfl, rfl⟩))
    ·
      refine r_catch2 hX hg (by decide) kl_L_19 rfl (by decide) kl_L_21 (fun q => ?_)
      refine r_astore hX dL_ofClock_18 (by decide) rfl (r_iconst (v := 2) hX dL_ofClock_20 (by decide) ?_)
      exact r_iret hX hE dL_ofClock_21 (Nat.le_of_ble_eq_true rfl) (Nat.le_of_ble_eq_true rfl) (Or.inr (Or.inr ⟨zi, za, rfl, rfl⟩))
  obtain ⟨hg9, rfl, hw9⟩ := h9
  subst ws9
  dsimp only [mPush]
  refine r_i2l hX dL_ofClock_7 (r_putN hX kg_L_13 21 rfl rfl rfl rfl (Nat.le_of_ble_eq_true rfl) dL_ofClock_8 (r_goto (tgt := 22) hX dL_ofClock_11 (by decide) (r_iconst (v := 0) hX dL_ofClock_22 (by decide) ?_)))
  exact r_iret hX hE dL_ofClock_23 (Nat.le_of_ble_eq_true rfl) (Nat.le_of_ble_eq_true rfl) (Or.inl ⟨hg9, rfl, rfl⟩)
set_option maxHeartbeats 1000000 in
theorem z_L_orderClock (ad ae : Nat → Nat) (cs : ClassId × ClassId × ClassId) (S : mS) (T : mT2) (J : mJ) (rest : va_W) (hS : sWF S) (ao : Nat) (n0 : Int64) (s0 : Value) (a0 : Int) (h0 : rJ a0) (a1 : Int) (h1 : rJ a1)  : mCw (mTy cs) yL_orderClock cL_orderClock 5 (some .int) [(0, 11, 14, 19)] ⟨8, 2, 12, 125⟩ [.ref (ad 0), .int (iZ a0), .int (iZ a1), .ref ao] (mRw ad ae cs (mKof S T) J ((ao, .inr (4, [.long n0, s0])) :: rest)) (fun v ws' => ((((0 ≤ a0 ∧ a0 < 3) ∧ (0 ≤ a1 ∧ a1 < 3)) ∧ (0 ≤ (0 : Int))) ∧ v = some (.int 0) ∧ ws' = (mRw ad ae cs (mKof S T) J ((ao, .inr (4, [.long (iZ (zTo (sse S (a0.toNat + 4)) (sna S (a0.toNat + 4)) (sow S (a0.toNat + 4)) (sse S (a1.toNat + 4)) (sna S (a1.toNat + 4)) (sow S (a1.toNat + 4)))).toInt64, s0])) :: rest))) ∨ (¬ ((0 ≤ a0 ∧ a0 < 3) ∧ (0 ≤ a1 ∧ a1 < 3)) ∧ v = some (.int 1) ∧ ws' = (mRw ad ae cs (mKof S T) J ((ao, .inr (4, [.long n0, s0])) :: rest))) ∨ (((0 ≤ a0 ∧ a0 < 3) ∧ (0 ≤ a1 ∧ a1 < 3)) ∧ ¬ (0 ≤ (0 : Int)) ∧ v = some (.int 2) ∧ ws' = (mRw ad ae cs (mKof S T) J ((ao, .inr (4, [.long n0, s0])) :: rest)))) := by
  refine mCw.of (by decide +kernel) (Nat.le_of_ble_eq_true rfl) (fun X hX hg hE => ?_)
  replace hX : mOK X RL cL_orderClock 5 ⟨8, 2, 12, 125⟩ [(0, 11, 14, 19)] (mTy cs) := hX
  refine r_aload_n hX dL_orderClock_0 rfl rfl (r_aload_n hX dL_orderClock_1 rfl rfl (r_iload_n hX dL_orderClock_2 rfl rfl (r_iload_n hX dL_orderClock_3 rfl rfl (r_callV hX (z_X2_orderClock ad cs S T (mMd ae cs J ((ao, .inr (4, [.long n0, s0])) :: rest)) hS _ h0 _ h1) kv_L_120 0 rfl rfl rfl rfl (Nat.le_of_ble_eq_true rfl) ⟨(Nat.le_of_ble_eq_true rfl), (Nat.le_of_ble_eq_true rfl)⟩ ⟨(Nat.le_of_ble_eq_true rfl), (Nat.le_of_ble_eq_true rfl)⟩ dL_orderClock_4 (fun E ws9 z => ?_) (fun v9 ws9 h9 => ?_)))))
  · obtain ⟨rfl, ⟨rfl, zi⟩ | ⟨rfl, zi, za⟩⟩ := z
    ·
      refine r_catch1 hX rfl (by decide) kl_L_19 kca_I (fun q => ?_)
      refine r_astore hX dL_orderClock_14 (by decide) rfl (r_iconst (v := 1) hX dL_orderClock_16 (by decide) ?_)
      exact r_iret hX hE dL_orderClock_17 (Nat.le_of_ble_eq_true rfl) (Nat.le_of_ble_eq_true rfl) (Or.inr (Or.inl ⟨zi, rfl, rfl⟩))
    · exact absurd (by decide) za
  obtain ⟨hg9, rfl, hw9⟩ := h9
  subst ws9
  dsimp only [mPush]
  refine r_i2l hX dL_orderClock_7 (r_putN hX kg_L_13 21 rfl rfl rfl rfl (Nat.le_of_ble_eq_true rfl) dL_orderClock_8 (r_goto (tgt := 18) hX dL_orderClock_11 (by decide) (r_iconst (v := 0) hX dL_orderClock_18 (by decide) ?_)))
  exact r_iret hX hE dL_orderClock_19 (Nat.le_of_ble_eq_true rfl) (Nat.le_of_ble_eq_true rfl) (Or.inl ⟨hg9, rfl, rfl⟩)
set_option maxHeartbeats 1000000 in
theorem z_L_isClock (ad ae : Nat → Nat) (cs : ClassId × ClassId × ClassId) (S : mS) (T : mT2) (J : mJ) (rest : va_W) (hS : sWF S) (ao : Nat) (n0 : Int64) (s0 : Value) (a0 : Int) (h0 : rJ a0) (a1 : Int) (h1 : rJ a1) (a2 : Int) (h2 : rJ a2)  : mCw (mTy cs) yL_isClock cL_isClock 6 (some .int) [(0, 20, 23, 19), (0, 20, 27, 21)] ⟨8, 3, 18, 129⟩ [.ref (ad 0), .int (iZ a0), .int (iZ a1), .int (iZ a2), .ref ao] (mRw ad ae cs (mKof S T) J ((ao, .inr (4, [.long n0, s0])) :: rest)) (fun v ws' => ((((0 ≤ a0 ∧ a0 < 3) ∧ (0 ≤ a1 ∧ a1 < 3)) ∧ (0 ≤ a2 ∧ a2 ≤ 3)) ∧ v = some (.int 0) ∧ ws' = (mRw ad ae cs (mKof S T) J ((ao, .inr (4, [.long (cond (zSo (sse S (a0.toNat + 4)) (sna S (a0.toNat + 4)) (sow S (a0.toNat + 4)) (sse S (a1.toNat + 4)) (sna S (a1.toNat + 4)) (sow S (a1.toNat + 4)) a2) 1 0), s0])) :: rest))) ∨ (¬ ((0 ≤ a0 ∧ a0 < 3) ∧ (0 ≤ a1 ∧ a1 < 3)) ∧ v = some (.int 1) ∧ ws' = (mRw ad ae cs (mKof S T) J ((ao, .inr (4, [.long n0, s0])) :: rest))) ∨ (((0 ≤ a0 ∧ a0 < 3) ∧ (0 ≤ a1 ∧ a1 < 3)) ∧ ¬ (0 ≤ a2 ∧ a2 ≤ 3) ∧ v = some (.int 2) ∧ ws' = (mRw ad ae cs (mKof S T) J ((ao, .inr (4, [.long n0, s0])) :: rest)))) := by
  refine mCw.of (by decide +kernel) (Nat.le_of_ble_eq_true rfl) (fun X hX hg hE => ?_)
  replace hX : mOK X RL cL_isClock 6 ⟨8, 3, 18, 129⟩ [(0, 20, 23, 19), (0, 20, 27, 21)] (mTy cs) := hX
  refine r_aload hX dL_isClock_0 rfl (r_aload_n hX dL_isClock_2 rfl rfl (r_iload_n hX dL_isClock_3 rfl rfl (r_iload_n hX dL_isClock_4 rfl rfl (r_iload_n hX dL_isClock_5 rfl rfl (r_callV hX (z_X2_isClock ad cs S T (mMd ae cs J ((ao, .inr (4, [.long n0, s0])) :: rest)) hS _ h0 _ h1 _ h2) kv_L_123 0 rfl rfl rfl rfl (Nat.le_of_ble_eq_true rfl) ⟨(Nat.le_of_ble_eq_true rfl), (Nat.le_of_ble_eq_true rfl)⟩ ⟨(Nat.le_of_ble_eq_true rfl), (Nat.le_of_ble_eq_true rfl)⟩ dL_isClock_6 (fun E ws9 z => ?_) (fun v9 ws9 h9 => ?_))))))
  · obtain ⟨rfl, ⟨rfl, zi⟩ | ⟨rfl, zi, za⟩⟩ := z
    ·
      refine r_catch1 hX rfl (by decide) kl_L_19 kca_I (fun q => ?_)
      refine r_astore hX dL_isClock_23 (by decide) rfl (r_iconst (v := 1) hX dL_isClock_25 (by decide) ?_)
      exact r_iret hX hE dL_isClock_26 (Nat.le_of_ble_eq_true rfl) (Nat.le_of_ble_eq_true rfl) (Or.inr (Or.inl ⟨zi, rfl, rfl⟩))
    ·
      refine r_catch2 hX hg (by decide) kl_L_19 rfl (by decide) kl_L_21 (fun q => ?_)
      refine r_astore hX dL_isClock_27 (by decide) rfl (r_iconst (v := 2) hX dL_isClock_29 (by decide) ?_)
      exact r_iret hX hE dL_isClock_30 (Nat.le_of_ble_eq_true rfl) (Nat.le_of_ble_eq_true rfl) (Or.inr (Or.inr ⟨zi, za, rfl, rfl⟩))
  obtain ⟨hg9, rfl, hw9⟩ := h9
  subst ws9
  dsimp only [mPush]
  refine r_if_eqB (tgt := 16) hX dL_isClock_9 (by decide) (fun c => ?_) (fun c => ?_)
  · refine r_lconst (v := 0) hX dL_isClock_16 (by decide) (r_putN hX kg_L_13 21 rfl rfl rfl rfl (Nat.le_of_ble_eq_true rfl) dL_isClock_17 (r_goto (tgt := 31) hX dL_isClock_20 (by decide) (r_iconst (v := 0) hX dL_isClock_31 (by decide) ?_)))
    exact r_iret hX hE dL_isClock_32 (Nat.le_of_ble_eq_true rfl) (Nat.le_of_ble_eq_true rfl) (Or.inl ⟨hg9, rfl, by rw [c]; rfl⟩)
  · refine r_lconst (v := 1) hX dL_isClock_12 (by decide) (r_goto (tgt := 17) hX dL_isClock_13 (by decide) (r_putN hX kg_L_13 21 rfl rfl rfl rfl (Nat.le_of_ble_eq_true rfl) dL_isClock_17 (r_goto (tgt := 31) hX dL_isClock_20 (by decide) (r_iconst (v := 0) hX dL_isClock_31 (by decide) ?_))))
    exact r_iret hX hE dL_isClock_32 (Nat.le_of_ble_eq_true rfl) (Nat.le_of_ble_eq_true rfl) (Or.inl ⟨hg9, rfl, by rw [c]; rfl⟩)
set_option maxHeartbeats 1000000 in
theorem z_L_house (ad ae : Nat → Nat) (cs : ClassId × ClassId × ClassId) (S : mS) (T : mT2) (J : mJ) (rest : va_W) (hS : sWF S) (ao : Nat) (n0 : Int64) (s0 : Value) (a0 : Int) (h0 : rJ a0)  : mCw (mTy cs) yL_house cL_house 4 (some .int) [(0, 10, 13, 21)] ⟨8, 1, 6, 125⟩ [.ref (ad 0), .int (iZ a0), .ref ao] (mRw ad ae cs (mKof S T) J ((ao, .inr (4, [.long n0, s0])) :: rest)) (fun v ws' => ((((0 ≤ a0 ∧ a0 ≤ 3)) ∧ (0 ≤ (0 : Int))) ∧ v = some (.int 0) ∧ ws' = (mRw ad ae cs (mKof S T) J ((ao, .inr (4, [.long (iZ (zHo S a0).toInt).toInt64, s0])) :: rest))) ∨ (¬ ((0 ≤ a0 ∧ a0 ≤ 3)) ∧ v = some (.int 1) ∧ ws' = (mRw ad ae cs (mKof S T) J ((ao, .inr (4, [.long n0, s0])) :: rest))) ∨ (((0 ≤ a0 ∧ a0 ≤ 3)) ∧ ¬ (0 ≤ (0 : Int)) ∧ v = some (.int 2) ∧ ws' = (mRw ad ae cs (mKof S T) J ((ao, .inr (4, [.long n0, s0])) :: rest)))) := by
  refine mCw.of (by decide +kernel) (Nat.le_of_ble_eq_true rfl) (fun X hX hg hE => ?_)
  replace hX : mOK X RL cL_house 4 ⟨8, 1, 6, 125⟩ [(0, 10, 13, 21)] (mTy cs) := hX
  refine r_aload_n hX dL_house_0 rfl rfl (r_aload_n hX dL_house_1 rfl rfl (r_iload_n hX dL_house_2 rfl rfl (r_callV hX (z_X2_houseP ad cs S T (mMd ae cs J ((ao, .inr (4, [.long n0, s0])) :: rest)) hS _ h0) kv_L_126 0 rfl rfl rfl rfl (Nat.le_of_ble_eq_true rfl) ⟨(Nat.le_of_ble_eq_true rfl), (Nat.le_of_ble_eq_true rfl)⟩ ⟨(Nat.le_of_ble_eq_true rfl), (Nat.le_of_ble_eq_true rfl)⟩ dL_house_3 (fun E ws9 z => ?_) (fun v9 ws9 h9 => ?_))))
  · obtain ⟨rfl, ⟨rfl, zi⟩ | ⟨rfl, zi, za⟩⟩ := z
    ·
      refine r_catch1 hX rfl (by decide) kl_L_21 kca_A (fun q => ?_)
      refine r_astore_n hX dL_house_13 rfl (by decide) rfl (r_iconst (v := 1) hX dL_house_14 (by decide) ?_)
      exact r_iret hX hE dL_house_15 (Nat.le_of_ble_eq_true rfl) (Nat.le_of_ble_eq_true rfl) (Or.inr (Or.inl ⟨zi, rfl, rfl⟩))
    · exact absurd (by decide) za
  obtain ⟨hg9, rfl, hw9⟩ := h9
  subst ws9
  dsimp only [mPush]
  refine r_i2l hX dL_house_6 (r_putN hX kg_L_13 21 rfl rfl rfl rfl (Nat.le_of_ble_eq_true rfl) dL_house_7 (r_goto (tgt := 16) hX dL_house_10 (by decide) (r_iconst (v := 0) hX dL_house_16 (by decide) ?_)))
  exact r_iret hX hE dL_house_17 (Nat.le_of_ble_eq_true rfl) (Nat.le_of_ble_eq_true rfl) (Or.inl ⟨hg9, rfl, rfl⟩)
set_option maxHeartbeats 1000000 in
theorem c_L_millis_x (ad ae : Nat → Nat) (cs : ClassId × ClassId × ClassId) (K : mK) (J : mJ) (rest : va_W) (ao : Nat) (n0 : Int64) (s0 : Value) (p0 : Int32) : mCw (mTy cs) yL_millis cL_millis 4 (some .int) [(0, 9, 12, 19)] ⟨8, 31, 1506, 331⟩ [.ref (ad 0), .int p0, .ref ao] (mRw ad ae cs K J ((ao, .inr (4, [.long n0, s0])) :: rest)) (fun v ws' => ∃ (r : Int32) (n1 : Int64) (s1 : Value), v = some (.int r) ∧ ws' = mRw ad ae cs K J ((ao, .inr (4, [.long n1, s1])) :: rest)) := by
  refine mCw.of (by decide +kernel) (Nat.le_of_ble_eq_true rfl) (fun X hX hg hE => ?_)
  replace hX : mOK X RL cL_millis 4 ⟨8, 31, 1506, 331⟩ [(0, 9, 12, 19)] (mTy cs) := hX
  refine r_aload_n hX dL_millis_0 rfl rfl (r_aload_n hX dL_millis_1 rfl rfl (r_iload_n hX dL_millis_2 rfl rfl ?_))
  have kx : ∀ (E : String) (ws9 : va_W), mTh [xI] (mRw ad ae cs K J ((ao, .inr (4, [.long n0, s0])) :: rest)) E ws9 → mT X 3 [(0, some (.ref (ad 0))), (1, some (.int p0)), (2, some (.ref ao))] [.ref ao] ws9 (0 + 31) (0 + 1506) E := by
    intro E ws9 z
    obtain ⟨zE, zw⟩ := z
    subst zw
    obtain rfl := List.mem_singleton.mp zE
    refine r_catch1 hX rfl (by decide) kl_L_19 kca_I (fun q => ?_)
    refine r_astore_n hX dL_millis_12 rfl (by decide) rfl (r_iconst (v := 1) hX dL_millis_13 (by decide) ?_)
    exact r_iret hX hE dL_millis_14 (Nat.le_of_ble_eq_true rfl) (Nat.le_of_ble_eq_true rfl) ⟨_, _, _, rfl, rfl⟩
  refine r_callV hX (c_X2_millis ad cs K _ _) kv_L_52 0 rfl rfl rfl rfl (Nat.le_of_ble_eq_true rfl) ⟨(Nat.le_of_ble_eq_true rfl), (Nat.le_of_ble_eq_true rfl)⟩ ⟨(Nat.le_of_ble_eq_true rfl), (Nat.le_of_ble_eq_true rfl)⟩ dL_millis_3 kx (fun v9 ws9 h9 => ?_)
  obtain ⟨⟨s, rfl⟩, hw9⟩ := h9
  subst ws9
  dsimp only [mPush]
  refine r_putN hX kg_L_56 21 rfl rfl rfl rfl (Nat.le_of_ble_eq_true rfl) dL_millis_6 (r_goto (tgt := 15) hX dL_millis_9 (by decide) (r_iconst (v := 0) hX dL_millis_15 (by decide) ?_))
  exact r_iret hX hE dL_millis_16 (Nat.le_of_ble_eq_true rfl) (Nat.le_of_ble_eq_true rfl) ⟨_, _, _, rfl, rfl⟩
end
-- 81 zlawrows
section
/-! THE LAW'S ROWS over the exact state. (Own work.) -/
theorem wf_oMon {S : mS} (h : sWF S) {d : Nat} {m : Int} (hd : d < 4) : sWF (oMon S d m).2 := by
  have h2 := h.2.2.1 d (by omega)
  unfold oMon
  split
  · exact h.oLoc hd h2.1 h2.2
  · exact h.rf
theorem wf_oPart {S : mS} (h : sWF S) {d : Nat} {a b c e : Int} (hd : d < 4) : sWF (oPart S d a b c e).2 := by
  have h2 := h.2.2.1 d (by omega)
  unfold oPart
  split
  · exact h.oLoc hd h2.1 h2.2
  · exact h.rf
theorem wf_oTime {S : mS} (h : sWF S) {d : Nat} {f num : Int} (hd : d < 4) : sWF (oTime S d f num).2 := by
  have h2 := h.2.2.1 d (by omega)
  unfold oTime
  split
  · exact wf_oPart h hd
  split
  · exact wf_oPart h hd
  split
  · exact wf_oPart h hd
  split
  · next q => exact h.oLoc hd q h2.2
  · exact h.rf
theorem wf_oDay {S : mS} (h : sWF S) {d : Nat} {f num : Int} (hd : d < 4) : sWF (oDay S d f num).2 := by
  have h2 := h.2.2.1 d (by omega)
  unfold oDay
  split
  · exact wf_oMon h hd
  split
  · split
    · exact wf_oMon h hd
    · exact h.rf
  split
  · split
    · exact h.oLoc hd h2.1 h2.2
    · exact h.rf
  split
  · exact h.oLoc hd h2.1 h2.2
  · exact h.rf
theorem wf_oSet {S : mS} (h : sWF S) {d : Nat} {f num : Int} (hd : d < 4) : sWF (oSet S d f num).2 := by
  unfold oSet
  split
  · exact wf_oDay h hd
  · exact wf_oTime h hd
theorem zNn_r {n u b : Int} (h : rNa n) : rNa (zNn n u b) := by
  unfold zNn
  split
  · show 0 ≤ (n + b) % 1000000000 ∧ (n + b) % 1000000000 ≤ 999999999
    omega
  · exact h
theorem wf_oMv {S : mS} (h : sWF S) {d : Nat} {u b : Int} (hd : d < 4) : sWF (oMv S d u b).2 := by
  have h2 := h.2.2.1 d (by omega)
  unfold oMv
  split
  · exact wf_oMon h hd
  split
  · exact wf_oMon h hd
  · exact h.oLoc hd (zNn_r h2.1) h2.2
theorem wf_oDate {S : mS} (h : sWF S) {d : Nat} {y dy s n o : Int} (hd : d < 4) (hn : rNa n) (ho : rOf o) : sWF (oDate S d y dy s n o).2 := by
  unfold oDate
  split
  · exact h.oLoc hd hn ho
  · exact h.rf
theorem wf_oOff {S : mS} (h : sWF S) {j : Nat} {a b c : Int} : sWF (oOff S j a b c).2 := by
  unfold oOff
  split
  · next q => exact h.of q.2.2
  · exact h.rf
/-- a wrapper's three ways -/
theorem zU9 {GI GA : Prop} {W : mS → Int64 → va_W} {S S2 : mS} {n0 N : Int64} {v : Option Value} {w : va_W} (h : ((GI ∧ GA) ∧ v = some (.int 0) ∧ w = W S2 N) ∨ (¬ GI ∧ v = some (.int 1) ∧ w = W S n0) ∨ (GI ∧ ¬ GA ∧ v = some (.int 2) ∧ w = W S n0)) : ∃ (r9 : Int32) (n9 : Int64) (S9 : mS), (((GI ∧ GA) ∧ r9 = 0 ∧ n9 = N ∧ S9 = S2) ∨ (¬ GI ∧ r9 = 1 ∧ S9 = S) ∨ ((GI ∧ ¬ GA) ∧ r9 = 2 ∧ S9 = S)) ∧ v = some (.int r9) ∧ w = W S9 n9 := by
  rcases h with ⟨g, a, b⟩ | ⟨g, a, b⟩ | ⟨g, g2, a, b⟩
  · exact ⟨_, _, _, Or.inl ⟨g, rfl, rfl, rfl⟩, a, b⟩
  · exact ⟨_, _, _, Or.inr (Or.inl ⟨g, rfl, rfl⟩), a, b⟩
  · exact ⟨_, _, _, Or.inr (Or.inr ⟨⟨g, g2⟩, rfl, rfl⟩), a, b⟩
/-- the reference's three ways -/
theorem zU8 {GI GA : Prop} {W : mS → Int32 → va_W} {S S2 : mS} {A : Int32} {v : Option Value} {w : va_W} (h : ∃ r : Int32, v = some (.int r) ∧ (((GI ∧ GA) ∧ r = A ∧ w = W S2 0) ∨ (¬ GI ∧ w = W S 1) ∨ (GI ∧ ¬ GA ∧ w = W S 2))) : ∃ (r8 th8 : Int32) (S8 : mS), (((GI ∧ GA) ∧ r8 = A ∧ th8 = 0 ∧ S8 = S2) ∨ (¬ GI ∧ th8 = 1 ∧ S8 = S) ∨ ((GI ∧ ¬ GA) ∧ th8 = 2 ∧ S8 = S)) ∧ v = some (.int r8) ∧ w = W S8 th8 := by
  obtain ⟨r, hv, ⟨g, a, b⟩ | ⟨g, b⟩ | ⟨g, g2, b⟩⟩ := h
  · exact ⟨r, _, _, Or.inl ⟨g, a, rfl, rfl⟩, hv, b⟩
  · exact ⟨r, _, _, Or.inr (Or.inl ⟨g, rfl, rfl⟩), hv, b⟩
  · exact ⟨r, _, _, Or.inr (Or.inr ⟨⟨g, g2⟩, rfl, rfl⟩), hv, b⟩
theorem zU8h {GI : Prop} {W : mS → Int32 → va_W} {S S2 : mS} {A : Int32} {v : Option Value} {w : va_W} (h : ∃ r : Int32, v = some (.int r) ∧ ((GI ∧ r = A ∧ w = W S2 0) ∨ (¬ GI ∧ w = W S 1))) : ∃ (r8 th8 : Int32) (S8 : mS), (((GI ∧ 0 ≤ (0 : Int)) ∧ r8 = A ∧ th8 = 0 ∧ S8 = S2) ∨ (¬ GI ∧ th8 = 1 ∧ S8 = S) ∨ ((GI ∧ ¬ 0 ≤ (0 : Int)) ∧ th8 = 2 ∧ S8 = S)) ∧ v = some (.int r8) ∧ w = W S8 th8 := by
  obtain ⟨r, hv, ⟨g, a, b⟩ | ⟨g, b⟩⟩ := h
  · exact ⟨r, _, _, Or.inl ⟨⟨g, by decide⟩, a, rfl, rfl⟩, hv, b⟩
  · exact ⟨r, _, _, Or.inr (Or.inl ⟨g, rfl, rfl⟩), hv, b⟩
/-- both went the same way -/
theorem zM {GI GA : Prop} {S S2 S9 S8 : mS} {r9 th8 r8 A : Int32} {n9 N : Int64} (h9 : ((GI ∧ GA) ∧ r9 = 0 ∧ n9 = N ∧ S9 = S2) ∨ (¬ GI ∧ r9 = 1 ∧ S9 = S) ∨ ((GI ∧ ¬ GA) ∧ r9 = 2 ∧ S9 = S)) (h8 : ((GI ∧ GA) ∧ r8 = A ∧ th8 = 0 ∧ S8 = S2) ∨ (¬ GI ∧ th8 = 1 ∧ S8 = S) ∨ ((GI ∧ ¬ GA) ∧ th8 = 2 ∧ S8 = S)) (hS : sWF S) (hw : GI ∧ GA → sWF S2) : S8 = S9 ∧ th8 = r9 ∧ (r9 = 0 → n9 = N ∧ r8 = A) ∧ sWF S9 := by
  rcases h9 with ⟨g, a, b, c⟩ | ⟨g, a, c⟩ | ⟨g, a, c⟩
  · rcases h8 with ⟨g2, a2, b2, c2⟩ | ⟨g2, b2, c2⟩ | ⟨g2, b2, c2⟩
    · exact ⟨c2.trans c.symm, b2.trans a.symm, fun _ => ⟨b, a2⟩, by rw [c]; exact hw g⟩
    · exact absurd g.1 g2
    · exact absurd g.2 g2.2
  · rcases h8 with ⟨g2, a2, b2, c2⟩ | ⟨g2, b2, c2⟩ | ⟨g2, b2, c2⟩
    · exact absurd g2.1 g
    · exact ⟨c2.trans c.symm, b2.trans a.symm, fun q => absurd (a.symm.trans q) (by decide), by rw [c]; exact hS⟩
    · exact absurd g2.1 g
  · rcases h8 with ⟨g2, a2, b2, c2⟩ | ⟨g2, b2, c2⟩ | ⟨g2, b2, c2⟩
    · exact absurd g2.2 g.2
    · exact absurd g.1 g2
    · exact ⟨c2.trans c.symm, b2.trans a.symm, fun q => absurd (a.symm.trans q) (by decide), by rw [c]; exact hS⟩
theorem cond_lZ (b : Bool) : (cond b 1 0 : Int64) = lZ (cond b 1 0) := by cases b <;> rfl
section MLAWZ
variable {X : mC} {own : String} {cc : ByteArray} {nL : Nat} {R : Room} {hh : List (Nat × Nat × Nat × Nat)} {tys : List (ClassId × FieldType)} {pc : Nat} {lv : List (Nat × Option Value)} {st : List Value} {ws : va_W} {k n : Nat} {b L : Nat} {xs : Nat → Int32}
theorem r_argZ {i0 c : Nat} {z : Int} (hX : mOK X own cc nL R hh tys) (hS : mScr X b L xs) (h0 : lget lv 0 = some (.ref b)) (h4 : lget lv 4 = some (.int (nI i0))) (hc : Int32.ofInt z = nI c) (hi : i0 + c < L) (hL : L < 2 ^ 31) (d0 : decode cc pc = .ok (.aload_n 0, 1)) (d1 : decode cc (pc + 1) = .ok (.iload 4, 2)) (d3 : decode cc (pc + 3) = .ok (.iconst z, 1)) (d4 : decode cc (pc + 4) = .ok (.iadd, 1)) (d5 : decode cc (pc + 5) = .ok (.iaload, 1)) (kk : mV X (pc + 6) lv (.int (iZ (xs (i0 + c)).toInt) :: st) ws k n) : mV X pc lv st ws k n :=
  r_arg hX hS h0 h4 hc hi hL d0 d1 d3 d4 d5 (by rw [iZ_self] at kk; exact kk)
theorem r_argBZ {i0 c : Nat} {z : Int} (hX : mOK X own cc nL R hh tys) (hS : mScr X b L xs) (h0 : lget lv 0 = some (.ref b)) (h4 : lget lv 4 = some (.int (nI i0))) (hc : (Int8.ofInt z).toInt32 = nI c) (hi : i0 + c < L) (hL : L < 2 ^ 31) (d0 : decode cc pc = .ok (.aload_n 0, 1)) (d1 : decode cc (pc + 1) = .ok (.iload 4, 2)) (d3 : decode cc (pc + 3) = .ok (.bipush z, 2)) (d5 : decode cc (pc + 5) = .ok (.iadd, 1)) (d6 : decode cc (pc + 6) = .ok (.iaload, 1)) (kk : mV X (pc + 7) lv (.int (iZ (xs (i0 + c)).toInt) :: st) ws k n) : mV X pc lv st ws k n :=
  r_argB hX hS h0 h4 hc hi hL d0 d1 d3 d5 d6 (by rw [iZ_self] at kk; exact kk)
theorem r_ne0Z {a : Int} (hX : mOK X own cc nL R hh tys) (ha : rJ a) (d0 : decode cc pc = .ok (.ifCond .eq 7, 3)) (d3 : decode cc (pc + 3) = .ok (.iconst 1, 1)) (d4 : decode cc (pc + 4) = .ok (.goto 4, 3)) (d7 : decode cc (pc + 7) = .ok (.iconst 0, 1)) (kk : mV X (pc + 8) lv (.int (b2i (decide (¬ a = 0))) :: st) ws k n) : mV X pc lv (.int (iZ a) :: st) ws k n := by
  refine r_ne0 hX d0 d3 d4 d7 ?_
  have t : iZ a = 0 ↔ a = 0 := iZ_inj ha (b := 0) (by omega)
  have e : (if iZ a = 0 then (0 : Int32) else 1) = b2i (decide (¬ a = 0)) := by
    by_cases q : a = 0
    · rw [if_pos (t.mpr q), decide_eq_false (fun h => h q)]
      rfl
    · rw [if_neg (fun h => q (t.mp h)), decide_eq_true q]
      rfl
  rw [e]
  exact kk
end MLAWZ
end
