/-! The reference, exact (rows by a program of this repository). -/
theorem oeR {ad ae : Nat → Nat} {cs : ClassId × ClassId × ClassId} {K : mK} {th : Int32} {rest : va_W} {a b : Int × mS} (h : a = b) : iZ a.1 = iZ b.1 ∧ mRw ad ae cs K (mJof a.2 th) rest = mRw ad ae cs K (mJof b.2 th) rest := by rw [h]; exact ⟨rfl, rfl⟩
theorem oNum_c {S : mS} {j : Nat} {z z' : Int} (h : z = z') : oNum S j z = oNum S j z' := by rw [h]
theorem oLoc_c {S : mS} {j : Nat} {z z' n n' o o' : Int} (h1 : z = z') (h2 : n = n') (h3 : o = o') : oLoc S j z n o = oLoc S j z' n' o' := by rw [h1, h2, h3]
theorem oClk_c {S : mS} {j : Nat} {z z' n n' o o' : Int} (h1 : z = z') (h2 : n = n') (h3 : o = o') : oClk S j z n o = oClk S j z' n' o' := by rw [h1, h2, h3]
theorem oMon_c {S : mS} {j : Nat} {z z' : Int} (h : z = z') : oMon S j z = oMon S j z' := by rw [h]
set_option maxHeartbeats 4000000 in
set_option maxRecDepth 20000 in
theorem z_X4_offset (ad ae : Nat → Nat) (cs : ClassId × ClassId × ClassId) (K : mK) (S : mS) (th : Int32) (rest : va_W) (hS : sWF S) (a0 : Int) (h0 : rJ a0) (a1 : Int) (h1 : rJ a1)  : mCt (mTy cs) yX4_offset cX4_offset 4 (some .int) ⟨2, 0, 0, 45⟩ [.ref (ae 0), .int (iZ a0), .int (iZ a1)] (mRw ad ae cs K (mJof S th) rest) (fun v ws' => ∃ r : Int32, v = some (.int r) ∧ (((((0 ≤ a0 ∧ a0 < 4)) ∧ (-64800 ≤ a1 ∧ a1 ≤ 64800)) ∧ r = iZ ((sof S a0.toNat, sOf S a0.toNat a1)).1 ∧ ws' = mRw ad ae cs K (mJof ((sof S a0.toNat, sOf S a0.toNat a1)).2 0) rest) ∨ (¬ ((0 ≤ a0 ∧ a0 < 4)) ∧ ws' = mRw ad ae cs K (mJof S 1) rest) ∨ (((0 ≤ a0 ∧ a0 < 4)) ∧ ¬ (-64800 ≤ a1 ∧ a1 ≤ 64800) ∧ ws' = mRw ad ae cs K (mJof S 2) rest))) mNo := by
  refine mCt.of (by decide +kernel) (Nat.le_of_ble_eq_true rfl) (fun X hX hE => ?_)
  replace hX : mOK X RX4 cX4_offset 4 ⟨2, 0, 0, 45⟩ [] (mTy cs) := hX
  refine r_aload_n hX dX4_offset_0 rfl rfl ?_
  refine r_iload_n hX dX4_offset_1 rfl rfl ?_
  refine r_callS hX (z_X4_isNone _ _ _ (by omega)) ks_X4_61 rfl rfl (Nat.le_of_ble_eq_true rfl) ⟨(Nat.le_of_ble_eq_true rfl), (Nat.le_of_ble_eq_true rfl)⟩ ⟨(Nat.le_of_ble_eq_true rfl), (Nat.le_of_ble_eq_true rfl)⟩ dX4_offset_2 (fun _ _ z => False.elim z) (fun v9 ws9 h1 => ?_)
  obtain ⟨rfl, hw9⟩ := h1
  subst ws9
  dsimp only [mPush]
  refine r_iload_n hX dX4_offset_5 rfl rfl ?_
  refine r_i2lZ hX dX4_offset_6 (by omega) ?_
  refine r_ldc2Z (z := -64800) hX kc_X4_64 (by decide) dX4_offset_7 ?_
  refine r_ldc2Z (z := 64800) hX kc_X4_66 (by decide) dX4_offset_10 ?_
  refine r_callS hX (z_X4_isIn _ _ _ _ _ (by omega) (by omega) (by omega)) ks_X4_38 rfl rfl (Nat.le_of_ble_eq_true rfl) ⟨(Nat.le_of_ble_eq_true rfl), (Nat.le_of_ble_eq_true rfl)⟩ ⟨(Nat.le_of_ble_eq_true rfl), (Nat.le_of_ble_eq_true rfl)⟩ dX4_offset_13 (fun _ _ z => False.elim z) (fun v9 ws9 h2 => ?_)
  obtain ⟨rfl, hw9⟩ := h2
  subst ws9
  dsimp only [mPush]
  refine r_if_neB (tgt := 23) hX dX4_offset_16 (by decide) (fun c3 => ?_) (fun c3 => ?_)
  · have c3 := of_decide_eq_true c3
    refine r_iconst (v := b2i false) hX dX4_offset_23 (by decide) ?_
    refine r_callV hX (z_X4_isStopped ad ae cs K S th rest (decide (¬ (0 ≤ a0 ∧ a0 < 4))) false) kv_X4_68 14 rfl rfl rfl rfl (Nat.le_of_ble_eq_true rfl) ⟨(Nat.le_of_ble_eq_true rfl), (Nat.le_of_ble_eq_true rfl)⟩ ⟨(Nat.le_of_ble_eq_true rfl), (Nat.le_of_ble_eq_true rfl)⟩ dX4_offset_24 (fun _ _ z => False.elim z) (fun v9 ws9 h4 => ?_)
    obtain ⟨rfl, hw9⟩ := h4
    subst ws9
    dsimp only [mPush]
    refine r_if_eqB (tgt := 32) hX dX4_offset_27 (by decide) (fun c5 => ?_) (fun c5 => ?_)
    · obtain ⟨⟨hx, hy⟩, e0⟩ := zst0 c5
      have hx := of_decide_eq_false hx
      rw [e0]
      refine r_aload_n hX dX4_offset_32 rfl rfl ?_
      refine r_get hX kf_X4_7 14 rfl rfl dX4_offset_33 ?_
      refine r_iload_n hX dX4_offset_36 rfl rfl ?_
      refine r_ialdZ hX 15 0 rfl rfl (a0).toNat (by omega) (by omega) (by decide) dX4_offset_37 ?_
      refine r_istore_n hX dX4_offset_38 rfl (by decide) rfl ?_
      refine r_aload_n hX dX4_offset_39 rfl rfl ?_
      refine r_get hX kf_X4_7 14 rfl rfl dX4_offset_40 ?_
      refine r_iload_n hX dX4_offset_43 rfl rfl ?_
      refine r_iload_n hX dX4_offset_44 rfl rfl ?_
      refine r_iastZ hX 15 0 rfl rfl (a0).toNat (by omega) (by omega) (by decide) dX4_offset_45 ?_
      refine r_eqw (zRw_off (j := (a0).toNat) (z := a1)) ?_
      refine r_iload_n hX dX4_offset_46 rfl rfl ?_
      refine r_iret hX hE dX4_offset_47 (Nat.le_of_ble_eq_true rfl) (Nat.le_of_ble_eq_true rfl) ⟨_, rfl, Or.inl ⟨by omega, ?_⟩⟩
      exact ⟨rfl, rfl⟩
    · rcases zst1 c5 with ⟨hx, e0⟩ | ⟨hx, hy, e0⟩
      · rw [e0]
        have hx := of_decide_eq_true hx
        refine r_iconstZ hX dX4_offset_30 ?_
        exact r_iret hX hE dX4_offset_31 (Nat.le_of_ble_eq_true rfl) (Nat.le_of_ble_eq_true rfl) ⟨_, rfl, Or.inr (Or.inl ⟨by omega, rfl⟩)⟩
      · exact absurd hy (by decide)
  · have c3 := of_decide_eq_false c3
    refine r_iconst (v := b2i true) hX dX4_offset_19 (by decide) ?_
    refine r_goto (tgt := 24) hX dX4_offset_20 (by decide) ?_
    refine r_callV hX (z_X4_isStopped ad ae cs K S th rest (decide (¬ (0 ≤ a0 ∧ a0 < 4))) true) kv_X4_68 14 rfl rfl rfl rfl (Nat.le_of_ble_eq_true rfl) ⟨(Nat.le_of_ble_eq_true rfl), (Nat.le_of_ble_eq_true rfl)⟩ ⟨(Nat.le_of_ble_eq_true rfl), (Nat.le_of_ble_eq_true rfl)⟩ dX4_offset_24 (fun _ _ z => False.elim z) (fun v9 ws9 h6 => ?_)
    obtain ⟨rfl, hw9⟩ := h6
    subst ws9
    dsimp only [mPush]
    refine r_if_eqB (tgt := 32) hX dX4_offset_27 (by decide) (fun c7 => ?_) (fun c7 => ?_)
    · exact absurd c7 (by simp)
    · rcases zst1 c7 with ⟨hx, e0⟩ | ⟨hx, hy, e0⟩
      · rw [e0]
        have hx := of_decide_eq_true hx
        refine r_iconstZ hX dX4_offset_30 ?_
        exact r_iret hX hE dX4_offset_31 (Nat.le_of_ble_eq_true rfl) (Nat.le_of_ble_eq_true rfl) ⟨_, rfl, Or.inr (Or.inl ⟨by omega, rfl⟩)⟩
      · rw [e0]
        have hx := of_decide_eq_false hx
        refine r_iconstZ hX dX4_offset_30 ?_
        exact r_iret hX hE dX4_offset_31 (Nat.le_of_ble_eq_true rfl) (Nat.le_of_ble_eq_true rfl) ⟨_, rfl, Or.inr (Or.inr ⟨by omega, by omega, rfl⟩)⟩
set_option maxHeartbeats 4000000 in
set_option maxRecDepth 20000 in
theorem z_X4_offsetOf (ad ae : Nat → Nat) (cs : ClassId × ClassId × ClassId) (K : mK) (S : mS) (th : Int32) (rest : va_W) (hS : sWF S) (a0 : Int) (h0 : rJ a0) (a1 : Int) (h1 : rJ a1) (a2 : Int) (h2 : rJ a2) (a3 : Int) (h3 : rJ a3)  : mCt (mTy cs) yX4_offsetOf cX4_offsetOf 7 (some .int) ⟨2, 0, 0, 45⟩ [.ref (ae 0), .int (iZ a0), .int (iZ a1), .int (iZ a2), .int (iZ a3)] (mRw ad ae cs K (mJof S th) rest) (fun v ws' => ∃ r : Int32, v = some (.int r) ∧ (((((0 ≤ a0 ∧ a0 < 4)) ∧ (0 ≤ (0 : Int))) ∧ r = iZ (oOff S a0.toNat a1 a2 a3).1 ∧ ws' = mRw ad ae cs K (mJof (oOff S a0.toNat a1 a2 a3).2 0) rest) ∨ (¬ ((0 ≤ a0 ∧ a0 < 4)) ∧ ws' = mRw ad ae cs K (mJof S 1) rest) ∨ (((0 ≤ a0 ∧ a0 < 4)) ∧ ¬ (0 ≤ (0 : Int)) ∧ ws' = mRw ad ae cs K (mJof S 2) rest))) mNo := by
  refine mCt.of (by decide +kernel) (Nat.le_of_ble_eq_true rfl) (fun X hX hE => ?_)
  replace hX : mOK X RX4 cX4_offsetOf 7 ⟨2, 0, 0, 45⟩ [] (mTy cs) := hX
  refine r_aload_n hX dX4_offsetOf_0 rfl rfl ?_
  refine r_iload_n hX dX4_offsetOf_1 rfl rfl ?_
  refine r_callS hX (z_X4_isNone _ _ _ (by omega)) ks_X4_61 rfl rfl (Nat.le_of_ble_eq_true rfl) ⟨(Nat.le_of_ble_eq_true rfl), (Nat.le_of_ble_eq_true rfl)⟩ ⟨(Nat.le_of_ble_eq_true rfl), (Nat.le_of_ble_eq_true rfl)⟩ dX4_offsetOf_2 (fun _ _ z => False.elim z) (fun v9 ws9 h1 => ?_)
  obtain ⟨rfl, hw9⟩ := h1
  subst ws9
  dsimp only [mPush]
  refine r_iconst (v := b2i false) hX dX4_offsetOf_5 (by decide) ?_
  refine r_callV hX (z_X4_isStopped ad ae cs K S th rest (decide (¬ (0 ≤ a0 ∧ a0 < 4))) false) kv_X4_68 14 rfl rfl rfl rfl (Nat.le_of_ble_eq_true rfl) ⟨(Nat.le_of_ble_eq_true rfl), (Nat.le_of_ble_eq_true rfl)⟩ ⟨(Nat.le_of_ble_eq_true rfl), (Nat.le_of_ble_eq_true rfl)⟩ dX4_offsetOf_6 (fun _ _ z => False.elim z) (fun v9 ws9 h2 => ?_)
  obtain ⟨rfl, hw9⟩ := h2
  subst ws9
  dsimp only [mPush]
  refine r_if_eqB (tgt := 14) hX dX4_offsetOf_9 (by decide) (fun c3 => ?_) (fun c3 => ?_)
  · obtain ⟨⟨hx, hy⟩, e0⟩ := zst0 c3
    have hx := of_decide_eq_false hx
    rw [e0]
    refine r_iload_n hX dX4_offsetOf_14 rfl rfl ?_
    refine r_if_gtZ (tgt := 27) hX dX4_offsetOf_15 (by decide) (by omega) (fun c4 => ?_) (fun c4 => ?_)
    · refine r_iload_n hX dX4_offsetOf_27 rfl rfl ?_
      refine r_if_ltZ (tgt := 40) hX dX4_offsetOf_28 (by decide) (by omega) (fun c5 => ?_) (fun c5 => ?_)
      · refine r_iconstZ hX dX4_offsetOf_40 ?_
        refine r_goto (tgt := 45) hX dX4_offsetOf_41 (by decide) ?_
        refine r_istore hX dX4_offsetOf_45 (by decide) rfl ?_
        refine r_iload_n hX dX4_offsetOf_47 rfl rfl ?_
        refine r_i2lZ hX dX4_offsetOf_48 (by omega) ?_
        refine r_ldc2Z (z := -18) hX kc_X4_72 (by decide) dX4_offsetOf_49 ?_
        refine r_ldc2Z (z := 18) hX kc_X4_74 (by decide) dX4_offsetOf_52 ?_
        refine r_callS hX (z_X4_isIn _ _ _ _ _ (by omega) (by omega) (by omega)) ks_X4_38 rfl rfl (Nat.le_of_ble_eq_true rfl) ⟨(Nat.le_of_ble_eq_true rfl), (Nat.le_of_ble_eq_true rfl)⟩ ⟨(Nat.le_of_ble_eq_true rfl), (Nat.le_of_ble_eq_true rfl)⟩ dX4_offsetOf_55 (fun _ _ z => False.elim z) (fun v9 ws9 h6 => ?_)
        obtain ⟨rfl, hw9⟩ := h6
        subst ws9
        dsimp only [mPush]
        refine r_if_eqB (tgt := 95) hX dX4_offsetOf_58 (by decide) (fun c7 => ?_) (fun c7 => ?_)
        · have c7 := of_decide_eq_false c7
          refine r_aload_n hX dX4_offsetOf_95 rfl rfl ?_
          refine r_callV hX (z_X4_no ad ae cs K S 0 rest) kv_X4_80 14 rfl rfl rfl rfl (Nat.le_of_ble_eq_true rfl) ⟨(Nat.le_of_ble_eq_true rfl), (Nat.le_of_ble_eq_true rfl)⟩ ⟨(Nat.le_of_ble_eq_true rfl), (Nat.le_of_ble_eq_true rfl)⟩ dX4_offsetOf_96 (fun _ _ z => False.elim z) (fun v9 ws9 h8 => ?_)
          obtain ⟨rfl, hw9⟩ := h8
          subst ws9
          dsimp only [mPush]
          refine r_iret hX hE dX4_offsetOf_99 (Nat.le_of_ble_eq_true rfl) (Nat.le_of_ble_eq_true rfl) ⟨_, rfl, Or.inl ⟨by omega, ?_⟩⟩
          unfold oOff
          rw [if_neg (by omega)]
          exact ⟨rfl, rfl⟩
        · have c7 := of_decide_eq_true c7
          refine r_iload_n hX dX4_offsetOf_61 rfl rfl ?_
          refine r_i2lZ hX dX4_offsetOf_62 (by omega) ?_
          refine r_ldc2Z (z := -59) hX kc_X4_76 (by decide) dX4_offsetOf_63 ?_
          refine r_ldc2Z (z := 59) hX kc_X4_78 (by decide) dX4_offsetOf_66 ?_
          refine r_callS hX (z_X4_isIn _ _ _ _ _ (by omega) (by omega) (by omega)) ks_X4_38 rfl rfl (Nat.le_of_ble_eq_true rfl) ⟨(Nat.le_of_ble_eq_true rfl), (Nat.le_of_ble_eq_true rfl)⟩ ⟨(Nat.le_of_ble_eq_true rfl), (Nat.le_of_ble_eq_true rfl)⟩ dX4_offsetOf_69 (fun _ _ z => False.elim z) (fun v9 ws9 h9 => ?_)
          obtain ⟨rfl, hw9⟩ := h9
          subst ws9
          dsimp only [mPush]
          refine r_if_eqB (tgt := 95) hX dX4_offsetOf_72 (by decide) (fun c10 => ?_) (fun c10 => ?_)
          · have c10 := of_decide_eq_false c10
            refine r_aload_n hX dX4_offsetOf_95 rfl rfl ?_
            refine r_callV hX (z_X4_no ad ae cs K S 0 rest) kv_X4_80 14 rfl rfl rfl rfl (Nat.le_of_ble_eq_true rfl) ⟨(Nat.le_of_ble_eq_true rfl), (Nat.le_of_ble_eq_true rfl)⟩ ⟨(Nat.le_of_ble_eq_true rfl), (Nat.le_of_ble_eq_true rfl)⟩ dX4_offsetOf_96 (fun _ _ z => False.elim z) (fun v9 ws9 h11 => ?_)
            obtain ⟨rfl, hw9⟩ := h11
            subst ws9
            dsimp only [mPush]
            refine r_iret hX hE dX4_offsetOf_99 (Nat.le_of_ble_eq_true rfl) (Nat.le_of_ble_eq_true rfl) ⟨_, rfl, Or.inl ⟨by omega, ?_⟩⟩
            unfold oOff
            rw [if_neg (by omega)]
            exact ⟨rfl, rfl⟩
          · have c10 := of_decide_eq_true c10
            refine r_iload hX dX4_offsetOf_75 rfl ?_
            refine r_i2lZ hX dX4_offsetOf_77 (by omega) ?_
            refine r_ldc2Z (z := -59) hX kc_X4_76 (by decide) dX4_offsetOf_78 ?_
            refine r_ldc2Z (z := 59) hX kc_X4_78 (by decide) dX4_offsetOf_81 ?_
            refine r_callS hX (z_X4_isIn _ _ _ _ _ (by omega) (by omega) (by omega)) ks_X4_38 rfl rfl (Nat.le_of_ble_eq_true rfl) ⟨(Nat.le_of_ble_eq_true rfl), (Nat.le_of_ble_eq_true rfl)⟩ ⟨(Nat.le_of_ble_eq_true rfl), (Nat.le_of_ble_eq_true rfl)⟩ dX4_offsetOf_84 (fun _ _ z => False.elim z) (fun v9 ws9 h12 => ?_)
            obtain ⟨rfl, hw9⟩ := h12
            subst ws9
            dsimp only [mPush]
            refine r_if_eqB (tgt := 95) hX dX4_offsetOf_87 (by decide) (fun c13 => ?_) (fun c13 => ?_)
            · have c13 := of_decide_eq_false c13
              refine r_aload_n hX dX4_offsetOf_95 rfl rfl ?_
              refine r_callV hX (z_X4_no ad ae cs K S 0 rest) kv_X4_80 14 rfl rfl rfl rfl (Nat.le_of_ble_eq_true rfl) ⟨(Nat.le_of_ble_eq_true rfl), (Nat.le_of_ble_eq_true rfl)⟩ ⟨(Nat.le_of_ble_eq_true rfl), (Nat.le_of_ble_eq_true rfl)⟩ dX4_offsetOf_96 (fun _ _ z => False.elim z) (fun v9 ws9 h14 => ?_)
              obtain ⟨rfl, hw9⟩ := h14
              subst ws9
              dsimp only [mPush]
              refine r_iret hX hE dX4_offsetOf_99 (Nat.le_of_ble_eq_true rfl) (Nat.le_of_ble_eq_true rfl) ⟨_, rfl, Or.inl ⟨by omega, ?_⟩⟩
              unfold oOff
              rw [if_neg (by omega)]
              exact ⟨rfl, rfl⟩
            · have c13 := of_decide_eq_true c13
              refine r_iload hX dX4_offsetOf_90 rfl ?_
              refine r_if_eqZ (tgt := 100) hX dX4_offsetOf_92 (by decide) (by decide) (fun q => absurd q (by decide)) (fun _ => ?_)
              refine r_aload_n hX dX4_offsetOf_95 rfl rfl ?_
              refine r_callV hX (z_X4_no ad ae cs K S 0 rest) kv_X4_80 14 rfl rfl rfl rfl (Nat.le_of_ble_eq_true rfl) ⟨(Nat.le_of_ble_eq_true rfl), (Nat.le_of_ble_eq_true rfl)⟩ ⟨(Nat.le_of_ble_eq_true rfl), (Nat.le_of_ble_eq_true rfl)⟩ dX4_offsetOf_96 (fun _ _ z => False.elim z) (fun v9 ws9 h15 => ?_)
              obtain ⟨rfl, hw9⟩ := h15
              subst ws9
              dsimp only [mPush]
              refine r_iret hX hE dX4_offsetOf_99 (Nat.le_of_ble_eq_true rfl) (Nat.le_of_ble_eq_true rfl) ⟨_, rfl, Or.inl ⟨by omega, ?_⟩⟩
              unfold oOff
              rw [if_neg (by omega)]
              exact ⟨rfl, rfl⟩
      · refine r_iload_n hX dX4_offsetOf_31 rfl rfl ?_
        refine r_if_ltZ (tgt := 40) hX dX4_offsetOf_32 (by decide) (by omega) (fun c16 => ?_) (fun c16 => ?_)
        · refine r_iconstZ hX dX4_offsetOf_40 ?_
          refine r_goto (tgt := 45) hX dX4_offsetOf_41 (by decide) ?_
          refine r_istore hX dX4_offsetOf_45 (by decide) rfl ?_
          refine r_iload_n hX dX4_offsetOf_47 rfl rfl ?_
          refine r_i2lZ hX dX4_offsetOf_48 (by omega) ?_
          refine r_ldc2Z (z := -18) hX kc_X4_72 (by decide) dX4_offsetOf_49 ?_
          refine r_ldc2Z (z := 18) hX kc_X4_74 (by decide) dX4_offsetOf_52 ?_
          refine r_callS hX (z_X4_isIn _ _ _ _ _ (by omega) (by omega) (by omega)) ks_X4_38 rfl rfl (Nat.le_of_ble_eq_true rfl) ⟨(Nat.le_of_ble_eq_true rfl), (Nat.le_of_ble_eq_true rfl)⟩ ⟨(Nat.le_of_ble_eq_true rfl), (Nat.le_of_ble_eq_true rfl)⟩ dX4_offsetOf_55 (fun _ _ z => False.elim z) (fun v9 ws9 h17 => ?_)
          obtain ⟨rfl, hw9⟩ := h17
          subst ws9
          dsimp only [mPush]
          refine r_if_eqB (tgt := 95) hX dX4_offsetOf_58 (by decide) (fun c18 => ?_) (fun c18 => ?_)
          · have c18 := of_decide_eq_false c18
            refine r_aload_n hX dX4_offsetOf_95 rfl rfl ?_
            refine r_callV hX (z_X4_no ad ae cs K S 0 rest) kv_X4_80 14 rfl rfl rfl rfl (Nat.le_of_ble_eq_true rfl) ⟨(Nat.le_of_ble_eq_true rfl), (Nat.le_of_ble_eq_true rfl)⟩ ⟨(Nat.le_of_ble_eq_true rfl), (Nat.le_of_ble_eq_true rfl)⟩ dX4_offsetOf_96 (fun _ _ z => False.elim z) (fun v9 ws9 h19 => ?_)
            obtain ⟨rfl, hw9⟩ := h19
            subst ws9
            dsimp only [mPush]
            refine r_iret hX hE dX4_offsetOf_99 (Nat.le_of_ble_eq_true rfl) (Nat.le_of_ble_eq_true rfl) ⟨_, rfl, Or.inl ⟨by omega, ?_⟩⟩
            unfold oOff
            rw [if_neg (by omega)]
            exact ⟨rfl, rfl⟩
          · have c18 := of_decide_eq_true c18
            refine r_iload_n hX dX4_offsetOf_61 rfl rfl ?_
            refine r_i2lZ hX dX4_offsetOf_62 (by omega) ?_
            refine r_ldc2Z (z := -59) hX kc_X4_76 (by decide) dX4_offsetOf_63 ?_
            refine r_ldc2Z (z := 59) hX kc_X4_78 (by decide) dX4_offsetOf_66 ?_
            refine r_callS hX (z_X4_isIn _ _ _ _ _ (by omega) (by omega) (by omega)) ks_X4_38 rfl rfl (Nat.le_of_ble_eq_true rfl) ⟨(Nat.le_of_ble_eq_true rfl), (Nat.le_of_ble_eq_true rfl)⟩ ⟨(Nat.le_of_ble_eq_true rfl), (Nat.le_of_ble_eq_true rfl)⟩ dX4_offsetOf_69 (fun _ _ z => False.elim z) (fun v9 ws9 h20 => ?_)
            obtain ⟨rfl, hw9⟩ := h20
            subst ws9
            dsimp only [mPush]
            refine r_if_eqB (tgt := 95) hX dX4_offsetOf_72 (by decide) (fun c21 => ?_) (fun c21 => ?_)
            · have c21 := of_decide_eq_false c21
              refine r_aload_n hX dX4_offsetOf_95 rfl rfl ?_
              refine r_callV hX (z_X4_no ad ae cs K S 0 rest) kv_X4_80 14 rfl rfl rfl rfl (Nat.le_of_ble_eq_true rfl) ⟨(Nat.le_of_ble_eq_true rfl), (Nat.le_of_ble_eq_true rfl)⟩ ⟨(Nat.le_of_ble_eq_true rfl), (Nat.le_of_ble_eq_true rfl)⟩ dX4_offsetOf_96 (fun _ _ z => False.elim z) (fun v9 ws9 h22 => ?_)
              obtain ⟨rfl, hw9⟩ := h22
              subst ws9
              dsimp only [mPush]
              refine r_iret hX hE dX4_offsetOf_99 (Nat.le_of_ble_eq_true rfl) (Nat.le_of_ble_eq_true rfl) ⟨_, rfl, Or.inl ⟨by omega, ?_⟩⟩
              unfold oOff
              rw [if_neg (by omega)]
              exact ⟨rfl, rfl⟩
            · have c21 := of_decide_eq_true c21
              refine r_iload hX dX4_offsetOf_75 rfl ?_
              refine r_i2lZ hX dX4_offsetOf_77 (by omega) ?_
              refine r_ldc2Z (z := -59) hX kc_X4_76 (by decide) dX4_offsetOf_78 ?_
              refine r_ldc2Z (z := 59) hX kc_X4_78 (by decide) dX4_offsetOf_81 ?_
              refine r_callS hX (z_X4_isIn _ _ _ _ _ (by omega) (by omega) (by omega)) ks_X4_38 rfl rfl (Nat.le_of_ble_eq_true rfl) ⟨(Nat.le_of_ble_eq_true rfl), (Nat.le_of_ble_eq_true rfl)⟩ ⟨(Nat.le_of_ble_eq_true rfl), (Nat.le_of_ble_eq_true rfl)⟩ dX4_offsetOf_84 (fun _ _ z => False.elim z) (fun v9 ws9 h23 => ?_)
              obtain ⟨rfl, hw9⟩ := h23
              subst ws9
              dsimp only [mPush]
              refine r_if_eqB (tgt := 95) hX dX4_offsetOf_87 (by decide) (fun c24 => ?_) (fun c24 => ?_)
              · have c24 := of_decide_eq_false c24
                refine r_aload_n hX dX4_offsetOf_95 rfl rfl ?_
                refine r_callV hX (z_X4_no ad ae cs K S 0 rest) kv_X4_80 14 rfl rfl rfl rfl (Nat.le_of_ble_eq_true rfl) ⟨(Nat.le_of_ble_eq_true rfl), (Nat.le_of_ble_eq_true rfl)⟩ ⟨(Nat.le_of_ble_eq_true rfl), (Nat.le_of_ble_eq_true rfl)⟩ dX4_offsetOf_96 (fun _ _ z => False.elim z) (fun v9 ws9 h25 => ?_)
                obtain ⟨rfl, hw9⟩ := h25
                subst ws9
                dsimp only [mPush]
                refine r_iret hX hE dX4_offsetOf_99 (Nat.le_of_ble_eq_true rfl) (Nat.le_of_ble_eq_true rfl) ⟨_, rfl, Or.inl ⟨by omega, ?_⟩⟩
                unfold oOff
                rw [if_neg (by omega)]
                exact ⟨rfl, rfl⟩
              · have c24 := of_decide_eq_true c24
                refine r_iload hX dX4_offsetOf_90 rfl ?_
                refine r_if_eqZ (tgt := 100) hX dX4_offsetOf_92 (by decide) (by decide) (fun q => absurd q (by decide)) (fun _ => ?_)
                refine r_aload_n hX dX4_offsetOf_95 rfl rfl ?_
                refine r_callV hX (z_X4_no ad ae cs K S 0 rest) kv_X4_80 14 rfl rfl rfl rfl (Nat.le_of_ble_eq_true rfl) ⟨(Nat.le_of_ble_eq_true rfl), (Nat.le_of_ble_eq_true rfl)⟩ ⟨(Nat.le_of_ble_eq_true rfl), (Nat.le_of_ble_eq_true rfl)⟩ dX4_offsetOf_96 (fun _ _ z => False.elim z) (fun v9 ws9 h26 => ?_)
                obtain ⟨rfl, hw9⟩ := h26
                subst ws9
                dsimp only [mPush]
                refine r_iret hX hE dX4_offsetOf_99 (Nat.le_of_ble_eq_true rfl) (Nat.le_of_ble_eq_true rfl) ⟨_, rfl, Or.inl ⟨by omega, ?_⟩⟩
                unfold oOff
                rw [if_neg (by omega)]
                exact ⟨rfl, rfl⟩
        · refine r_iload hX dX4_offsetOf_35 rfl ?_
          refine r_if_geZ (tgt := 44) hX dX4_offsetOf_37 (by decide) (by omega) (fun c27 => ?_) (fun c27 => ?_)
          · refine r_iconstZ hX dX4_offsetOf_44 ?_
            refine r_istore hX dX4_offsetOf_45 (by decide) rfl ?_
            refine r_iload_n hX dX4_offsetOf_47 rfl rfl ?_
            refine r_i2lZ hX dX4_offsetOf_48 (by omega) ?_
            refine r_ldc2Z (z := -18) hX kc_X4_72 (by decide) dX4_offsetOf_49 ?_
            refine r_ldc2Z (z := 18) hX kc_X4_74 (by decide) dX4_offsetOf_52 ?_
            refine r_callS hX (z_X4_isIn _ _ _ _ _ (by omega) (by omega) (by omega)) ks_X4_38 rfl rfl (Nat.le_of_ble_eq_true rfl) ⟨(Nat.le_of_ble_eq_true rfl), (Nat.le_of_ble_eq_true rfl)⟩ ⟨(Nat.le_of_ble_eq_true rfl), (Nat.le_of_ble_eq_true rfl)⟩ dX4_offsetOf_55 (fun _ _ z => False.elim z) (fun v9 ws9 h28 => ?_)
            obtain ⟨rfl, hw9⟩ := h28
            subst ws9
            dsimp only [mPush]
            refine r_if_eqB (tgt := 95) hX dX4_offsetOf_58 (by decide) (fun c29 => ?_) (fun c29 => ?_)
            · have c29 := of_decide_eq_false c29
              refine r_aload_n hX dX4_offsetOf_95 rfl rfl ?_
              refine r_callV hX (z_X4_no ad ae cs K S 0 rest) kv_X4_80 14 rfl rfl rfl rfl (Nat.le_of_ble_eq_true rfl) ⟨(Nat.le_of_ble_eq_true rfl), (Nat.le_of_ble_eq_true rfl)⟩ ⟨(Nat.le_of_ble_eq_true rfl), (Nat.le_of_ble_eq_true rfl)⟩ dX4_offsetOf_96 (fun _ _ z => False.elim z) (fun v9 ws9 h30 => ?_)
              obtain ⟨rfl, hw9⟩ := h30
              subst ws9
              dsimp only [mPush]
              refine r_iret hX hE dX4_offsetOf_99 (Nat.le_of_ble_eq_true rfl) (Nat.le_of_ble_eq_true rfl) ⟨_, rfl, Or.inl ⟨by omega, ?_⟩⟩
              unfold oOff
              rw [if_neg (by omega)]
              exact ⟨rfl, rfl⟩
            · have c29 := of_decide_eq_true c29
              refine r_iload_n hX dX4_offsetOf_61 rfl rfl ?_
              refine r_i2lZ hX dX4_offsetOf_62 (by omega) ?_
              refine r_ldc2Z (z := -59) hX kc_X4_76 (by decide) dX4_offsetOf_63 ?_
              refine r_ldc2Z (z := 59) hX kc_X4_78 (by decide) dX4_offsetOf_66 ?_
              refine r_callS hX (z_X4_isIn _ _ _ _ _ (by omega) (by omega) (by omega)) ks_X4_38 rfl rfl (Nat.le_of_ble_eq_true rfl) ⟨(Nat.le_of_ble_eq_true rfl), (Nat.le_of_ble_eq_true rfl)⟩ ⟨(Nat.le_of_ble_eq_true rfl), (Nat.le_of_ble_eq_true rfl)⟩ dX4_offsetOf_69 (fun _ _ z => False.elim z) (fun v9 ws9 h31 => ?_)
              obtain ⟨rfl, hw9⟩ := h31
              subst ws9
              dsimp only [mPush]
              refine r_if_eqB (tgt := 95) hX dX4_offsetOf_72 (by decide) (fun c32 => ?_) (fun c32 => ?_)
              · have c32 := of_decide_eq_false c32
                refine r_aload_n hX dX4_offsetOf_95 rfl rfl ?_
                refine r_callV hX (z_X4_no ad ae cs K S 0 rest) kv_X4_80 14 rfl rfl rfl rfl (Nat.le_of_ble_eq_true rfl) ⟨(Nat.le_of_ble_eq_true rfl), (Nat.le_of_ble_eq_true rfl)⟩ ⟨(Nat.le_of_ble_eq_true rfl), (Nat.le_of_ble_eq_true rfl)⟩ dX4_offsetOf_96 (fun _ _ z => False.elim z) (fun v9 ws9 h33 => ?_)
                obtain ⟨rfl, hw9⟩ := h33
                subst ws9
                dsimp only [mPush]
                refine r_iret hX hE dX4_offsetOf_99 (Nat.le_of_ble_eq_true rfl) (Nat.le_of_ble_eq_true rfl) ⟨_, rfl, Or.inl ⟨by omega, ?_⟩⟩
                unfold oOff
                rw [if_neg (by omega)]
                exact ⟨rfl, rfl⟩
              · have c32 := of_decide_eq_true c32
                refine r_iload hX dX4_offsetOf_75 rfl ?_
                refine r_i2lZ hX dX4_offsetOf_77 (by omega) ?_
                refine r_ldc2Z (z := -59) hX kc_X4_76 (by decide) dX4_offsetOf_78 ?_
                refine r_ldc2Z (z := 59) hX kc_X4_78 (by decide) dX4_offsetOf_81 ?_
                refine r_callS hX (z_X4_isIn _ _ _ _ _ (by omega) (by omega) (by omega)) ks_X4_38 rfl rfl (Nat.le_of_ble_eq_true rfl) ⟨(Nat.le_of_ble_eq_true rfl), (Nat.le_of_ble_eq_true rfl)⟩ ⟨(Nat.le_of_ble_eq_true rfl), (Nat.le_of_ble_eq_true rfl)⟩ dX4_offsetOf_84 (fun _ _ z => False.elim z) (fun v9 ws9 h34 => ?_)
                obtain ⟨rfl, hw9⟩ := h34
                subst ws9
                dsimp only [mPush]
                refine r_if_eqB (tgt := 95) hX dX4_offsetOf_87 (by decide) (fun c35 => ?_) (fun c35 => ?_)
                · have c35 := of_decide_eq_false c35
                  refine r_aload_n hX dX4_offsetOf_95 rfl rfl ?_
                  refine r_callV hX (z_X4_no ad ae cs K S 0 rest) kv_X4_80 14 rfl rfl rfl rfl (Nat.le_of_ble_eq_true rfl) ⟨(Nat.le_of_ble_eq_true rfl), (Nat.le_of_ble_eq_true rfl)⟩ ⟨(Nat.le_of_ble_eq_true rfl), (Nat.le_of_ble_eq_true rfl)⟩ dX4_offsetOf_96 (fun _ _ z => False.elim z) (fun v9 ws9 h36 => ?_)
                  obtain ⟨rfl, hw9⟩ := h36
                  subst ws9
                  dsimp only [mPush]
                  refine r_iret hX hE dX4_offsetOf_99 (Nat.le_of_ble_eq_true rfl) (Nat.le_of_ble_eq_true rfl) ⟨_, rfl, Or.inl ⟨by omega, ?_⟩⟩
                  unfold oOff
                  rw [if_neg (by omega)]
                  exact ⟨rfl, rfl⟩
                · have c35 := of_decide_eq_true c35
                  refine r_iload hX dX4_offsetOf_90 rfl ?_
                  refine r_if_eqZ (tgt := 100) hX dX4_offsetOf_92 (by decide) (by decide) (fun _ => ?_) (fun q => absurd (by decide) q)
                  refine r_sipushZ hX dX4_offsetOf_100 (by decide) ?_
                  refine r_iload_n hX dX4_offsetOf_103 rfl rfl ?_
                  refine r_imulZ hX dX4_offsetOf_104 ?_
                  refine r_bipushZ hX dX4_offsetOf_105 (by decide) ?_
                  refine r_iload_n hX dX4_offsetOf_107 rfl rfl ?_
                  refine r_imulZ hX dX4_offsetOf_108 ?_
                  refine r_iaddZ hX dX4_offsetOf_109 ?_
                  refine r_iload hX dX4_offsetOf_110 rfl ?_
                  refine r_iaddZ hX dX4_offsetOf_112 ?_
                  refine r_istore hX dX4_offsetOf_113 (by decide) rfl ?_
                  refine r_iload hX dX4_offsetOf_115 rfl ?_
                  refine r_i2lZ hX dX4_offsetOf_117 (by omega) ?_
                  refine r_ldc2Z (z := -64800) hX kc_X4_64 (by decide) dX4_offsetOf_118 ?_
                  refine r_ldc2Z (z := 64800) hX kc_X4_66 (by decide) dX4_offsetOf_121 ?_
                  refine r_callS hX (z_X4_isIn _ _ _ _ _ (by omega) (by omega) (by omega)) ks_X4_38 rfl rfl (Nat.le_of_ble_eq_true rfl) ⟨(Nat.le_of_ble_eq_true rfl), (Nat.le_of_ble_eq_true rfl)⟩ ⟨(Nat.le_of_ble_eq_true rfl), (Nat.le_of_ble_eq_true rfl)⟩ dX4_offsetOf_124 (fun _ _ z => False.elim z) (fun v9 ws9 h37 => ?_)
                  obtain ⟨rfl, hw9⟩ := h37
                  subst ws9
                  dsimp only [mPush]
                  refine r_if_neB (tgt := 135) hX dX4_offsetOf_127 (by decide) (fun c38 => ?_) (fun c38 => ?_)
                  · have c38 := of_decide_eq_true c38
                    refine r_aload_n hX dX4_offsetOf_135 rfl rfl ?_
                    refine r_get hX kf_X4_7 14 rfl rfl dX4_offsetOf_136 ?_
                    refine r_iload_n hX dX4_offsetOf_139 rfl rfl ?_
                    refine r_iload hX dX4_offsetOf_140 rfl ?_
                    refine r_iastZ hX 15 0 rfl rfl (a0).toNat (by omega) (by omega) (by decide) dX4_offsetOf_142 ?_
                    refine r_eqw (zRw_off (j := (a0).toNat) (z := ((3600 * a1) + (60 * a2)) + a3)) ?_
                    refine r_iload hX dX4_offsetOf_143 rfl ?_
                    refine r_iret hX hE dX4_offsetOf_145 (Nat.le_of_ble_eq_true rfl) (Nat.le_of_ble_eq_true rfl) ⟨_, rfl, Or.inl ⟨by omega, ?_⟩⟩
                    unfold oOff
                    rw [if_pos (by omega), show a1 * 3600 + a2 * 60 + a3 = 3600 * a1 + 60 * a2 + a3 by omega]
                    exact ⟨rfl, rfl⟩
                  · have c38 := of_decide_eq_false c38
                    refine r_aload_n hX dX4_offsetOf_130 rfl rfl ?_
                    refine r_callV hX (z_X4_no ad ae cs K S 0 rest) kv_X4_80 14 rfl rfl rfl rfl (Nat.le_of_ble_eq_true rfl) ⟨(Nat.le_of_ble_eq_true rfl), (Nat.le_of_ble_eq_true rfl)⟩ ⟨(Nat.le_of_ble_eq_true rfl), (Nat.le_of_ble_eq_true rfl)⟩ dX4_offsetOf_131 (fun _ _ z => False.elim z) (fun v9 ws9 h39 => ?_)
                    obtain ⟨rfl, hw9⟩ := h39
                    subst ws9
                    dsimp only [mPush]
                    refine r_iret hX hE dX4_offsetOf_134 (Nat.le_of_ble_eq_true rfl) (Nat.le_of_ble_eq_true rfl) ⟨_, rfl, Or.inl ⟨by omega, ?_⟩⟩
                    unfold oOff
                    rw [if_neg (by omega)]
                    exact ⟨rfl, rfl⟩
          · refine r_iconstZ hX dX4_offsetOf_40 ?_
            refine r_goto (tgt := 45) hX dX4_offsetOf_41 (by decide) ?_
            refine r_istore hX dX4_offsetOf_45 (by decide) rfl ?_
            refine r_iload_n hX dX4_offsetOf_47 rfl rfl ?_
            refine r_i2lZ hX dX4_offsetOf_48 (by omega) ?_
            refine r_ldc2Z (z := -18) hX kc_X4_72 (by decide) dX4_offsetOf_49 ?_
            refine r_ldc2Z (z := 18) hX kc_X4_74 (by decide) dX4_offsetOf_52 ?_
            refine r_callS hX (z_X4_isIn _ _ _ _ _ (by omega) (by omega) (by omega)) ks_X4_38 rfl rfl (Nat.le_of_ble_eq_true rfl) ⟨(Nat.le_of_ble_eq_true rfl), (Nat.le_of_ble_eq_true rfl)⟩ ⟨(Nat.le_of_ble_eq_true rfl), (Nat.le_of_ble_eq_true rfl)⟩ dX4_offsetOf_55 (fun _ _ z => False.elim z) (fun v9 ws9 h40 => ?_)
            obtain ⟨rfl, hw9⟩ := h40
            subst ws9
            dsimp only [mPush]
            refine r_if_eqB (tgt := 95) hX dX4_offsetOf_58 (by decide) (fun c41 => ?_) (fun c41 => ?_)
            · have c41 := of_decide_eq_false c41
              refine r_aload_n hX dX4_offsetOf_95 rfl rfl ?_
              refine r_callV hX (z_X4_no ad ae cs K S 0 rest) kv_X4_80 14 rfl rfl rfl rfl (Nat.le_of_ble_eq_true rfl) ⟨(Nat.le_of_ble_eq_true rfl), (Nat.le_of_ble_eq_true rfl)⟩ ⟨(Nat.le_of_ble_eq_true rfl), (Nat.le_of_ble_eq_true rfl)⟩ dX4_offsetOf_96 (fun _ _ z => False.elim z) (fun v9 ws9 h42 => ?_)
              obtain ⟨rfl, hw9⟩ := h42
              subst ws9
              dsimp only [mPush]
              refine r_iret hX hE dX4_offsetOf_99 (Nat.le_of_ble_eq_true rfl) (Nat.le_of_ble_eq_true rfl) ⟨_, rfl, Or.inl ⟨by omega, ?_⟩⟩
              unfold oOff
              rw [if_neg (by omega)]
              exact ⟨rfl, rfl⟩
            · have c41 := of_decide_eq_true c41
              refine r_iload_n hX dX4_offsetOf_61 rfl rfl ?_
              refine r_i2lZ hX dX4_offsetOf_62 (by omega) ?_
              refine r_ldc2Z (z := -59) hX kc_X4_76 (by decide) dX4_offsetOf_63 ?_
              refine r_ldc2Z (z := 59) hX kc_X4_78 (by decide) dX4_offsetOf_66 ?_
              refine r_callS hX (z_X4_isIn _ _ _ _ _ (by omega) (by omega) (by omega)) ks_X4_38 rfl rfl (Nat.le_of_ble_eq_true rfl) ⟨(Nat.le_of_ble_eq_true rfl), (Nat.le_of_ble_eq_true rfl)⟩ ⟨(Nat.le_of_ble_eq_true rfl), (Nat.le_of_ble_eq_true rfl)⟩ dX4_offsetOf_69 (fun _ _ z => False.elim z) (fun v9 ws9 h43 => ?_)
              obtain ⟨rfl, hw9⟩ := h43
              subst ws9
              dsimp only [mPush]
              refine r_if_eqB (tgt := 95) hX dX4_offsetOf_72 (by decide) (fun c44 => ?_) (fun c44 => ?_)
              · have c44 := of_decide_eq_false c44
                refine r_aload_n hX dX4_offsetOf_95 rfl rfl ?_
                refine r_callV hX (z_X4_no ad ae cs K S 0 rest) kv_X4_80 14 rfl rfl rfl rfl (Nat.le_of_ble_eq_true rfl) ⟨(Nat.le_of_ble_eq_true rfl), (Nat.le_of_ble_eq_true rfl)⟩ ⟨(Nat.le_of_ble_eq_true rfl), (Nat.le_of_ble_eq_true rfl)⟩ dX4_offsetOf_96 (fun _ _ z => False.elim z) (fun v9 ws9 h45 => ?_)
                obtain ⟨rfl, hw9⟩ := h45
                subst ws9
                dsimp only [mPush]
                refine r_iret hX hE dX4_offsetOf_99 (Nat.le_of_ble_eq_true rfl) (Nat.le_of_ble_eq_true rfl) ⟨_, rfl, Or.inl ⟨by omega, ?_⟩⟩
                unfold oOff
                rw [if_neg (by omega)]
                exact ⟨rfl, rfl⟩
              · have c44 := of_decide_eq_true c44
                refine r_iload hX dX4_offsetOf_75 rfl ?_
                refine r_i2lZ hX dX4_offsetOf_77 (by omega) ?_
                refine r_ldc2Z (z := -59) hX kc_X4_76 (by decide) dX4_offsetOf_78 ?_
                refine r_ldc2Z (z := 59) hX kc_X4_78 (by decide) dX4_offsetOf_81 ?_
                refine r_callS hX (z_X4_isIn _ _ _ _ _ (by omega) (by omega) (by omega)) ks_X4_38 rfl rfl (Nat.le_of_ble_eq_true rfl) ⟨(Nat.le_of_ble_eq_true rfl), (Nat.le_of_ble_eq_true rfl)⟩ ⟨(Nat.le_of_ble_eq_true rfl), (Nat.le_of_ble_eq_true rfl)⟩ dX4_offsetOf_84 (fun _ _ z => False.elim z) (fun v9 ws9 h46 => ?_)
                obtain ⟨rfl, hw9⟩ := h46
                subst ws9
                dsimp only [mPush]
                refine r_if_eqB (tgt := 95) hX dX4_offsetOf_87 (by decide) (fun c47 => ?_) (fun c47 => ?_)
                · have c47 := of_decide_eq_false c47
                  refine r_aload_n hX dX4_offsetOf_95 rfl rfl ?_
                  refine r_callV hX (z_X4_no ad ae cs K S 0 rest) kv_X4_80 14 rfl rfl rfl rfl (Nat.le_of_ble_eq_true rfl) ⟨(Nat.le_of_ble_eq_true rfl), (Nat.le_of_ble_eq_true rfl)⟩ ⟨(Nat.le_of_ble_eq_true rfl), (Nat.le_of_ble_eq_true rfl)⟩ dX4_offsetOf_96 (fun _ _ z => False.elim z) (fun v9 ws9 h48 => ?_)
                  obtain ⟨rfl, hw9⟩ := h48
                  subst ws9
                  dsimp only [mPush]
                  refine r_iret hX hE dX4_offsetOf_99 (Nat.le_of_ble_eq_true rfl) (Nat.le_of_ble_eq_true rfl) ⟨_, rfl, Or.inl ⟨by omega, ?_⟩⟩
                  unfold oOff
                  rw [if_neg (by omega)]
                  exact ⟨rfl, rfl⟩
                · have c47 := of_decide_eq_true c47
                  refine r_iload hX dX4_offsetOf_90 rfl ?_
                  refine r_if_eqZ (tgt := 100) hX dX4_offsetOf_92 (by decide) (by decide) (fun q => absurd q (by decide)) (fun _ => ?_)
                  refine r_aload_n hX dX4_offsetOf_95 rfl rfl ?_
                  refine r_callV hX (z_X4_no ad ae cs K S 0 rest) kv_X4_80 14 rfl rfl rfl rfl (Nat.le_of_ble_eq_true rfl) ⟨(Nat.le_of_ble_eq_true rfl), (Nat.le_of_ble_eq_true rfl)⟩ ⟨(Nat.le_of_ble_eq_true rfl), (Nat.le_of_ble_eq_true rfl)⟩ dX4_offsetOf_96 (fun _ _ z => False.elim z) (fun v9 ws9 h49 => ?_)
                  obtain ⟨rfl, hw9⟩ := h49
                  subst ws9
                  dsimp only [mPush]
                  refine r_iret hX hE dX4_offsetOf_99 (Nat.le_of_ble_eq_true rfl) (Nat.le_of_ble_eq_true rfl) ⟨_, rfl, Or.inl ⟨by omega, ?_⟩⟩
                  unfold oOff
                  rw [if_neg (by omega)]
                  exact ⟨rfl, rfl⟩
    · refine r_iload_n hX dX4_offsetOf_18 rfl rfl ?_
      refine r_if_gtZ (tgt := 27) hX dX4_offsetOf_19 (by decide) (by omega) (fun c50 => ?_) (fun c50 => ?_)
      · refine r_iload_n hX dX4_offsetOf_27 rfl rfl ?_
        refine r_if_ltZ (tgt := 40) hX dX4_offsetOf_28 (by decide) (by omega) (fun c51 => ?_) (fun c51 => ?_)
        · refine r_iconstZ hX dX4_offsetOf_40 ?_
          refine r_goto (tgt := 45) hX dX4_offsetOf_41 (by decide) ?_
          refine r_istore hX dX4_offsetOf_45 (by decide) rfl ?_
          refine r_iload_n hX dX4_offsetOf_47 rfl rfl ?_
          refine r_i2lZ hX dX4_offsetOf_48 (by omega) ?_
          refine r_ldc2Z (z := -18) hX kc_X4_72 (by decide) dX4_offsetOf_49 ?_
          refine r_ldc2Z (z := 18) hX kc_X4_74 (by decide) dX4_offsetOf_52 ?_
          refine r_callS hX (z_X4_isIn _ _ _ _ _ (by omega) (by omega) (by omega)) ks_X4_38 rfl rfl (Nat.le_of_ble_eq_true rfl) ⟨(Nat.le_of_ble_eq_true rfl), (Nat.le_of_ble_eq_true rfl)⟩ ⟨(Nat.le_of_ble_eq_true rfl), (Nat.le_of_ble_eq_true rfl)⟩ dX4_offsetOf_55 (fun _ _ z => False.elim z) (fun v9 ws9 h52 => ?_)
          obtain ⟨rfl, hw9⟩ := h52
          subst ws9
          dsimp only [mPush]
          refine r_if_eqB (tgt := 95) hX dX4_offsetOf_58 (by decide) (fun c53 => ?_) (fun c53 => ?_)
          · have c53 := of_decide_eq_false c53
            refine r_aload_n hX dX4_offsetOf_95 rfl rfl ?_
            refine r_callV hX (z_X4_no ad ae cs K S 0 rest) kv_X4_80 14 rfl rfl rfl rfl (Nat.le_of_ble_eq_true rfl) ⟨(Nat.le_of_ble_eq_true rfl), (Nat.le_of_ble_eq_true rfl)⟩ ⟨(Nat.le_of_ble_eq_true rfl), (Nat.le_of_ble_eq_true rfl)⟩ dX4_offsetOf_96 (fun _ _ z => False.elim z) (fun v9 ws9 h54 => ?_)
            obtain ⟨rfl, hw9⟩ := h54
            subst ws9
            dsimp only [mPush]
            refine r_iret hX hE dX4_offsetOf_99 (Nat.le_of_ble_eq_true rfl) (Nat.le_of_ble_eq_true rfl) ⟨_, rfl, Or.inl ⟨by omega, ?_⟩⟩
            unfold oOff
            rw [if_neg (by omega)]
            exact ⟨rfl, rfl⟩
          · have c53 := of_decide_eq_true c53
            refine r_iload_n hX dX4_offsetOf_61 rfl rfl ?_
            refine r_i2lZ hX dX4_offsetOf_62 (by omega) ?_
            refine r_ldc2Z (z := -59) hX kc_X4_76 (by decide) dX4_offsetOf_63 ?_
            refine r_ldc2Z (z := 59) hX kc_X4_78 (by decide) dX4_offsetOf_66 ?_
            refine r_callS hX (z_X4_isIn _ _ _ _ _ (by omega) (by omega) (by omega)) ks_X4_38 rfl rfl (Nat.le_of_ble_eq_true rfl) ⟨(Nat.le_of_ble_eq_true rfl), (Nat.le_of_ble_eq_true rfl)⟩ ⟨(Nat.le_of_ble_eq_true rfl), (Nat.le_of_ble_eq_true rfl)⟩ dX4_offsetOf_69 (fun _ _ z => False.elim z) (fun v9 ws9 h55 => ?_)
            obtain ⟨rfl, hw9⟩ := h55
            subst ws9
            dsimp only [mPush]
            refine r_if_eqB (tgt := 95) hX dX4_offsetOf_72 (by decide) (fun c56 => ?_) (fun c56 => ?_)
            · have c56 := of_decide_eq_false c56
              refine r_aload_n hX dX4_offsetOf_95 rfl rfl ?_
              refine r_callV hX (z_X4_no ad ae cs K S 0 rest) kv_X4_80 14 rfl rfl rfl rfl (Nat.le_of_ble_eq_true rfl) ⟨(Nat.le_of_ble_eq_true rfl), (Nat.le_of_ble_eq_true rfl)⟩ ⟨(Nat.le_of_ble_eq_true rfl), (Nat.le_of_ble_eq_true rfl)⟩ dX4_offsetOf_96 (fun _ _ z => False.elim z) (fun v9 ws9 h57 => ?_)
              obtain ⟨rfl, hw9⟩ := h57
              subst ws9
              dsimp only [mPush]
              refine r_iret hX hE dX4_offsetOf_99 (Nat.le_of_ble_eq_true rfl) (Nat.le_of_ble_eq_true rfl) ⟨_, rfl, Or.inl ⟨by omega, ?_⟩⟩
              unfold oOff
              rw [if_neg (by omega)]
              exact ⟨rfl, rfl⟩
            · have c56 := of_decide_eq_true c56
              refine r_iload hX dX4_offsetOf_75 rfl ?_
              refine r_i2lZ hX dX4_offsetOf_77 (by omega) ?_
              refine r_ldc2Z (z := -59) hX kc_X4_76 (by decide) dX4_offsetOf_78 ?_
              refine r_ldc2Z (z := 59) hX kc_X4_78 (by decide) dX4_offsetOf_81 ?_
              refine r_callS hX (z_X4_isIn _ _ _ _ _ (by omega) (by omega) (by omega)) ks_X4_38 rfl rfl (Nat.le_of_ble_eq_true rfl) ⟨(Nat.le_of_ble_eq_true rfl), (Nat.le_of_ble_eq_true rfl)⟩ ⟨(Nat.le_of_ble_eq_true rfl), (Nat.le_of_ble_eq_true rfl)⟩ dX4_offsetOf_84 (fun _ _ z => False.elim z) (fun v9 ws9 h58 => ?_)
              obtain ⟨rfl, hw9⟩ := h58
              subst ws9
              dsimp only [mPush]
              refine r_if_eqB (tgt := 95) hX dX4_offsetOf_87 (by decide) (fun c59 => ?_) (fun c59 => ?_)
              · have c59 := of_decide_eq_false c59
                refine r_aload_n hX dX4_offsetOf_95 rfl rfl ?_
                refine r_callV hX (z_X4_no ad ae cs K S 0 rest) kv_X4_80 14 rfl rfl rfl rfl (Nat.le_of_ble_eq_true rfl) ⟨(Nat.le_of_ble_eq_true rfl), (Nat.le_of_ble_eq_true rfl)⟩ ⟨(Nat.le_of_ble_eq_true rfl), (Nat.le_of_ble_eq_true rfl)⟩ dX4_offsetOf_96 (fun _ _ z => False.elim z) (fun v9 ws9 h60 => ?_)
                obtain ⟨rfl, hw9⟩ := h60
                subst ws9
                dsimp only [mPush]
                refine r_iret hX hE dX4_offsetOf_99 (Nat.le_of_ble_eq_true rfl) (Nat.le_of_ble_eq_true rfl) ⟨_, rfl, Or.inl ⟨by omega, ?_⟩⟩
                unfold oOff
                rw [if_neg (by omega)]
                exact ⟨rfl, rfl⟩
              · have c59 := of_decide_eq_true c59
                refine r_iload hX dX4_offsetOf_90 rfl ?_
                refine r_if_eqZ (tgt := 100) hX dX4_offsetOf_92 (by decide) (by decide) (fun q => absurd q (by decide)) (fun _ => ?_)
                refine r_aload_n hX dX4_offsetOf_95 rfl rfl ?_
                refine r_callV hX (z_X4_no ad ae cs K S 0 rest) kv_X4_80 14 rfl rfl rfl rfl (Nat.le_of_ble_eq_true rfl) ⟨(Nat.le_of_ble_eq_true rfl), (Nat.le_of_ble_eq_true rfl)⟩ ⟨(Nat.le_of_ble_eq_true rfl), (Nat.le_of_ble_eq_true rfl)⟩ dX4_offsetOf_96 (fun _ _ z => False.elim z) (fun v9 ws9 h61 => ?_)
                obtain ⟨rfl, hw9⟩ := h61
                subst ws9
                dsimp only [mPush]
                refine r_iret hX hE dX4_offsetOf_99 (Nat.le_of_ble_eq_true rfl) (Nat.le_of_ble_eq_true rfl) ⟨_, rfl, Or.inl ⟨by omega, ?_⟩⟩
                unfold oOff
                rw [if_neg (by omega)]
                exact ⟨rfl, rfl⟩
        · refine r_iload_n hX dX4_offsetOf_31 rfl rfl ?_
          refine r_if_ltZ (tgt := 40) hX dX4_offsetOf_32 (by decide) (by omega) (fun c62 => ?_) (fun c62 => ?_)
          · refine r_iconstZ hX dX4_offsetOf_40 ?_
            refine r_goto (tgt := 45) hX dX4_offsetOf_41 (by decide) ?_
            refine r_istore hX dX4_offsetOf_45 (by decide) rfl ?_
            refine r_iload_n hX dX4_offsetOf_47 rfl rfl ?_
            refine r_i2lZ hX dX4_offsetOf_48 (by omega) ?_
            refine r_ldc2Z (z := -18) hX kc_X4_72 (by decide) dX4_offsetOf_49 ?_
            refine r_ldc2Z (z := 18) hX kc_X4_74 (by decide) dX4_offsetOf_52 ?_
            refine r_callS hX (z_X4_isIn _ _ _ _ _ (by omega) (by omega) (by omega)) ks_X4_38 rfl rfl (Nat.le_of_ble_eq_true rfl) ⟨(Nat.le_of_ble_eq_true rfl), (Nat.le_of_ble_eq_true rfl)⟩ ⟨(Nat.le_of_ble_eq_true rfl), (Nat.le_of_ble_eq_true rfl)⟩ dX4_offsetOf_55 (fun _ _ z => False.elim z) (fun v9 ws9 h63 => ?_)
            obtain ⟨rfl, hw9⟩ := h63
            subst ws9
            dsimp only [mPush]
            refine r_if_eqB (tgt := 95) hX dX4_offsetOf_58 (by decide) (fun c64 => ?_) (fun c64 => ?_)
            · have c64 := of_decide_eq_false c64
              refine r_aload_n hX dX4_offsetOf_95 rfl rfl ?_
              refine r_callV hX (z_X4_no ad ae cs K S 0 rest) kv_X4_80 14 rfl rfl rfl rfl (Nat.le_of_ble_eq_true rfl) ⟨(Nat.le_of_ble_eq_true rfl), (Nat.le_of_ble_eq_true rfl)⟩ ⟨(Nat.le_of_ble_eq_true rfl), (Nat.le_of_ble_eq_true rfl)⟩ dX4_offsetOf_96 (fun _ _ z => False.elim z) (fun v9 ws9 h65 => ?_)
              obtain ⟨rfl, hw9⟩ := h65
              subst ws9
              dsimp only [mPush]
              refine r_iret hX hE dX4_offsetOf_99 (Nat.le_of_ble_eq_true rfl) (Nat.le_of_ble_eq_true rfl) ⟨_, rfl, Or.inl ⟨by omega, ?_⟩⟩
              unfold oOff
              rw [if_neg (by omega)]
              exact ⟨rfl, rfl⟩
            · have c64 := of_decide_eq_true c64
              refine r_iload_n hX dX4_offsetOf_61 rfl rfl ?_
              refine r_i2lZ hX dX4_offsetOf_62 (by omega) ?_
              refine r_ldc2Z (z := -59) hX kc_X4_76 (by decide) dX4_offsetOf_63 ?_
              refine r_ldc2Z (z := 59) hX kc_X4_78 (by decide) dX4_offsetOf_66 ?_
              refine r_callS hX (z_X4_isIn _ _ _ _ _ (by omega) (by omega) (by omega)) ks_X4_38 rfl rfl (Nat.le_of_ble_eq_true rfl) ⟨(Nat.le_of_ble_eq_true rfl), (Nat.le_of_ble_eq_true rfl)⟩ ⟨(Nat.le_of_ble_eq_true rfl), (Nat.le_of_ble_eq_true rfl)⟩ dX4_offsetOf_69 (fun _ _ z => False.elim z) (fun v9 ws9 h66 => ?_)
              obtain ⟨rfl, hw9⟩ := h66
              subst ws9
              dsimp only [mPush]
              refine r_if_eqB (tgt := 95) hX dX4_offsetOf_72 (by decide) (fun c67 => ?_) (fun c67 => ?_)
              · have c67 := of_decide_eq_false c67
                refine r_aload_n hX dX4_offsetOf_95 rfl rfl ?_
                refine r_callV hX (z_X4_no ad ae cs K S 0 rest) kv_X4_80 14 rfl rfl rfl rfl (Nat.le_of_ble_eq_true rfl) ⟨(Nat.le_of_ble_eq_true rfl), (Nat.le_of_ble_eq_true rfl)⟩ ⟨(Nat.le_of_ble_eq_true rfl), (Nat.le_of_ble_eq_true rfl)⟩ dX4_offsetOf_96 (fun _ _ z => False.elim z) (fun v9 ws9 h68 => ?_)
                obtain ⟨rfl, hw9⟩ := h68
                subst ws9
                dsimp only [mPush]
                refine r_iret hX hE dX4_offsetOf_99 (Nat.le_of_ble_eq_true rfl) (Nat.le_of_ble_eq_true rfl) ⟨_, rfl, Or.inl ⟨by omega, ?_⟩⟩
                unfold oOff
                rw [if_neg (by omega)]
                exact ⟨rfl, rfl⟩
              · have c67 := of_decide_eq_true c67
                refine r_iload hX dX4_offsetOf_75 rfl ?_
                refine r_i2lZ hX dX4_offsetOf_77 (by omega) ?_
                refine r_ldc2Z (z := -59) hX kc_X4_76 (by decide) dX4_offsetOf_78 ?_
                refine r_ldc2Z (z := 59) hX kc_X4_78 (by decide) dX4_offsetOf_81 ?_
                refine r_callS hX (z_X4_isIn _ _ _ _ _ (by omega) (by omega) (by omega)) ks_X4_38 rfl rfl (Nat.le_of_ble_eq_true rfl) ⟨(Nat.le_of_ble_eq_true rfl), (Nat.le_of_ble_eq_true rfl)⟩ ⟨(Nat.le_of_ble_eq_true rfl), (Nat.le_of_ble_eq_true rfl)⟩ dX4_offsetOf_84 (fun _ _ z => False.elim z) (fun v9 ws9 h69 => ?_)
                obtain ⟨rfl, hw9⟩ := h69
                subst ws9
                dsimp only [mPush]
                refine r_if_eqB (tgt := 95) hX dX4_offsetOf_87 (by decide) (fun c70 => ?_) (fun c70 => ?_)
                · have c70 := of_decide_eq_false c70
                  refine r_aload_n hX dX4_offsetOf_95 rfl rfl ?_
                  refine r_callV hX (z_X4_no ad ae cs K S 0 rest) kv_X4_80 14 rfl rfl rfl rfl (Nat.le_of_ble_eq_true rfl) ⟨(Nat.le_of_ble_eq_true rfl), (Nat.le_of_ble_eq_true rfl)⟩ ⟨(Nat.le_of_ble_eq_true rfl), (Nat.le_of_ble_eq_true rfl)⟩ dX4_offsetOf_96 (fun _ _ z => False.elim z) (fun v9 ws9 h71 => ?_)
                  obtain ⟨rfl, hw9⟩ := h71
                  subst ws9
                  dsimp only [mPush]
                  refine r_iret hX hE dX4_offsetOf_99 (Nat.le_of_ble_eq_true rfl) (Nat.le_of_ble_eq_true rfl) ⟨_, rfl, Or.inl ⟨by omega, ?_⟩⟩
                  unfold oOff
                  rw [if_neg (by omega)]
                  exact ⟨rfl, rfl⟩
                · have c70 := of_decide_eq_true c70
                  refine r_iload hX dX4_offsetOf_90 rfl ?_
                  refine r_if_eqZ (tgt := 100) hX dX4_offsetOf_92 (by decide) (by decide) (fun q => absurd q (by decide)) (fun _ => ?_)
                  refine r_aload_n hX dX4_offsetOf_95 rfl rfl ?_
                  refine r_callV hX (z_X4_no ad ae cs K S 0 rest) kv_X4_80 14 rfl rfl rfl rfl (Nat.le_of_ble_eq_true rfl) ⟨(Nat.le_of_ble_eq_true rfl), (Nat.le_of_ble_eq_true rfl)⟩ ⟨(Nat.le_of_ble_eq_true rfl), (Nat.le_of_ble_eq_true rfl)⟩ dX4_offsetOf_96 (fun _ _ z => False.elim z) (fun v9 ws9 h72 => ?_)
                  obtain ⟨rfl, hw9⟩ := h72
                  subst ws9
                  dsimp only [mPush]
                  refine r_iret hX hE dX4_offsetOf_99 (Nat.le_of_ble_eq_true rfl) (Nat.le_of_ble_eq_true rfl) ⟨_, rfl, Or.inl ⟨by omega, ?_⟩⟩
                  unfold oOff
                  rw [if_neg (by omega)]
                  exact ⟨rfl, rfl⟩
          · refine r_iload hX dX4_offsetOf_35 rfl ?_
            refine r_if_geZ (tgt := 44) hX dX4_offsetOf_37 (by decide) (by omega) (fun c73 => ?_) (fun c73 => ?_)
            · refine r_iconstZ hX dX4_offsetOf_44 ?_
              refine r_istore hX dX4_offsetOf_45 (by decide) rfl ?_
              refine r_iload_n hX dX4_offsetOf_47 rfl rfl ?_
              refine r_i2lZ hX dX4_offsetOf_48 (by omega) ?_
              refine r_ldc2Z (z := -18) hX kc_X4_72 (by decide) dX4_offsetOf_49 ?_
              refine r_ldc2Z (z := 18) hX kc_X4_74 (by decide) dX4_offsetOf_52 ?_
              refine r_callS hX (z_X4_isIn _ _ _ _ _ (by omega) (by omega) (by omega)) ks_X4_38 rfl rfl (Nat.le_of_ble_eq_true rfl) ⟨(Nat.le_of_ble_eq_true rfl), (Nat.le_of_ble_eq_true rfl)⟩ ⟨(Nat.le_of_ble_eq_true rfl), (Nat.le_of_ble_eq_true rfl)⟩ dX4_offsetOf_55 (fun _ _ z => False.elim z) (fun v9 ws9 h74 => ?_)
              obtain ⟨rfl, hw9⟩ := h74
              subst ws9
              dsimp only [mPush]
              refine r_if_eqB (tgt := 95) hX dX4_offsetOf_58 (by decide) (fun c75 => ?_) (fun c75 => ?_)
              · have c75 := of_decide_eq_false c75
                refine r_aload_n hX dX4_offsetOf_95 rfl rfl ?_
                refine r_callV hX (z_X4_no ad ae cs K S 0 rest) kv_X4_80 14 rfl rfl rfl rfl (Nat.le_of_ble_eq_true rfl) ⟨(Nat.le_of_ble_eq_true rfl), (Nat.le_of_ble_eq_true rfl)⟩ ⟨(Nat.le_of_ble_eq_true rfl), (Nat.le_of_ble_eq_true rfl)⟩ dX4_offsetOf_96 (fun _ _ z => False.elim z) (fun v9 ws9 h76 => ?_)
                obtain ⟨rfl, hw9⟩ := h76
                subst ws9
                dsimp only [mPush]
                refine r_iret hX hE dX4_offsetOf_99 (Nat.le_of_ble_eq_true rfl) (Nat.le_of_ble_eq_true rfl) ⟨_, rfl, Or.inl ⟨by omega, ?_⟩⟩
                unfold oOff
                rw [if_neg (by omega)]
                exact ⟨rfl, rfl⟩
              · have c75 := of_decide_eq_true c75
                refine r_iload_n hX dX4_offsetOf_61 rfl rfl ?_
                refine r_i2lZ hX dX4_offsetOf_62 (by omega) ?_
                refine r_ldc2Z (z := -59) hX kc_X4_76 (by decide) dX4_offsetOf_63 ?_
                refine r_ldc2Z (z := 59) hX kc_X4_78 (by decide) dX4_offsetOf_66 ?_
                refine r_callS hX (z_X4_isIn _ _ _ _ _ (by omega) (by omega) (by omega)) ks_X4_38 rfl rfl (Nat.le_of_ble_eq_true rfl) ⟨(Nat.le_of_ble_eq_true rfl), (Nat.le_of_ble_eq_true rfl)⟩ ⟨(Nat.le_of_ble_eq_true rfl), (Nat.le_of_ble_eq_true rfl)⟩ dX4_offsetOf_69 (fun _ _ z => False.elim z) (fun v9 ws9 h77 => ?_)
                obtain ⟨rfl, hw9⟩ := h77
                subst ws9
                dsimp only [mPush]
                refine r_if_eqB (tgt := 95) hX dX4_offsetOf_72 (by decide) (fun c78 => ?_) (fun c78 => ?_)
                · have c78 := of_decide_eq_false c78
                  refine r_aload_n hX dX4_offsetOf_95 rfl rfl ?_
                  refine r_callV hX (z_X4_no ad ae cs K S 0 rest) kv_X4_80 14 rfl rfl rfl rfl (Nat.le_of_ble_eq_true rfl) ⟨(Nat.le_of_ble_eq_true rfl), (Nat.le_of_ble_eq_true rfl)⟩ ⟨(Nat.le_of_ble_eq_true rfl), (Nat.le_of_ble_eq_true rfl)⟩ dX4_offsetOf_96 (fun _ _ z => False.elim z) (fun v9 ws9 h79 => ?_)
                  obtain ⟨rfl, hw9⟩ := h79
                  subst ws9
                  dsimp only [mPush]
                  refine r_iret hX hE dX4_offsetOf_99 (Nat.le_of_ble_eq_true rfl) (Nat.le_of_ble_eq_true rfl) ⟨_, rfl, Or.inl ⟨by omega, ?_⟩⟩
                  unfold oOff
                  rw [if_neg (by omega)]
                  exact ⟨rfl, rfl⟩
                · have c78 := of_decide_eq_true c78
                  refine r_iload hX dX4_offsetOf_75 rfl ?_
                  refine r_i2lZ hX dX4_offsetOf_77 (by omega) ?_
                  refine r_ldc2Z (z := -59) hX kc_X4_76 (by decide) dX4_offsetOf_78 ?_
                  refine r_ldc2Z (z := 59) hX kc_X4_78 (by decide) dX4_offsetOf_81 ?_
                  refine r_callS hX (z_X4_isIn _ _ _ _ _ (by omega) (by omega) (by omega)) ks_X4_38 rfl rfl (Nat.le_of_ble_eq_true rfl) ⟨(Nat.le_of_ble_eq_true rfl), (Nat.le_of_ble_eq_true rfl)⟩ ⟨(Nat.le_of_ble_eq_true rfl), (Nat.le_of_ble_eq_true rfl)⟩ dX4_offsetOf_84 (fun _ _ z => False.elim z) (fun v9 ws9 h80 => ?_)
                  obtain ⟨rfl, hw9⟩ := h80
                  subst ws9
                  dsimp only [mPush]
                  refine r_if_eqB (tgt := 95) hX dX4_offsetOf_87 (by decide) (fun c81 => ?_) (fun c81 => ?_)
                  · have c81 := of_decide_eq_false c81
                    refine r_aload_n hX dX4_offsetOf_95 rfl rfl ?_
                    refine r_callV hX (z_X4_no ad ae cs K S 0 rest) kv_X4_80 14 rfl rfl rfl rfl (Nat.le_of_ble_eq_true rfl) ⟨(Nat.le_of_ble_eq_true rfl), (Nat.le_of_ble_eq_true rfl)⟩ ⟨(Nat.le_of_ble_eq_true rfl), (Nat.le_of_ble_eq_true rfl)⟩ dX4_offsetOf_96 (fun _ _ z => False.elim z) (fun v9 ws9 h82 => ?_)
                    obtain ⟨rfl, hw9⟩ := h82
                    subst ws9
                    dsimp only [mPush]
                    refine r_iret hX hE dX4_offsetOf_99 (Nat.le_of_ble_eq_true rfl) (Nat.le_of_ble_eq_true rfl) ⟨_, rfl, Or.inl ⟨by omega, ?_⟩⟩
                    unfold oOff
                    rw [if_neg (by omega)]
                    exact ⟨rfl, rfl⟩
                  · have c81 := of_decide_eq_true c81
                    refine r_iload hX dX4_offsetOf_90 rfl ?_
                    refine r_if_eqZ (tgt := 100) hX dX4_offsetOf_92 (by decide) (by decide) (fun _ => ?_) (fun q => absurd (by decide) q)
                    refine r_sipushZ hX dX4_offsetOf_100 (by decide) ?_
                    refine r_iload_n hX dX4_offsetOf_103 rfl rfl ?_
                    refine r_imulZ hX dX4_offsetOf_104 ?_
                    refine r_bipushZ hX dX4_offsetOf_105 (by decide) ?_
                    refine r_iload_n hX dX4_offsetOf_107 rfl rfl ?_
                    refine r_imulZ hX dX4_offsetOf_108 ?_
                    refine r_iaddZ hX dX4_offsetOf_109 ?_
                    refine r_iload hX dX4_offsetOf_110 rfl ?_
                    refine r_iaddZ hX dX4_offsetOf_112 ?_
                    refine r_istore hX dX4_offsetOf_113 (by decide) rfl ?_
                    refine r_iload hX dX4_offsetOf_115 rfl ?_
                    refine r_i2lZ hX dX4_offsetOf_117 (by omega) ?_
                    refine r_ldc2Z (z := -64800) hX kc_X4_64 (by decide) dX4_offsetOf_118 ?_
                    refine r_ldc2Z (z := 64800) hX kc_X4_66 (by decide) dX4_offsetOf_121 ?_
                    refine r_callS hX (z_X4_isIn _ _ _ _ _ (by omega) (by omega) (by omega)) ks_X4_38 rfl rfl (Nat.le_of_ble_eq_true rfl) ⟨(Nat.le_of_ble_eq_true rfl), (Nat.le_of_ble_eq_true rfl)⟩ ⟨(Nat.le_of_ble_eq_true rfl), (Nat.le_of_ble_eq_true rfl)⟩ dX4_offsetOf_124 (fun _ _ z => False.elim z) (fun v9 ws9 h83 => ?_)
                    obtain ⟨rfl, hw9⟩ := h83
                    subst ws9
                    dsimp only [mPush]
                    refine r_if_neB (tgt := 135) hX dX4_offsetOf_127 (by decide) (fun c84 => ?_) (fun c84 => ?_)
                    · have c84 := of_decide_eq_true c84
                      refine r_aload_n hX dX4_offsetOf_135 rfl rfl ?_
                      refine r_get hX kf_X4_7 14 rfl rfl dX4_offsetOf_136 ?_
                      refine r_iload_n hX dX4_offsetOf_139 rfl rfl ?_
                      refine r_iload hX dX4_offsetOf_140 rfl ?_
                      refine r_iastZ hX 15 0 rfl rfl (a0).toNat (by omega) (by omega) (by decide) dX4_offsetOf_142 ?_
                      refine r_eqw (zRw_off (j := (a0).toNat) (z := ((3600 * a1) + (60 * a2)) + a3)) ?_
                      refine r_iload hX dX4_offsetOf_143 rfl ?_
                      refine r_iret hX hE dX4_offsetOf_145 (Nat.le_of_ble_eq_true rfl) (Nat.le_of_ble_eq_true rfl) ⟨_, rfl, Or.inl ⟨by omega, ?_⟩⟩
                      unfold oOff
                      rw [if_pos (by omega), show a1 * 3600 + a2 * 60 + a3 = 3600 * a1 + 60 * a2 + a3 by omega]
                      exact ⟨rfl, rfl⟩
                    · have c84 := of_decide_eq_false c84
                      refine r_aload_n hX dX4_offsetOf_130 rfl rfl ?_
                      refine r_callV hX (z_X4_no ad ae cs K S 0 rest) kv_X4_80 14 rfl rfl rfl rfl (Nat.le_of_ble_eq_true rfl) ⟨(Nat.le_of_ble_eq_true rfl), (Nat.le_of_ble_eq_true rfl)⟩ ⟨(Nat.le_of_ble_eq_true rfl), (Nat.le_of_ble_eq_true rfl)⟩ dX4_offsetOf_131 (fun _ _ z => False.elim z) (fun v9 ws9 h85 => ?_)
                      obtain ⟨rfl, hw9⟩ := h85
                      subst ws9
                      dsimp only [mPush]
                      refine r_iret hX hE dX4_offsetOf_134 (Nat.le_of_ble_eq_true rfl) (Nat.le_of_ble_eq_true rfl) ⟨_, rfl, Or.inl ⟨by omega, ?_⟩⟩
                      unfold oOff
                      rw [if_neg (by omega)]
                      exact ⟨rfl, rfl⟩
            · refine r_iconstZ hX dX4_offsetOf_40 ?_
              refine r_goto (tgt := 45) hX dX4_offsetOf_41 (by decide) ?_
              refine r_istore hX dX4_offsetOf_45 (by decide) rfl ?_
              refine r_iload_n hX dX4_offsetOf_47 rfl rfl ?_
              refine r_i2lZ hX dX4_offsetOf_48 (by omega) ?_
              refine r_ldc2Z (z := -18) hX kc_X4_72 (by decide) dX4_offsetOf_49 ?_
              refine r_ldc2Z (z := 18) hX kc_X4_74 (by decide) dX4_offsetOf_52 ?_
              refine r_callS hX (z_X4_isIn _ _ _ _ _ (by omega) (by omega) (by omega)) ks_X4_38 rfl rfl (Nat.le_of_ble_eq_true rfl) ⟨(Nat.le_of_ble_eq_true rfl), (Nat.le_of_ble_eq_true rfl)⟩ ⟨(Nat.le_of_ble_eq_true rfl), (Nat.le_of_ble_eq_true rfl)⟩ dX4_offsetOf_55 (fun _ _ z => False.elim z) (fun v9 ws9 h86 => ?_)
              obtain ⟨rfl, hw9⟩ := h86
              subst ws9
              dsimp only [mPush]
              refine r_if_eqB (tgt := 95) hX dX4_offsetOf_58 (by decide) (fun c87 => ?_) (fun c87 => ?_)
              · have c87 := of_decide_eq_false c87
                refine r_aload_n hX dX4_offsetOf_95 rfl rfl ?_
                refine r_callV hX (z_X4_no ad ae cs K S 0 rest) kv_X4_80 14 rfl rfl rfl rfl (Nat.le_of_ble_eq_true rfl) ⟨(Nat.le_of_ble_eq_true rfl), (Nat.le_of_ble_eq_true rfl)⟩ ⟨(Nat.le_of_ble_eq_true rfl), (Nat.le_of_ble_eq_true rfl)⟩ dX4_offsetOf_96 (fun _ _ z => False.elim z) (fun v9 ws9 h88 => ?_)
                obtain ⟨rfl, hw9⟩ := h88
                subst ws9
                dsimp only [mPush]
                refine r_iret hX hE dX4_offsetOf_99 (Nat.le_of_ble_eq_true rfl) (Nat.le_of_ble_eq_true rfl) ⟨_, rfl, Or.inl ⟨by omega, ?_⟩⟩
                unfold oOff
                rw [if_neg (by omega)]
                exact ⟨rfl, rfl⟩
              · have c87 := of_decide_eq_true c87
                refine r_iload_n hX dX4_offsetOf_61 rfl rfl ?_
                refine r_i2lZ hX dX4_offsetOf_62 (by omega) ?_
                refine r_ldc2Z (z := -59) hX kc_X4_76 (by decide) dX4_offsetOf_63 ?_
                refine r_ldc2Z (z := 59) hX kc_X4_78 (by decide) dX4_offsetOf_66 ?_
                refine r_callS hX (z_X4_isIn _ _ _ _ _ (by omega) (by omega) (by omega)) ks_X4_38 rfl rfl (Nat.le_of_ble_eq_true rfl) ⟨(Nat.le_of_ble_eq_true rfl), (Nat.le_of_ble_eq_true rfl)⟩ ⟨(Nat.le_of_ble_eq_true rfl), (Nat.le_of_ble_eq_true rfl)⟩ dX4_offsetOf_69 (fun _ _ z => False.elim z) (fun v9 ws9 h89 => ?_)
                obtain ⟨rfl, hw9⟩ := h89
                subst ws9
                dsimp only [mPush]
                refine r_if_eqB (tgt := 95) hX dX4_offsetOf_72 (by decide) (fun c90 => ?_) (fun c90 => ?_)
                · have c90 := of_decide_eq_false c90
                  refine r_aload_n hX dX4_offsetOf_95 rfl rfl ?_
                  refine r_callV hX (z_X4_no ad ae cs K S 0 rest) kv_X4_80 14 rfl rfl rfl rfl (Nat.le_of_ble_eq_true rfl) ⟨(Nat.le_of_ble_eq_true rfl), (Nat.le_of_ble_eq_true rfl)⟩ ⟨(Nat.le_of_ble_eq_true rfl), (Nat.le_of_ble_eq_true rfl)⟩ dX4_offsetOf_96 (fun _ _ z => False.elim z) (fun v9 ws9 h91 => ?_)
                  obtain ⟨rfl, hw9⟩ := h91
                  subst ws9
                  dsimp only [mPush]
                  refine r_iret hX hE dX4_offsetOf_99 (Nat.le_of_ble_eq_true rfl) (Nat.le_of_ble_eq_true rfl) ⟨_, rfl, Or.inl ⟨by omega, ?_⟩⟩
                  unfold oOff
                  rw [if_neg (by omega)]
                  exact ⟨rfl, rfl⟩
                · have c90 := of_decide_eq_true c90
                  refine r_iload hX dX4_offsetOf_75 rfl ?_
                  refine r_i2lZ hX dX4_offsetOf_77 (by omega) ?_
                  refine r_ldc2Z (z := -59) hX kc_X4_76 (by decide) dX4_offsetOf_78 ?_
                  refine r_ldc2Z (z := 59) hX kc_X4_78 (by decide) dX4_offsetOf_81 ?_
                  refine r_callS hX (z_X4_isIn _ _ _ _ _ (by omega) (by omega) (by omega)) ks_X4_38 rfl rfl (Nat.le_of_ble_eq_true rfl) ⟨(Nat.le_of_ble_eq_true rfl), (Nat.le_of_ble_eq_true rfl)⟩ ⟨(Nat.le_of_ble_eq_true rfl), (Nat.le_of_ble_eq_true rfl)⟩ dX4_offsetOf_84 (fun _ _ z => False.elim z) (fun v9 ws9 h92 => ?_)
                  obtain ⟨rfl, hw9⟩ := h92
                  subst ws9
                  dsimp only [mPush]
                  refine r_if_eqB (tgt := 95) hX dX4_offsetOf_87 (by decide) (fun c93 => ?_) (fun c93 => ?_)
                  · have c93 := of_decide_eq_false c93
                    refine r_aload_n hX dX4_offsetOf_95 rfl rfl ?_
                    refine r_callV hX (z_X4_no ad ae cs K S 0 rest) kv_X4_80 14 rfl rfl rfl rfl (Nat.le_of_ble_eq_true rfl) ⟨(Nat.le_of_ble_eq_true rfl), (Nat.le_of_ble_eq_true rfl)⟩ ⟨(Nat.le_of_ble_eq_true rfl), (Nat.le_of_ble_eq_true rfl)⟩ dX4_offsetOf_96 (fun _ _ z => False.elim z) (fun v9 ws9 h94 => ?_)
                    obtain ⟨rfl, hw9⟩ := h94
                    subst ws9
                    dsimp only [mPush]
                    refine r_iret hX hE dX4_offsetOf_99 (Nat.le_of_ble_eq_true rfl) (Nat.le_of_ble_eq_true rfl) ⟨_, rfl, Or.inl ⟨by omega, ?_⟩⟩
                    unfold oOff
                    rw [if_neg (by omega)]
                    exact ⟨rfl, rfl⟩
                  · have c93 := of_decide_eq_true c93
                    refine r_iload hX dX4_offsetOf_90 rfl ?_
                    refine r_if_eqZ (tgt := 100) hX dX4_offsetOf_92 (by decide) (by decide) (fun q => absurd q (by decide)) (fun _ => ?_)
                    refine r_aload_n hX dX4_offsetOf_95 rfl rfl ?_
                    refine r_callV hX (z_X4_no ad ae cs K S 0 rest) kv_X4_80 14 rfl rfl rfl rfl (Nat.le_of_ble_eq_true rfl) ⟨(Nat.le_of_ble_eq_true rfl), (Nat.le_of_ble_eq_true rfl)⟩ ⟨(Nat.le_of_ble_eq_true rfl), (Nat.le_of_ble_eq_true rfl)⟩ dX4_offsetOf_96 (fun _ _ z => False.elim z) (fun v9 ws9 h95 => ?_)
                    obtain ⟨rfl, hw9⟩ := h95
                    subst ws9
                    dsimp only [mPush]
                    refine r_iret hX hE dX4_offsetOf_99 (Nat.le_of_ble_eq_true rfl) (Nat.le_of_ble_eq_true rfl) ⟨_, rfl, Or.inl ⟨by omega, ?_⟩⟩
                    unfold oOff
                    rw [if_neg (by omega)]
                    exact ⟨rfl, rfl⟩
      · refine r_iload hX dX4_offsetOf_22 rfl ?_
        refine r_if_leZ (tgt := 44) hX dX4_offsetOf_24 (by decide) (by omega) (fun c96 => ?_) (fun c96 => ?_)
        · refine r_iconstZ hX dX4_offsetOf_44 ?_
          refine r_istore hX dX4_offsetOf_45 (by decide) rfl ?_
          refine r_iload_n hX dX4_offsetOf_47 rfl rfl ?_
          refine r_i2lZ hX dX4_offsetOf_48 (by omega) ?_
          refine r_ldc2Z (z := -18) hX kc_X4_72 (by decide) dX4_offsetOf_49 ?_
          refine r_ldc2Z (z := 18) hX kc_X4_74 (by decide) dX4_offsetOf_52 ?_
          refine r_callS hX (z_X4_isIn _ _ _ _ _ (by omega) (by omega) (by omega)) ks_X4_38 rfl rfl (Nat.le_of_ble_eq_true rfl) ⟨(Nat.le_of_ble_eq_true rfl), (Nat.le_of_ble_eq_true rfl)⟩ ⟨(Nat.le_of_ble_eq_true rfl), (Nat.le_of_ble_eq_true rfl)⟩ dX4_offsetOf_55 (fun _ _ z => False.elim z) (fun v9 ws9 h97 => ?_)
          obtain ⟨rfl, hw9⟩ := h97
          subst ws9
          dsimp only [mPush]
          refine r_if_eqB (tgt := 95) hX dX4_offsetOf_58 (by decide) (fun c98 => ?_) (fun c98 => ?_)
          · have c98 := of_decide_eq_false c98
            refine r_aload_n hX dX4_offsetOf_95 rfl rfl ?_
            refine r_callV hX (z_X4_no ad ae cs K S 0 rest) kv_X4_80 14 rfl rfl rfl rfl (Nat.le_of_ble_eq_true rfl) ⟨(Nat.le_of_ble_eq_true rfl), (Nat.le_of_ble_eq_true rfl)⟩ ⟨(Nat.le_of_ble_eq_true rfl), (Nat.le_of_ble_eq_true rfl)⟩ dX4_offsetOf_96 (fun _ _ z => False.elim z) (fun v9 ws9 h99 => ?_)
            obtain ⟨rfl, hw9⟩ := h99
            subst ws9
            dsimp only [mPush]
            refine r_iret hX hE dX4_offsetOf_99 (Nat.le_of_ble_eq_true rfl) (Nat.le_of_ble_eq_true rfl) ⟨_, rfl, Or.inl ⟨by omega, ?_⟩⟩
            unfold oOff
            rw [if_neg (by omega)]
            exact ⟨rfl, rfl⟩
          · have c98 := of_decide_eq_true c98
            refine r_iload_n hX dX4_offsetOf_61 rfl rfl ?_
            refine r_i2lZ hX dX4_offsetOf_62 (by omega) ?_
            refine r_ldc2Z (z := -59) hX kc_X4_76 (by decide) dX4_offsetOf_63 ?_
            refine r_ldc2Z (z := 59) hX kc_X4_78 (by decide) dX4_offsetOf_66 ?_
            refine r_callS hX (z_X4_isIn _ _ _ _ _ (by omega) (by omega) (by omega)) ks_X4_38 rfl rfl (Nat.le_of_ble_eq_true rfl) ⟨(Nat.le_of_ble_eq_true rfl), (Nat.le_of_ble_eq_true rfl)⟩ ⟨(Nat.le_of_ble_eq_true rfl), (Nat.le_of_ble_eq_true rfl)⟩ dX4_offsetOf_69 (fun _ _ z => False.elim z) (fun v9 ws9 h100 => ?_)
            obtain ⟨rfl, hw9⟩ := h100
            subst ws9
            dsimp only [mPush]
            refine r_if_eqB (tgt := 95) hX dX4_offsetOf_72 (by decide) (fun c101 => ?_) (fun c101 => ?_)
            · have c101 := of_decide_eq_false c101
              refine r_aload_n hX dX4_offsetOf_95 rfl rfl ?_
              refine r_callV hX (z_X4_no ad ae cs K S 0 rest) kv_X4_80 14 rfl rfl rfl rfl (Nat.le_of_ble_eq_true rfl) ⟨(Nat.le_of_ble_eq_true rfl), (Nat.le_of_ble_eq_true rfl)⟩ ⟨(Nat.le_of_ble_eq_true rfl), (Nat.le_of_ble_eq_true rfl)⟩ dX4_offsetOf_96 (fun _ _ z => False.elim z) (fun v9 ws9 h102 => ?_)
              obtain ⟨rfl, hw9⟩ := h102
              subst ws9
              dsimp only [mPush]
              refine r_iret hX hE dX4_offsetOf_99 (Nat.le_of_ble_eq_true rfl) (Nat.le_of_ble_eq_true rfl) ⟨_, rfl, Or.inl ⟨by omega, ?_⟩⟩
              unfold oOff
              rw [if_neg (by omega)]
              exact ⟨rfl, rfl⟩
            · have c101 := of_decide_eq_true c101
              refine r_iload hX dX4_offsetOf_75 rfl ?_
              refine r_i2lZ hX dX4_offsetOf_77 (by omega) ?_
              refine r_ldc2Z (z := -59) hX kc_X4_76 (by decide) dX4_offsetOf_78 ?_
              refine r_ldc2Z (z := 59) hX kc_X4_78 (by decide) dX4_offsetOf_81 ?_
              refine r_callS hX (z_X4_isIn _ _ _ _ _ (by omega) (by omega) (by omega)) ks_X4_38 rfl rfl (Nat.le_of_ble_eq_true rfl) ⟨(Nat.le_of_ble_eq_true rfl), (Nat.le_of_ble_eq_true rfl)⟩ ⟨(Nat.le_of_ble_eq_true rfl), (Nat.le_of_ble_eq_true rfl)⟩ dX4_offsetOf_84 (fun _ _ z => False.elim z) (fun v9 ws9 h103 => ?_)
              obtain ⟨rfl, hw9⟩ := h103
              subst ws9
              dsimp only [mPush]
              refine r_if_eqB (tgt := 95) hX dX4_offsetOf_87 (by decide) (fun c104 => ?_) (fun c104 => ?_)
              · have c104 := of_decide_eq_false c104
                refine r_aload_n hX dX4_offsetOf_95 rfl rfl ?_
                refine r_callV hX (z_X4_no ad ae cs K S 0 rest) kv_X4_80 14 rfl rfl rfl rfl (Nat.le_of_ble_eq_true rfl) ⟨(Nat.le_of_ble_eq_true rfl), (Nat.le_of_ble_eq_true rfl)⟩ ⟨(Nat.le_of_ble_eq_true rfl), (Nat.le_of_ble_eq_true rfl)⟩ dX4_offsetOf_96 (fun _ _ z => False.elim z) (fun v9 ws9 h105 => ?_)
                obtain ⟨rfl, hw9⟩ := h105
                subst ws9
                dsimp only [mPush]
                refine r_iret hX hE dX4_offsetOf_99 (Nat.le_of_ble_eq_true rfl) (Nat.le_of_ble_eq_true rfl) ⟨_, rfl, Or.inl ⟨by omega, ?_⟩⟩
                unfold oOff
                rw [if_neg (by omega)]
                exact ⟨rfl, rfl⟩
              · have c104 := of_decide_eq_true c104
                refine r_iload hX dX4_offsetOf_90 rfl ?_
                refine r_if_eqZ (tgt := 100) hX dX4_offsetOf_92 (by decide) (by decide) (fun _ => ?_) (fun q => absurd (by decide) q)
                refine r_sipushZ hX dX4_offsetOf_100 (by decide) ?_
                refine r_iload_n hX dX4_offsetOf_103 rfl rfl ?_
                refine r_imulZ hX dX4_offsetOf_104 ?_
                refine r_bipushZ hX dX4_offsetOf_105 (by decide) ?_
                refine r_iload_n hX dX4_offsetOf_107 rfl rfl ?_
                refine r_imulZ hX dX4_offsetOf_108 ?_
                refine r_iaddZ hX dX4_offsetOf_109 ?_
                refine r_iload hX dX4_offsetOf_110 rfl ?_
                refine r_iaddZ hX dX4_offsetOf_112 ?_
                refine r_istore hX dX4_offsetOf_113 (by decide) rfl ?_
                refine r_iload hX dX4_offsetOf_115 rfl ?_
                refine r_i2lZ hX dX4_offsetOf_117 (by omega) ?_
                refine r_ldc2Z (z := -64800) hX kc_X4_64 (by decide) dX4_offsetOf_118 ?_
                refine r_ldc2Z (z := 64800) hX kc_X4_66 (by decide) dX4_offsetOf_121 ?_
                refine r_callS hX (z_X4_isIn _ _ _ _ _ (by omega) (by omega) (by omega)) ks_X4_38 rfl rfl (Nat.le_of_ble_eq_true rfl) ⟨(Nat.le_of_ble_eq_true rfl), (Nat.le_of_ble_eq_true rfl)⟩ ⟨(Nat.le_of_ble_eq_true rfl), (Nat.le_of_ble_eq_true rfl)⟩ dX4_offsetOf_124 (fun _ _ z => False.elim z) (fun v9 ws9 h106 => ?_)
                obtain ⟨rfl, hw9⟩ := h106
                subst ws9
                dsimp only [mPush]
                refine r_if_neB (tgt := 135) hX dX4_offsetOf_127 (by decide) (fun c107 => ?_) (fun c107 => ?_)
                · have c107 := of_decide_eq_true c107
                  refine r_aload_n hX dX4_offsetOf_135 rfl rfl ?_
                  refine r_get hX kf_X4_7 14 rfl rfl dX4_offsetOf_136 ?_
                  refine r_iload_n hX dX4_offsetOf_139 rfl rfl ?_
                  refine r_iload hX dX4_offsetOf_140 rfl ?_
                  refine r_iastZ hX 15 0 rfl rfl (a0).toNat (by omega) (by omega) (by decide) dX4_offsetOf_142 ?_
                  refine r_eqw (zRw_off (j := (a0).toNat) (z := ((3600 * a1) + (60 * a2)) + a3)) ?_
                  refine r_iload hX dX4_offsetOf_143 rfl ?_
                  refine r_iret hX hE dX4_offsetOf_145 (Nat.le_of_ble_eq_true rfl) (Nat.le_of_ble_eq_true rfl) ⟨_, rfl, Or.inl ⟨by omega, ?_⟩⟩
                  unfold oOff
                  rw [if_pos (by omega), show a1 * 3600 + a2 * 60 + a3 = 3600 * a1 + 60 * a2 + a3 by omega]
                  exact ⟨rfl, rfl⟩
                · have c107 := of_decide_eq_false c107
                  refine r_aload_n hX dX4_offsetOf_130 rfl rfl ?_
                  refine r_callV hX (z_X4_no ad ae cs K S 0 rest) kv_X4_80 14 rfl rfl rfl rfl (Nat.le_of_ble_eq_true rfl) ⟨(Nat.le_of_ble_eq_true rfl), (Nat.le_of_ble_eq_true rfl)⟩ ⟨(Nat.le_of_ble_eq_true rfl), (Nat.le_of_ble_eq_true rfl)⟩ dX4_offsetOf_131 (fun _ _ z => False.elim z) (fun v9 ws9 h108 => ?_)
                  obtain ⟨rfl, hw9⟩ := h108
                  subst ws9
                  dsimp only [mPush]
                  refine r_iret hX hE dX4_offsetOf_134 (Nat.le_of_ble_eq_true rfl) (Nat.le_of_ble_eq_true rfl) ⟨_, rfl, Or.inl ⟨by omega, ?_⟩⟩
                  unfold oOff
                  rw [if_neg (by omega)]
                  exact ⟨rfl, rfl⟩
        · refine r_iload_n hX dX4_offsetOf_27 rfl rfl ?_
          refine r_if_ltZ (tgt := 40) hX dX4_offsetOf_28 (by decide) (by omega) (fun c109 => ?_) (fun c109 => ?_)
          · refine r_iconstZ hX dX4_offsetOf_40 ?_
            refine r_goto (tgt := 45) hX dX4_offsetOf_41 (by decide) ?_
            refine r_istore hX dX4_offsetOf_45 (by decide) rfl ?_
            refine r_iload_n hX dX4_offsetOf_47 rfl rfl ?_
            refine r_i2lZ hX dX4_offsetOf_48 (by omega) ?_
            refine r_ldc2Z (z := -18) hX kc_X4_72 (by decide) dX4_offsetOf_49 ?_
            refine r_ldc2Z (z := 18) hX kc_X4_74 (by decide) dX4_offsetOf_52 ?_
            refine r_callS hX (z_X4_isIn _ _ _ _ _ (by omega) (by omega) (by omega)) ks_X4_38 rfl rfl (Nat.le_of_ble_eq_true rfl) ⟨(Nat.le_of_ble_eq_true rfl), (Nat.le_of_ble_eq_true rfl)⟩ ⟨(Nat.le_of_ble_eq_true rfl), (Nat.le_of_ble_eq_true rfl)⟩ dX4_offsetOf_55 (fun _ _ z => False.elim z) (fun v9 ws9 h110 => ?_)
            obtain ⟨rfl, hw9⟩ := h110
            subst ws9
            dsimp only [mPush]
            refine r_if_eqB (tgt := 95) hX dX4_offsetOf_58 (by decide) (fun c111 => ?_) (fun c111 => ?_)
            · have c111 := of_decide_eq_false c111
              refine r_aload_n hX dX4_offsetOf_95 rfl rfl ?_
              refine r_callV hX (z_X4_no ad ae cs K S 0 rest) kv_X4_80 14 rfl rfl rfl rfl (Nat.le_of_ble_eq_true rfl) ⟨(Nat.le_of_ble_eq_true rfl), (Nat.le_of_ble_eq_true rfl)⟩ ⟨(Nat.le_of_ble_eq_true rfl), (Nat.le_of_ble_eq_true rfl)⟩ dX4_offsetOf_96 (fun _ _ z => False.elim z) (fun v9 ws9 h112 => ?_)
              obtain ⟨rfl, hw9⟩ := h112
              subst ws9
              dsimp only [mPush]
              refine r_iret hX hE dX4_offsetOf_99 (Nat.le_of_ble_eq_true rfl) (Nat.le_of_ble_eq_true rfl) ⟨_, rfl, Or.inl ⟨by omega, ?_⟩⟩
              unfold oOff
              rw [if_neg (by omega)]
              exact ⟨rfl, rfl⟩
            · have c111 := of_decide_eq_true c111
              refine r_iload_n hX dX4_offsetOf_61 rfl rfl ?_
              refine r_i2lZ hX dX4_offsetOf_62 (by omega) ?_
              refine r_ldc2Z (z := -59) hX kc_X4_76 (by decide) dX4_offsetOf_63 ?_
              refine r_ldc2Z (z := 59) hX kc_X4_78 (by decide) dX4_offsetOf_66 ?_
              refine r_callS hX (z_X4_isIn _ _ _ _ _ (by omega) (by omega) (by omega)) ks_X4_38 rfl rfl (Nat.le_of_ble_eq_true rfl) ⟨(Nat.le_of_ble_eq_true rfl), (Nat.le_of_ble_eq_true rfl)⟩ ⟨(Nat.le_of_ble_eq_true rfl), (Nat.le_of_ble_eq_true rfl)⟩ dX4_offsetOf_69 (fun _ _ z => False.elim z) (fun v9 ws9 h113 => ?_)
              obtain ⟨rfl, hw9⟩ := h113
              subst ws9
              dsimp only [mPush]
              refine r_if_eqB (tgt := 95) hX dX4_offsetOf_72 (by decide) (fun c114 => ?_) (fun c114 => ?_)
              · have c114 := of_decide_eq_false c114
                refine r_aload_n hX dX4_offsetOf_95 rfl rfl ?_
                refine r_callV hX (z_X4_no ad ae cs K S 0 rest) kv_X4_80 14 rfl rfl rfl rfl (Nat.le_of_ble_eq_true rfl) ⟨(Nat.le_of_ble_eq_true rfl), (Nat.le_of_ble_eq_true rfl)⟩ ⟨(Nat.le_of_ble_eq_true rfl), (Nat.le_of_ble_eq_true rfl)⟩ dX4_offsetOf_96 (fun _ _ z => False.elim z) (fun v9 ws9 h115 => ?_)
                obtain ⟨rfl, hw9⟩ := h115
                subst ws9
                dsimp only [mPush]
                refine r_iret hX hE dX4_offsetOf_99 (Nat.le_of_ble_eq_true rfl) (Nat.le_of_ble_eq_true rfl) ⟨_, rfl, Or.inl ⟨by omega, ?_⟩⟩
                unfold oOff
                rw [if_neg (by omega)]
                exact ⟨rfl, rfl⟩
              · have c114 := of_decide_eq_true c114
                refine r_iload hX dX4_offsetOf_75 rfl ?_
                refine r_i2lZ hX dX4_offsetOf_77 (by omega) ?_
                refine r_ldc2Z (z := -59) hX kc_X4_76 (by decide) dX4_offsetOf_78 ?_
                refine r_ldc2Z (z := 59) hX kc_X4_78 (by decide) dX4_offsetOf_81 ?_
                refine r_callS hX (z_X4_isIn _ _ _ _ _ (by omega) (by omega) (by omega)) ks_X4_38 rfl rfl (Nat.le_of_ble_eq_true rfl) ⟨(Nat.le_of_ble_eq_true rfl), (Nat.le_of_ble_eq_true rfl)⟩ ⟨(Nat.le_of_ble_eq_true rfl), (Nat.le_of_ble_eq_true rfl)⟩ dX4_offsetOf_84 (fun _ _ z => False.elim z) (fun v9 ws9 h116 => ?_)
                obtain ⟨rfl, hw9⟩ := h116
                subst ws9
                dsimp only [mPush]
                refine r_if_eqB (tgt := 95) hX dX4_offsetOf_87 (by decide) (fun c117 => ?_) (fun c117 => ?_)
                · have c117 := of_decide_eq_false c117
                  refine r_aload_n hX dX4_offsetOf_95 rfl rfl ?_
                  refine r_callV hX (z_X4_no ad ae cs K S 0 rest) kv_X4_80 14 rfl rfl rfl rfl (Nat.le_of_ble_eq_true rfl) ⟨(Nat.le_of_ble_eq_true rfl), (Nat.le_of_ble_eq_true rfl)⟩ ⟨(Nat.le_of_ble_eq_true rfl), (Nat.le_of_ble_eq_true rfl)⟩ dX4_offsetOf_96 (fun _ _ z => False.elim z) (fun v9 ws9 h118 => ?_)
                  obtain ⟨rfl, hw9⟩ := h118
                  subst ws9
                  dsimp only [mPush]
                  refine r_iret hX hE dX4_offsetOf_99 (Nat.le_of_ble_eq_true rfl) (Nat.le_of_ble_eq_true rfl) ⟨_, rfl, Or.inl ⟨by omega, ?_⟩⟩
                  unfold oOff
                  rw [if_neg (by omega)]
                  exact ⟨rfl, rfl⟩
                · have c117 := of_decide_eq_true c117
                  refine r_iload hX dX4_offsetOf_90 rfl ?_
                  refine r_if_eqZ (tgt := 100) hX dX4_offsetOf_92 (by decide) (by decide) (fun q => absurd q (by decide)) (fun _ => ?_)
                  refine r_aload_n hX dX4_offsetOf_95 rfl rfl ?_
                  refine r_callV hX (z_X4_no ad ae cs K S 0 rest) kv_X4_80 14 rfl rfl rfl rfl (Nat.le_of_ble_eq_true rfl) ⟨(Nat.le_of_ble_eq_true rfl), (Nat.le_of_ble_eq_true rfl)⟩ ⟨(Nat.le_of_ble_eq_true rfl), (Nat.le_of_ble_eq_true rfl)⟩ dX4_offsetOf_96 (fun _ _ z => False.elim z) (fun v9 ws9 h119 => ?_)
                  obtain ⟨rfl, hw9⟩ := h119
                  subst ws9
                  dsimp only [mPush]
                  refine r_iret hX hE dX4_offsetOf_99 (Nat.le_of_ble_eq_true rfl) (Nat.le_of_ble_eq_true rfl) ⟨_, rfl, Or.inl ⟨by omega, ?_⟩⟩
                  unfold oOff
                  rw [if_neg (by omega)]
                  exact ⟨rfl, rfl⟩
          · refine r_iload_n hX dX4_offsetOf_31 rfl rfl ?_
            refine r_if_ltZ (tgt := 40) hX dX4_offsetOf_32 (by decide) (by omega) (fun c120 => ?_) (fun c120 => ?_)
            · refine r_iconstZ hX dX4_offsetOf_40 ?_
              refine r_goto (tgt := 45) hX dX4_offsetOf_41 (by decide) ?_
              refine r_istore hX dX4_offsetOf_45 (by decide) rfl ?_
              refine r_iload_n hX dX4_offsetOf_47 rfl rfl ?_
              refine r_i2lZ hX dX4_offsetOf_48 (by omega) ?_
              refine r_ldc2Z (z := -18) hX kc_X4_72 (by decide) dX4_offsetOf_49 ?_
              refine r_ldc2Z (z := 18) hX kc_X4_74 (by decide) dX4_offsetOf_52 ?_
              refine r_callS hX (z_X4_isIn _ _ _ _ _ (by omega) (by omega) (by omega)) ks_X4_38 rfl rfl (Nat.le_of_ble_eq_true rfl) ⟨(Nat.le_of_ble_eq_true rfl), (Nat.le_of_ble_eq_true rfl)⟩ ⟨(Nat.le_of_ble_eq_true rfl), (Nat.le_of_ble_eq_true rfl)⟩ dX4_offsetOf_55 (fun _ _ z => False.elim z) (fun v9 ws9 h121 => ?_)
              obtain ⟨rfl, hw9⟩ := h121
              subst ws9
              dsimp only [mPush]
              refine r_if_eqB (tgt := 95) hX dX4_offsetOf_58 (by decide) (fun c122 => ?_) (fun c122 => ?_)
              · have c122 := of_decide_eq_false c122
                refine r_aload_n hX dX4_offsetOf_95 rfl rfl ?_
                refine r_callV hX (z_X4_no ad ae cs K S 0 rest) kv_X4_80 14 rfl rfl rfl rfl (Nat.le_of_ble_eq_true rfl) ⟨(Nat.le_of_ble_eq_true rfl), (Nat.le_of_ble_eq_true rfl)⟩ ⟨(Nat.le_of_ble_eq_true rfl), (Nat.le_of_ble_eq_true rfl)⟩ dX4_offsetOf_96 (fun _ _ z => False.elim z) (fun v9 ws9 h123 => ?_)
                obtain ⟨rfl, hw9⟩ := h123
                subst ws9
                dsimp only [mPush]
                refine r_iret hX hE dX4_offsetOf_99 (Nat.le_of_ble_eq_true rfl) (Nat.le_of_ble_eq_true rfl) ⟨_, rfl, Or.inl ⟨by omega, ?_⟩⟩
                unfold oOff
                rw [if_neg (by omega)]
                exact ⟨rfl, rfl⟩
              · have c122 := of_decide_eq_true c122
                refine r_iload_n hX dX4_offsetOf_61 rfl rfl ?_
                refine r_i2lZ hX dX4_offsetOf_62 (by omega) ?_
                refine r_ldc2Z (z := -59) hX kc_X4_76 (by decide) dX4_offsetOf_63 ?_
                refine r_ldc2Z (z := 59) hX kc_X4_78 (by decide) dX4_offsetOf_66 ?_
                refine r_callS hX (z_X4_isIn _ _ _ _ _ (by omega) (by omega) (by omega)) ks_X4_38 rfl rfl (Nat.le_of_ble_eq_true rfl) ⟨(Nat.le_of_ble_eq_true rfl), (Nat.le_of_ble_eq_true rfl)⟩ ⟨(Nat.le_of_ble_eq_true rfl), (Nat.le_of_ble_eq_true rfl)⟩ dX4_offsetOf_69 (fun _ _ z => False.elim z) (fun v9 ws9 h124 => ?_)
                obtain ⟨rfl, hw9⟩ := h124
                subst ws9
                dsimp only [mPush]
                refine r_if_eqB (tgt := 95) hX dX4_offsetOf_72 (by decide) (fun c125 => ?_) (fun c125 => ?_)
                · have c125 := of_decide_eq_false c125
                  refine r_aload_n hX dX4_offsetOf_95 rfl rfl ?_
                  refine r_callV hX (z_X4_no ad ae cs K S 0 rest) kv_X4_80 14 rfl rfl rfl rfl (Nat.le_of_ble_eq_true rfl) ⟨(Nat.le_of_ble_eq_true rfl), (Nat.le_of_ble_eq_true rfl)⟩ ⟨(Nat.le_of_ble_eq_true rfl), (Nat.le_of_ble_eq_true rfl)⟩ dX4_offsetOf_96 (fun _ _ z => False.elim z) (fun v9 ws9 h126 => ?_)
                  obtain ⟨rfl, hw9⟩ := h126
                  subst ws9
                  dsimp only [mPush]
                  refine r_iret hX hE dX4_offsetOf_99 (Nat.le_of_ble_eq_true rfl) (Nat.le_of_ble_eq_true rfl) ⟨_, rfl, Or.inl ⟨by omega, ?_⟩⟩
                  unfold oOff
                  rw [if_neg (by omega)]
                  exact ⟨rfl, rfl⟩
                · have c125 := of_decide_eq_true c125
                  refine r_iload hX dX4_offsetOf_75 rfl ?_
                  refine r_i2lZ hX dX4_offsetOf_77 (by omega) ?_
                  refine r_ldc2Z (z := -59) hX kc_X4_76 (by decide) dX4_offsetOf_78 ?_
                  refine r_ldc2Z (z := 59) hX kc_X4_78 (by decide) dX4_offsetOf_81 ?_
                  refine r_callS hX (z_X4_isIn _ _ _ _ _ (by omega) (by omega) (by omega)) ks_X4_38 rfl rfl (Nat.le_of_ble_eq_true rfl) ⟨(Nat.le_of_ble_eq_true rfl), (Nat.le_of_ble_eq_true rfl)⟩ ⟨(Nat.le_of_ble_eq_true rfl), (Nat.le_of_ble_eq_true rfl)⟩ dX4_offsetOf_84 (fun _ _ z => False.elim z) (fun v9 ws9 h127 => ?_)
                  obtain ⟨rfl, hw9⟩ := h127
                  subst ws9
                  dsimp only [mPush]
                  refine r_if_eqB (tgt := 95) hX dX4_offsetOf_87 (by decide) (fun c128 => ?_) (fun c128 => ?_)
                  · have c128 := of_decide_eq_false c128
                    refine r_aload_n hX dX4_offsetOf_95 rfl rfl ?_
                    refine r_callV hX (z_X4_no ad ae cs K S 0 rest) kv_X4_80 14 rfl rfl rfl rfl (Nat.le_of_ble_eq_true rfl) ⟨(Nat.le_of_ble_eq_true rfl), (Nat.le_of_ble_eq_true rfl)⟩ ⟨(Nat.le_of_ble_eq_true rfl), (Nat.le_of_ble_eq_true rfl)⟩ dX4_offsetOf_96 (fun _ _ z => False.elim z) (fun v9 ws9 h129 => ?_)
                    obtain ⟨rfl, hw9⟩ := h129
                    subst ws9
                    dsimp only [mPush]
                    refine r_iret hX hE dX4_offsetOf_99 (Nat.le_of_ble_eq_true rfl) (Nat.le_of_ble_eq_true rfl) ⟨_, rfl, Or.inl ⟨by omega, ?_⟩⟩
                    unfold oOff
                    rw [if_neg (by omega)]
                    exact ⟨rfl, rfl⟩
                  · have c128 := of_decide_eq_true c128
                    refine r_iload hX dX4_offsetOf_90 rfl ?_
                    refine r_if_eqZ (tgt := 100) hX dX4_offsetOf_92 (by decide) (by decide) (fun q => absurd q (by decide)) (fun _ => ?_)
                    refine r_aload_n hX dX4_offsetOf_95 rfl rfl ?_
                    refine r_callV hX (z_X4_no ad ae cs K S 0 rest) kv_X4_80 14 rfl rfl rfl rfl (Nat.le_of_ble_eq_true rfl) ⟨(Nat.le_of_ble_eq_true rfl), (Nat.le_of_ble_eq_true rfl)⟩ ⟨(Nat.le_of_ble_eq_true rfl), (Nat.le_of_ble_eq_true rfl)⟩ dX4_offsetOf_96 (fun _ _ z => False.elim z) (fun v9 ws9 h130 => ?_)
                    obtain ⟨rfl, hw9⟩ := h130
                    subst ws9
                    dsimp only [mPush]
                    refine r_iret hX hE dX4_offsetOf_99 (Nat.le_of_ble_eq_true rfl) (Nat.le_of_ble_eq_true rfl) ⟨_, rfl, Or.inl ⟨by omega, ?_⟩⟩
                    unfold oOff
                    rw [if_neg (by omega)]
                    exact ⟨rfl, rfl⟩
            · refine r_iload hX dX4_offsetOf_35 rfl ?_
              refine r_if_geZ (tgt := 44) hX dX4_offsetOf_37 (by decide) (by omega) (fun c131 => ?_) (fun c131 => ?_)
              · refine r_iconstZ hX dX4_offsetOf_44 ?_
                refine r_istore hX dX4_offsetOf_45 (by decide) rfl ?_
                refine r_iload_n hX dX4_offsetOf_47 rfl rfl ?_
                refine r_i2lZ hX dX4_offsetOf_48 (by omega) ?_
                refine r_ldc2Z (z := -18) hX kc_X4_72 (by decide) dX4_offsetOf_49 ?_
                refine r_ldc2Z (z := 18) hX kc_X4_74 (by decide) dX4_offsetOf_52 ?_
                refine r_callS hX (z_X4_isIn _ _ _ _ _ (by omega) (by omega) (by omega)) ks_X4_38 rfl rfl (Nat.le_of_ble_eq_true rfl) ⟨(Nat.le_of_ble_eq_true rfl), (Nat.le_of_ble_eq_true rfl)⟩ ⟨(Nat.le_of_ble_eq_true rfl), (Nat.le_of_ble_eq_true rfl)⟩ dX4_offsetOf_55 (fun _ _ z => False.elim z) (fun v9 ws9 h132 => ?_)
                obtain ⟨rfl, hw9⟩ := h132
                subst ws9
                dsimp only [mPush]
                refine r_if_eqB (tgt := 95) hX dX4_offsetOf_58 (by decide) (fun c133 => ?_) (fun c133 => ?_)
                · have c133 := of_decide_eq_false c133
                  refine r_aload_n hX dX4_offsetOf_95 rfl rfl ?_
                  refine r_callV hX (z_X4_no ad ae cs K S 0 rest) kv_X4_80 14 rfl rfl rfl rfl (Nat.le_of_ble_eq_true rfl) ⟨(Nat.le_of_ble_eq_true rfl), (Nat.le_of_ble_eq_true rfl)⟩ ⟨(Nat.le_of_ble_eq_true rfl), (Nat.le_of_ble_eq_true rfl)⟩ dX4_offsetOf_96 (fun _ _ z => False.elim z) (fun v9 ws9 h134 => ?_)
                  obtain ⟨rfl, hw9⟩ := h134
                  subst ws9
                  dsimp only [mPush]
                  refine r_iret hX hE dX4_offsetOf_99 (Nat.le_of_ble_eq_true rfl) (Nat.le_of_ble_eq_true rfl) ⟨_, rfl, Or.inl ⟨by omega, ?_⟩⟩
                  unfold oOff
                  rw [if_neg (by omega)]
                  exact ⟨rfl, rfl⟩
                · have c133 := of_decide_eq_true c133
                  refine r_iload_n hX dX4_offsetOf_61 rfl rfl ?_
                  refine r_i2lZ hX dX4_offsetOf_62 (by omega) ?_
                  refine r_ldc2Z (z := -59) hX kc_X4_76 (by decide) dX4_offsetOf_63 ?_
                  refine r_ldc2Z (z := 59) hX kc_X4_78 (by decide) dX4_offsetOf_66 ?_
                  refine r_callS hX (z_X4_isIn _ _ _ _ _ (by omega) (by omega) (by omega)) ks_X4_38 rfl rfl (Nat.le_of_ble_eq_true rfl) ⟨(Nat.le_of_ble_eq_true rfl), (Nat.le_of_ble_eq_true rfl)⟩ ⟨(Nat.le_of_ble_eq_true rfl), (Nat.le_of_ble_eq_true rfl)⟩ dX4_offsetOf_69 (fun _ _ z => False.elim z) (fun v9 ws9 h135 => ?_)
                  obtain ⟨rfl, hw9⟩ := h135
                  subst ws9
                  dsimp only [mPush]
                  refine r_if_eqB (tgt := 95) hX dX4_offsetOf_72 (by decide) (fun c136 => ?_) (fun c136 => ?_)
                  · have c136 := of_decide_eq_false c136
                    refine r_aload_n hX dX4_offsetOf_95 rfl rfl ?_
                    refine r_callV hX (z_X4_no ad ae cs K S 0 rest) kv_X4_80 14 rfl rfl rfl rfl (Nat.le_of_ble_eq_true rfl) ⟨(Nat.le_of_ble_eq_true rfl), (Nat.le_of_ble_eq_true rfl)⟩ ⟨(Nat.le_of_ble_eq_true rfl), (Nat.le_of_ble_eq_true rfl)⟩ dX4_offsetOf_96 (fun _ _ z => False.elim z) (fun v9 ws9 h137 => ?_)
                    obtain ⟨rfl, hw9⟩ := h137
                    subst ws9
                    dsimp only [mPush]
                    refine r_iret hX hE dX4_offsetOf_99 (Nat.le_of_ble_eq_true rfl) (Nat.le_of_ble_eq_true rfl) ⟨_, rfl, Or.inl ⟨by omega, ?_⟩⟩
                    unfold oOff
                    rw [if_neg (by omega)]
                    exact ⟨rfl, rfl⟩
                  · have c136 := of_decide_eq_true c136
                    refine r_iload hX dX4_offsetOf_75 rfl ?_
                    refine r_i2lZ hX dX4_offsetOf_77 (by omega) ?_
                    refine r_ldc2Z (z := -59) hX kc_X4_76 (by decide) dX4_offsetOf_78 ?_
                    refine r_ldc2Z (z := 59) hX kc_X4_78 (by decide) dX4_offsetOf_81 ?_
                    refine r_callS hX (z_X4_isIn _ _ _ _ _ (by omega) (by omega) (by omega)) ks_X4_38 rfl rfl (Nat.le_of_ble_eq_true rfl) ⟨(Nat.le_of_ble_eq_true rfl), (Nat.le_of_ble_eq_true rfl)⟩ ⟨(Nat.le_of_ble_eq_true rfl), (Nat.le_of_ble_eq_true rfl)⟩ dX4_offsetOf_84 (fun _ _ z => False.elim z) (fun v9 ws9 h138 => ?_)
                    obtain ⟨rfl, hw9⟩ := h138
                    subst ws9
                    dsimp only [mPush]
                    refine r_if_eqB (tgt := 95) hX dX4_offsetOf_87 (by decide) (fun c139 => ?_) (fun c139 => ?_)
                    · have c139 := of_decide_eq_false c139
                      refine r_aload_n hX dX4_offsetOf_95 rfl rfl ?_
                      refine r_callV hX (z_X4_no ad ae cs K S 0 rest) kv_X4_80 14 rfl rfl rfl rfl (Nat.le_of_ble_eq_true rfl) ⟨(Nat.le_of_ble_eq_true rfl), (Nat.le_of_ble_eq_true rfl)⟩ ⟨(Nat.le_of_ble_eq_true rfl), (Nat.le_of_ble_eq_true rfl)⟩ dX4_offsetOf_96 (fun _ _ z => False.elim z) (fun v9 ws9 h140 => ?_)
                      obtain ⟨rfl, hw9⟩ := h140
                      subst ws9
                      dsimp only [mPush]
                      refine r_iret hX hE dX4_offsetOf_99 (Nat.le_of_ble_eq_true rfl) (Nat.le_of_ble_eq_true rfl) ⟨_, rfl, Or.inl ⟨by omega, ?_⟩⟩
                      unfold oOff
                      rw [if_neg (by omega)]
                      exact ⟨rfl, rfl⟩
                    · have c139 := of_decide_eq_true c139
                      refine r_iload hX dX4_offsetOf_90 rfl ?_
                      refine r_if_eqZ (tgt := 100) hX dX4_offsetOf_92 (by decide) (by decide) (fun _ => ?_) (fun q => absurd (by decide) q)
                      refine r_sipushZ hX dX4_offsetOf_100 (by decide) ?_
                      refine r_iload_n hX dX4_offsetOf_103 rfl rfl ?_
                      refine r_imulZ hX dX4_offsetOf_104 ?_
                      refine r_bipushZ hX dX4_offsetOf_105 (by decide) ?_
                      refine r_iload_n hX dX4_offsetOf_107 rfl rfl ?_
                      refine r_imulZ hX dX4_offsetOf_108 ?_
                      refine r_iaddZ hX dX4_offsetOf_109 ?_
                      refine r_iload hX dX4_offsetOf_110 rfl ?_
                      refine r_iaddZ hX dX4_offsetOf_112 ?_
                      refine r_istore hX dX4_offsetOf_113 (by decide) rfl ?_
                      refine r_iload hX dX4_offsetOf_115 rfl ?_
                      refine r_i2lZ hX dX4_offsetOf_117 (by omega) ?_
                      refine r_ldc2Z (z := -64800) hX kc_X4_64 (by decide) dX4_offsetOf_118 ?_
                      refine r_ldc2Z (z := 64800) hX kc_X4_66 (by decide) dX4_offsetOf_121 ?_
                      refine r_callS hX (z_X4_isIn _ _ _ _ _ (by omega) (by omega) (by omega)) ks_X4_38 rfl rfl (Nat.le_of_ble_eq_true rfl) ⟨(Nat.le_of_ble_eq_true rfl), (Nat.le_of_ble_eq_true rfl)⟩ ⟨(Nat.le_of_ble_eq_true rfl), (Nat.le_of_ble_eq_true rfl)⟩ dX4_offsetOf_124 (fun _ _ z => False.elim z) (fun v9 ws9 h141 => ?_)
                      obtain ⟨rfl, hw9⟩ := h141
                      subst ws9
                      dsimp only [mPush]
                      refine r_if_neB (tgt := 135) hX dX4_offsetOf_127 (by decide) (fun c142 => ?_) (fun c142 => ?_)
                      · have c142 := of_decide_eq_true c142
                        refine r_aload_n hX dX4_offsetOf_135 rfl rfl ?_
                        refine r_get hX kf_X4_7 14 rfl rfl dX4_offsetOf_136 ?_
                        refine r_iload_n hX dX4_offsetOf_139 rfl rfl ?_
                        refine r_iload hX dX4_offsetOf_140 rfl ?_
                        refine r_iastZ hX 15 0 rfl rfl (a0).toNat (by omega) (by omega) (by decide) dX4_offsetOf_142 ?_
                        refine r_eqw (zRw_off (j := (a0).toNat) (z := ((3600 * a1) + (60 * a2)) + a3)) ?_
                        refine r_iload hX dX4_offsetOf_143 rfl ?_
                        refine r_iret hX hE dX4_offsetOf_145 (Nat.le_of_ble_eq_true rfl) (Nat.le_of_ble_eq_true rfl) ⟨_, rfl, Or.inl ⟨by omega, ?_⟩⟩
                        unfold oOff
                        rw [if_pos (by omega), show a1 * 3600 + a2 * 60 + a3 = 3600 * a1 + 60 * a2 + a3 by omega]
                        exact ⟨rfl, rfl⟩
                      · have c142 := of_decide_eq_false c142
                        refine r_aload_n hX dX4_offsetOf_130 rfl rfl ?_
                        refine r_callV hX (z_X4_no ad ae cs K S 0 rest) kv_X4_80 14 rfl rfl rfl rfl (Nat.le_of_ble_eq_true rfl) ⟨(Nat.le_of_ble_eq_true rfl), (Nat.le_of_ble_eq_true rfl)⟩ ⟨(Nat.le_of_ble_eq_true rfl), (Nat.le_of_ble_eq_true rfl)⟩ dX4_offsetOf_131 (fun _ _ z => False.elim z) (fun v9 ws9 h143 => ?_)
                        obtain ⟨rfl, hw9⟩ := h143
                        subst ws9
                        dsimp only [mPush]
                        refine r_iret hX hE dX4_offsetOf_134 (Nat.le_of_ble_eq_true rfl) (Nat.le_of_ble_eq_true rfl) ⟨_, rfl, Or.inl ⟨by omega, ?_⟩⟩
                        unfold oOff
                        rw [if_neg (by omega)]
                        exact ⟨rfl, rfl⟩
              · refine r_iconstZ hX dX4_offsetOf_40 ?_
                refine r_goto (tgt := 45) hX dX4_offsetOf_41 (by decide) ?_
                refine r_istore hX dX4_offsetOf_45 (by decide) rfl ?_
                refine r_iload_n hX dX4_offsetOf_47 rfl rfl ?_
                refine r_i2lZ hX dX4_offsetOf_48 (by omega) ?_
                refine r_ldc2Z (z := -18) hX kc_X4_72 (by decide) dX4_offsetOf_49 ?_
                refine r_ldc2Z (z := 18) hX kc_X4_74 (by decide) dX4_offsetOf_52 ?_
                refine r_callS hX (z_X4_isIn _ _ _ _ _ (by omega) (by omega) (by omega)) ks_X4_38 rfl rfl (Nat.le_of_ble_eq_true rfl) ⟨(Nat.le_of_ble_eq_true rfl), (Nat.le_of_ble_eq_true rfl)⟩ ⟨(Nat.le_of_ble_eq_true rfl), (Nat.le_of_ble_eq_true rfl)⟩ dX4_offsetOf_55 (fun _ _ z => False.elim z) (fun v9 ws9 h144 => ?_)
                obtain ⟨rfl, hw9⟩ := h144
                subst ws9
                dsimp only [mPush]
                refine r_if_eqB (tgt := 95) hX dX4_offsetOf_58 (by decide) (fun c145 => ?_) (fun c145 => ?_)
                · have c145 := of_decide_eq_false c145
                  refine r_aload_n hX dX4_offsetOf_95 rfl rfl ?_
                  refine r_callV hX (z_X4_no ad ae cs K S 0 rest) kv_X4_80 14 rfl rfl rfl rfl (Nat.le_of_ble_eq_true rfl) ⟨(Nat.le_of_ble_eq_true rfl), (Nat.le_of_ble_eq_true rfl)⟩ ⟨(Nat.le_of_ble_eq_true rfl), (Nat.le_of_ble_eq_true rfl)⟩ dX4_offsetOf_96 (fun _ _ z => False.elim z) (fun v9 ws9 h146 => ?_)
                  obtain ⟨rfl, hw9⟩ := h146
                  subst ws9
                  dsimp only [mPush]
                  refine r_iret hX hE dX4_offsetOf_99 (Nat.le_of_ble_eq_true rfl) (Nat.le_of_ble_eq_true rfl) ⟨_, rfl, Or.inl ⟨by omega, ?_⟩⟩
                  unfold oOff
                  rw [if_neg (by omega)]
                  exact ⟨rfl, rfl⟩
                · have c145 := of_decide_eq_true c145
                  refine r_iload_n hX dX4_offsetOf_61 rfl rfl ?_
                  refine r_i2lZ hX dX4_offsetOf_62 (by omega) ?_
                  refine r_ldc2Z (z := -59) hX kc_X4_76 (by decide) dX4_offsetOf_63 ?_
                  refine r_ldc2Z (z := 59) hX kc_X4_78 (by decide) dX4_offsetOf_66 ?_
                  refine r_callS hX (z_X4_isIn _ _ _ _ _ (by omega) (by omega) (by omega)) ks_X4_38 rfl rfl (Nat.le_of_ble_eq_true rfl) ⟨(Nat.le_of_ble_eq_true rfl), (Nat.le_of_ble_eq_true rfl)⟩ ⟨(Nat.le_of_ble_eq_true rfl), (Nat.le_of_ble_eq_true rfl)⟩ dX4_offsetOf_69 (fun _ _ z => False.elim z) (fun v9 ws9 h147 => ?_)
                  obtain ⟨rfl, hw9⟩ := h147
                  subst ws9
                  dsimp only [mPush]
                  refine r_if_eqB (tgt := 95) hX dX4_offsetOf_72 (by decide) (fun c148 => ?_) (fun c148 => ?_)
                  · have c148 := of_decide_eq_false c148
                    refine r_aload_n hX dX4_offsetOf_95 rfl rfl ?_
                    refine r_callV hX (z_X4_no ad ae cs K S 0 rest) kv_X4_80 14 rfl rfl rfl rfl (Nat.le_of_ble_eq_true rfl) ⟨(Nat.le_of_ble_eq_true rfl), (Nat.le_of_ble_eq_true rfl)⟩ ⟨(Nat.le_of_ble_eq_true rfl), (Nat.le_of_ble_eq_true rfl)⟩ dX4_offsetOf_96 (fun _ _ z => False.elim z) (fun v9 ws9 h149 => ?_)
                    obtain ⟨rfl, hw9⟩ := h149
                    subst ws9
                    dsimp only [mPush]
                    refine r_iret hX hE dX4_offsetOf_99 (Nat.le_of_ble_eq_true rfl) (Nat.le_of_ble_eq_true rfl) ⟨_, rfl, Or.inl ⟨by omega, ?_⟩⟩
                    unfold oOff
                    rw [if_neg (by omega)]
                    exact ⟨rfl, rfl⟩
                  · have c148 := of_decide_eq_true c148
                    refine r_iload hX dX4_offsetOf_75 rfl ?_
                    refine r_i2lZ hX dX4_offsetOf_77 (by omega) ?_
                    refine r_ldc2Z (z := -59) hX kc_X4_76 (by decide) dX4_offsetOf_78 ?_
                    refine r_ldc2Z (z := 59) hX kc_X4_78 (by decide) dX4_offsetOf_81 ?_
                    refine r_callS hX (z_X4_isIn _ _ _ _ _ (by omega) (by omega) (by omega)) ks_X4_38 rfl rfl (Nat.le_of_ble_eq_true rfl) ⟨(Nat.le_of_ble_eq_true rfl), (Nat.le_of_ble_eq_true rfl)⟩ ⟨(Nat.le_of_ble_eq_true rfl), (Nat.le_of_ble_eq_true rfl)⟩ dX4_offsetOf_84 (fun _ _ z => False.elim z) (fun v9 ws9 h150 => ?_)
                    obtain ⟨rfl, hw9⟩ := h150
                    subst ws9
                    dsimp only [mPush]
                    refine r_if_eqB (tgt := 95) hX dX4_offsetOf_87 (by decide) (fun c151 => ?_) (fun c151 => ?_)
                    · have c151 := of_decide_eq_false c151
                      refine r_aload_n hX dX4_offsetOf_95 rfl rfl ?_
                      refine r_callV hX (z_X4_no ad ae cs K S 0 rest) kv_X4_80 14 rfl rfl rfl rfl (Nat.le_of_ble_eq_true rfl) ⟨(Nat.le_of_ble_eq_true rfl), (Nat.le_of_ble_eq_true rfl)⟩ ⟨(Nat.le_of_ble_eq_true rfl), (Nat.le_of_ble_eq_true rfl)⟩ dX4_offsetOf_96 (fun _ _ z => False.elim z) (fun v9 ws9 h152 => ?_)
                      obtain ⟨rfl, hw9⟩ := h152
                      subst ws9
                      dsimp only [mPush]
                      refine r_iret hX hE dX4_offsetOf_99 (Nat.le_of_ble_eq_true rfl) (Nat.le_of_ble_eq_true rfl) ⟨_, rfl, Or.inl ⟨by omega, ?_⟩⟩
                      unfold oOff
                      rw [if_neg (by omega)]
                      exact ⟨rfl, rfl⟩
                    · have c151 := of_decide_eq_true c151
                      refine r_iload hX dX4_offsetOf_90 rfl ?_
                      refine r_if_eqZ (tgt := 100) hX dX4_offsetOf_92 (by decide) (by decide) (fun q => absurd q (by decide)) (fun _ => ?_)
                      refine r_aload_n hX dX4_offsetOf_95 rfl rfl ?_
                      refine r_callV hX (z_X4_no ad ae cs K S 0 rest) kv_X4_80 14 rfl rfl rfl rfl (Nat.le_of_ble_eq_true rfl) ⟨(Nat.le_of_ble_eq_true rfl), (Nat.le_of_ble_eq_true rfl)⟩ ⟨(Nat.le_of_ble_eq_true rfl), (Nat.le_of_ble_eq_true rfl)⟩ dX4_offsetOf_96 (fun _ _ z => False.elim z) (fun v9 ws9 h153 => ?_)
                      obtain ⟨rfl, hw9⟩ := h153
                      subst ws9
                      dsimp only [mPush]
                      refine r_iret hX hE dX4_offsetOf_99 (Nat.le_of_ble_eq_true rfl) (Nat.le_of_ble_eq_true rfl) ⟨_, rfl, Or.inl ⟨by omega, ?_⟩⟩
                      unfold oOff
                      rw [if_neg (by omega)]
                      exact ⟨rfl, rfl⟩
  · rcases zst1 c3 with ⟨hx, e0⟩ | ⟨hx, hy, e0⟩
    · rw [e0]
      have hx := of_decide_eq_true hx
      refine r_iconstZ hX dX4_offsetOf_12 ?_
      exact r_iret hX hE dX4_offsetOf_13 (Nat.le_of_ble_eq_true rfl) (Nat.le_of_ble_eq_true rfl) ⟨_, rfl, Or.inr (Or.inl ⟨by omega, rfl⟩)⟩
    · exact absurd hy (by decide)
set_option maxHeartbeats 4000000 in
set_option maxRecDepth 20000 in
theorem z_X4_seconds (ad ae : Nat → Nat) (cs : ClassId × ClassId × ClassId) (K : mK) (S : mS) (th : Int32) (rest : va_W) (hS : sWF S) (a0 : Int) (h0 : rJ a0)  : mCt (mTy cs) yX4_seconds cX4_seconds 2 (some .int) ⟨2, 0, 0, 45⟩ [.ref (ae 0), .int (iZ a0)] (mRw ad ae cs K (mJof S th) rest) (fun v ws' => ∃ r : Int32, v = some (.int r) ∧ (((((0 ≤ a0 ∧ a0 < 4)) ∧ (0 ≤ (0 : Int))) ∧ r = iZ (sof S a0.toNat) ∧ ws' = mRw ad ae cs K (mJof S 0) rest) ∨ (¬ ((0 ≤ a0 ∧ a0 < 4)) ∧ ws' = mRw ad ae cs K (mJof S 1) rest) ∨ (((0 ≤ a0 ∧ a0 < 4)) ∧ ¬ (0 ≤ (0 : Int)) ∧ ws' = mRw ad ae cs K (mJof S 2) rest))) mNo := by
  refine mCt.of (by decide +kernel) (Nat.le_of_ble_eq_true rfl) (fun X hX hE => ?_)
  replace hX : mOK X RX4 cX4_seconds 2 ⟨2, 0, 0, 45⟩ [] (mTy cs) := hX
  refine r_aload_n hX dX4_seconds_0 rfl rfl ?_
  refine r_iload_n hX dX4_seconds_1 rfl rfl ?_
  refine r_callS hX (z_X4_isNone _ _ _ (by omega)) ks_X4_61 rfl rfl (Nat.le_of_ble_eq_true rfl) ⟨(Nat.le_of_ble_eq_true rfl), (Nat.le_of_ble_eq_true rfl)⟩ ⟨(Nat.le_of_ble_eq_true rfl), (Nat.le_of_ble_eq_true rfl)⟩ dX4_seconds_2 (fun _ _ z => False.elim z) (fun v9 ws9 h1 => ?_)
  obtain ⟨rfl, hw9⟩ := h1
  subst ws9
  dsimp only [mPush]
  refine r_iconst (v := b2i false) hX dX4_seconds_5 (by decide) ?_
  refine r_callV hX (z_X4_isStopped ad ae cs K S th rest (decide (¬ (0 ≤ a0 ∧ a0 < 4))) false) kv_X4_68 14 rfl rfl rfl rfl (Nat.le_of_ble_eq_true rfl) ⟨(Nat.le_of_ble_eq_true rfl), (Nat.le_of_ble_eq_true rfl)⟩ ⟨(Nat.le_of_ble_eq_true rfl), (Nat.le_of_ble_eq_true rfl)⟩ dX4_seconds_6 (fun _ _ z => False.elim z) (fun v9 ws9 h2 => ?_)
  obtain ⟨rfl, hw9⟩ := h2
  subst ws9
  dsimp only [mPush]
  refine r_if_eqB (tgt := 16) hX dX4_seconds_9 (by decide) (fun c3 => ?_) (fun c3 => ?_)
  · obtain ⟨⟨hx, hy⟩, e0⟩ := zst0 c3
    have hx := of_decide_eq_false hx
    rw [e0]
    refine r_aload_n hX dX4_seconds_16 rfl rfl ?_
    refine r_get hX kf_X4_7 14 rfl rfl dX4_seconds_17 ?_
    refine r_iload_n hX dX4_seconds_20 rfl rfl ?_
    refine r_ialdZ hX 15 0 rfl rfl (a0).toNat (by omega) (by omega) (by decide) dX4_seconds_21 ?_
    refine r_iret hX hE dX4_seconds_22 (Nat.le_of_ble_eq_true rfl) (Nat.le_of_ble_eq_true rfl) ⟨_, rfl, Or.inl ⟨by omega, congrArg iZ ?_, rfl⟩⟩
    rfl
  · rcases zst1 c3 with ⟨hx, e0⟩ | ⟨hx, hy, e0⟩
    · rw [e0]
      have hx := of_decide_eq_true hx
      refine r_iconstZ hX dX4_seconds_12 ?_
      refine r_goto (tgt := 22) hX dX4_seconds_13 (by decide) ?_
      exact r_iret hX hE dX4_seconds_22 (Nat.le_of_ble_eq_true rfl) (Nat.le_of_ble_eq_true rfl) ⟨_, rfl, Or.inr (Or.inl ⟨by omega, rfl⟩)⟩
    · exact absurd hy (by decide)
set_option maxHeartbeats 4000000 in
set_option maxRecDepth 20000 in
theorem z_X4_orderOffset (ad ae : Nat → Nat) (cs : ClassId × ClassId × ClassId) (K : mK) (S : mS) (th : Int32) (rest : va_W) (hS : sWF S) (a0 : Int) (h0 : rJ a0) (a1 : Int) (h1 : rJ a1)  : mCt (mTy cs) yX4_orderOffset cX4_orderOffset 3 (some .int) ⟨2, 0, 0, 45⟩ [.ref (ae 0), .int (iZ a0), .int (iZ a1)] (mRw ad ae cs K (mJof S th) rest) (fun v ws' => ∃ r : Int32, v = some (.int r) ∧ (((((0 ≤ a0 ∧ a0 < 4) ∧ (0 ≤ a1 ∧ a1 < 4)) ∧ (0 ≤ (0 : Int))) ∧ r = iZ (cmpZ (sof S a1.toNat) (sof S a0.toNat)) ∧ ws' = mRw ad ae cs K (mJof S 0) rest) ∨ (¬ ((0 ≤ a0 ∧ a0 < 4) ∧ (0 ≤ a1 ∧ a1 < 4)) ∧ ws' = mRw ad ae cs K (mJof S 1) rest) ∨ (((0 ≤ a0 ∧ a0 < 4) ∧ (0 ≤ a1 ∧ a1 < 4)) ∧ ¬ (0 ≤ (0 : Int)) ∧ ws' = mRw ad ae cs K (mJof S 2) rest))) mNo := by
  refine mCt.of (by decide +kernel) (Nat.le_of_ble_eq_true rfl) (fun X hX hE => ?_)
  replace hX : mOK X RX4 cX4_orderOffset 3 ⟨2, 0, 0, 45⟩ [] (mTy cs) := hX
  refine r_aload_n hX dX4_orderOffset_0 rfl rfl ?_
  refine r_iload_n hX dX4_orderOffset_1 rfl rfl ?_
  refine r_callS hX (z_X4_isNone _ _ _ (by omega)) ks_X4_61 rfl rfl (Nat.le_of_ble_eq_true rfl) ⟨(Nat.le_of_ble_eq_true rfl), (Nat.le_of_ble_eq_true rfl)⟩ ⟨(Nat.le_of_ble_eq_true rfl), (Nat.le_of_ble_eq_true rfl)⟩ dX4_orderOffset_2 (fun _ _ z => False.elim z) (fun v9 ws9 h1 => ?_)
  obtain ⟨rfl, hw9⟩ := h1
  subst ws9
  dsimp only [mPush]
  refine r_if_neB (tgt := 15) hX dX4_orderOffset_5 (by decide) (fun c2 => ?_) (fun c2 => ?_)
  · have c2 := of_decide_eq_true c2
    refine r_iconst (v := b2i true) hX dX4_orderOffset_15 (by decide) ?_
    refine r_goto (tgt := 20) hX dX4_orderOffset_16 (by decide) ?_
    refine r_iconst (v := b2i false) hX dX4_orderOffset_20 (by decide) ?_
    refine r_callV hX (z_X4_isStopped ad ae cs K S th rest true false) kv_X4_68 14 rfl rfl rfl rfl (Nat.le_of_ble_eq_true rfl) ⟨(Nat.le_of_ble_eq_true rfl), (Nat.le_of_ble_eq_true rfl)⟩ ⟨(Nat.le_of_ble_eq_true rfl), (Nat.le_of_ble_eq_true rfl)⟩ dX4_orderOffset_21 (fun _ _ z => False.elim z) (fun v9 ws9 h3 => ?_)
    obtain ⟨rfl, hw9⟩ := h3
    subst ws9
    dsimp only [mPush]
    refine r_if_eqB (tgt := 31) hX dX4_orderOffset_24 (by decide) (fun c4 => ?_) (fun c4 => ?_)
    · exact absurd c4 (by simp)
    · rcases zst1 c4 with ⟨hx, e0⟩ | ⟨hx, hy, e0⟩
      · rw [e0]
        refine r_iconstZ hX dX4_orderOffset_27 ?_
        refine r_goto (tgt := 48) hX dX4_orderOffset_28 (by decide) ?_
        exact r_iret hX hE dX4_orderOffset_48 (Nat.le_of_ble_eq_true rfl) (Nat.le_of_ble_eq_true rfl) ⟨_, rfl, Or.inr (Or.inl ⟨by omega, rfl⟩)⟩
      · exact absurd hx (by decide)
  · have c2 := of_decide_eq_false c2
    refine r_iload_n hX dX4_orderOffset_8 rfl rfl ?_
    refine r_callS hX (z_X4_isNone _ _ _ (by omega)) ks_X4_61 rfl rfl (Nat.le_of_ble_eq_true rfl) ⟨(Nat.le_of_ble_eq_true rfl), (Nat.le_of_ble_eq_true rfl)⟩ ⟨(Nat.le_of_ble_eq_true rfl), (Nat.le_of_ble_eq_true rfl)⟩ dX4_orderOffset_9 (fun _ _ z => False.elim z) (fun v9 ws9 h5 => ?_)
    obtain ⟨rfl, hw9⟩ := h5
    subst ws9
    dsimp only [mPush]
    refine r_if_eqB (tgt := 19) hX dX4_orderOffset_12 (by decide) (fun c6 => ?_) (fun c6 => ?_)
    · have c6 := of_decide_eq_false c6
      refine r_iconst (v := b2i false) hX dX4_orderOffset_19 (by decide) ?_
      refine r_iconst (v := b2i false) hX dX4_orderOffset_20 (by decide) ?_
      refine r_callV hX (z_X4_isStopped ad ae cs K S th rest false false) kv_X4_68 14 rfl rfl rfl rfl (Nat.le_of_ble_eq_true rfl) ⟨(Nat.le_of_ble_eq_true rfl), (Nat.le_of_ble_eq_true rfl)⟩ ⟨(Nat.le_of_ble_eq_true rfl), (Nat.le_of_ble_eq_true rfl)⟩ dX4_orderOffset_21 (fun _ _ z => False.elim z) (fun v9 ws9 h7 => ?_)
      obtain ⟨rfl, hw9⟩ := h7
      subst ws9
      dsimp only [mPush]
      refine r_if_eqB (tgt := 31) hX dX4_orderOffset_24 (by decide) (fun c8 => ?_) (fun c8 => ?_)
      · obtain ⟨⟨hx, hy⟩, e0⟩ := zst0 c8
        rw [e0]
        have hof0 := hS.1 a0.toNat (by omega)
        have hof1 := hS.1 a1.toNat (by omega)
        refine r_aload_n hX dX4_orderOffset_31 rfl rfl ?_
        refine r_get hX kf_X4_7 14 rfl rfl dX4_orderOffset_32 ?_
        refine r_iload_n hX dX4_orderOffset_35 rfl rfl ?_
        refine r_ialdZ hX 15 0 rfl rfl (a1).toNat (by omega) (by omega) (by decide) dX4_orderOffset_36 ?_
        refine r_i2lZ hX dX4_orderOffset_37 (by omega) ?_
        refine r_aload_n hX dX4_orderOffset_38 rfl rfl ?_
        refine r_get hX kf_X4_7 14 rfl rfl dX4_orderOffset_39 ?_
        refine r_iload_n hX dX4_orderOffset_42 rfl rfl ?_
        refine r_ialdZ hX 15 0 rfl rfl (a0).toNat (by omega) (by omega) (by decide) dX4_orderOffset_43 ?_
        refine r_i2lZ hX dX4_orderOffset_44 (by omega) ?_
        refine r_callS hX (z_X4_order _ _ _ _ (by omega) (by omega)) ks_X4_88 rfl rfl (Nat.le_of_ble_eq_true rfl) ⟨(Nat.le_of_ble_eq_true rfl), (Nat.le_of_ble_eq_true rfl)⟩ ⟨(Nat.le_of_ble_eq_true rfl), (Nat.le_of_ble_eq_true rfl)⟩ dX4_orderOffset_45 (fun _ _ z => False.elim z) (fun v9 ws9 h9 => ?_)
        obtain ⟨rfl, hw9⟩ := h9
        subst ws9
        dsimp only [mPush]
        have hcm9 := cmpZ_b (sof S ((a1).toNat)) (sof S ((a0).toNat))
        refine r_iret hX hE dX4_orderOffset_48 (Nat.le_of_ble_eq_true rfl) (Nat.le_of_ble_eq_true rfl) ⟨_, rfl, Or.inl ⟨by omega, congrArg iZ ?_, rfl⟩⟩
        rfl
      · rcases zst1 c8 with ⟨hx, e0⟩ | ⟨hx, hy, e0⟩
        · exact absurd hx (by decide)
        · exact absurd hy (by decide)
    · have c6 := of_decide_eq_true c6
      refine r_iconst (v := b2i true) hX dX4_orderOffset_15 (by decide) ?_
      refine r_goto (tgt := 20) hX dX4_orderOffset_16 (by decide) ?_
      refine r_iconst (v := b2i false) hX dX4_orderOffset_20 (by decide) ?_
      refine r_callV hX (z_X4_isStopped ad ae cs K S th rest true false) kv_X4_68 14 rfl rfl rfl rfl (Nat.le_of_ble_eq_true rfl) ⟨(Nat.le_of_ble_eq_true rfl), (Nat.le_of_ble_eq_true rfl)⟩ ⟨(Nat.le_of_ble_eq_true rfl), (Nat.le_of_ble_eq_true rfl)⟩ dX4_orderOffset_21 (fun _ _ z => False.elim z) (fun v9 ws9 h10 => ?_)
      obtain ⟨rfl, hw9⟩ := h10
      subst ws9
      dsimp only [mPush]
      refine r_if_eqB (tgt := 31) hX dX4_orderOffset_24 (by decide) (fun c11 => ?_) (fun c11 => ?_)
      · exact absurd c11 (by simp)
      · rcases zst1 c11 with ⟨hx, e0⟩ | ⟨hx, hy, e0⟩
        · rw [e0]
          refine r_iconstZ hX dX4_orderOffset_27 ?_
          refine r_goto (tgt := 48) hX dX4_orderOffset_28 (by decide) ?_
          exact r_iret hX hE dX4_orderOffset_48 (Nat.le_of_ble_eq_true rfl) (Nat.le_of_ble_eq_true rfl) ⟨_, rfl, Or.inr (Or.inl ⟨by omega, rfl⟩)⟩
        · exact absurd hx (by decide)
set_option maxHeartbeats 4000000 in
set_option maxRecDepth 20000 in
theorem z_X4_moment (ad ae : Nat → Nat) (cs : ClassId × ClassId × ClassId) (K : mK) (S : mS) (th : Int32) (rest : va_W) (hS : sWF S) (a0 : Int) (h0 : rJ a0) (a1 : Int) (h1 : rJ a1) (a2 : Int) (h2 : rJ a2)  : mCt (mTy cs) yX4_moment cX4_moment 4 (some .int) ⟨3, 0, 0, 69⟩ [.ref (ae 0), .int (iZ a0), .int (iZ a1), .int (iZ a2)] (mRw ad ae cs K (mJof S th) rest) (fun v ws' => ∃ r : Int32, v = some (.int r) ∧ (((((0 ≤ a0 ∧ a0 < 4)) ∧ (0 ≤ (0 : Int))) ∧ r = iZ (oNum S a0.toNat (a1 * 1000000000 + a2)).1 ∧ ws' = mRw ad ae cs K (mJof (oNum S a0.toNat (a1 * 1000000000 + a2)).2 0) rest) ∨ (¬ ((0 ≤ a0 ∧ a0 < 4)) ∧ ws' = mRw ad ae cs K (mJof S 1) rest) ∨ (((0 ≤ a0 ∧ a0 < 4)) ∧ ¬ (0 ≤ (0 : Int)) ∧ ws' = mRw ad ae cs K (mJof S 2) rest))) mNo := by
  refine mCt.of (by decide +kernel) (Nat.le_of_ble_eq_true rfl) (fun X hX hE => ?_)
  replace hX : mOK X RX4 cX4_moment 4 ⟨3, 0, 0, 69⟩ [] (mTy cs) := hX
  refine r_aload_n hX dX4_moment_0 rfl rfl ?_
  refine r_iload_n hX dX4_moment_1 rfl rfl ?_
  refine r_callS hX (z_X4_isNone _ _ _ (by omega)) ks_X4_61 rfl rfl (Nat.le_of_ble_eq_true rfl) ⟨(Nat.le_of_ble_eq_true rfl), (Nat.le_of_ble_eq_true rfl)⟩ ⟨(Nat.le_of_ble_eq_true rfl), (Nat.le_of_ble_eq_true rfl)⟩ dX4_moment_2 (fun _ _ z => False.elim z) (fun v9 ws9 h1 => ?_)
  obtain ⟨rfl, hw9⟩ := h1
  subst ws9
  dsimp only [mPush]
  refine r_iconst (v := b2i false) hX dX4_moment_5 (by decide) ?_
  refine r_callV hX (z_X4_isStopped ad ae cs K S th rest (decide (¬ (0 ≤ a0 ∧ a0 < 4))) false) kv_X4_68 14 rfl rfl rfl rfl (Nat.le_of_ble_eq_true rfl) ⟨(Nat.le_of_ble_eq_true rfl), (Nat.le_of_ble_eq_true rfl)⟩ ⟨(Nat.le_of_ble_eq_true rfl), (Nat.le_of_ble_eq_true rfl)⟩ dX4_moment_6 (fun _ _ z => False.elim z) (fun v9 ws9 h2 => ?_)
  obtain ⟨rfl, hw9⟩ := h2
  subst ws9
  dsimp only [mPush]
  refine r_if_eqB (tgt := 16) hX dX4_moment_9 (by decide) (fun c3 => ?_) (fun c3 => ?_)
  · obtain ⟨⟨hx, hy⟩, e0⟩ := zst0 c3
    have hx := of_decide_eq_false hx
    rw [e0]
    refine r_aload_n hX dX4_moment_16 rfl rfl ?_
    refine r_iload_n hX dX4_moment_17 rfl rfl ?_
    refine r_iload_n hX dX4_moment_18 rfl rfl ?_
    refine r_i2lZ hX dX4_moment_19 (by omega) ?_
    refine r_ldc2Z (z := 1000000000) hX kc_X4_96 (by decide) dX4_moment_20 ?_
    refine r_lmulZ hX dX4_moment_23 ?_
    refine r_iload_n hX dX4_moment_24 rfl rfl ?_
    refine r_i2lZ hX dX4_moment_25 (by omega) ?_
    refine r_laddZ hX dX4_moment_26 ?_
    refine r_callV hX (z_X4_become ad ae cs K S 0 rest hS _ (a0).toNat (by omega) (by omega) _ (by omega)) kv_X4_105 14 rfl rfl rfl rfl (Nat.le_of_ble_eq_true rfl) ⟨(Nat.le_of_ble_eq_true rfl), (Nat.le_of_ble_eq_true rfl)⟩ ⟨(Nat.le_of_ble_eq_true rfl), (Nat.le_of_ble_eq_true rfl)⟩ dX4_moment_27 (fun _ _ z => False.elim z) (fun v9 ws9 h4 => ?_)
    obtain ⟨rfl, hw9⟩ := h4
    subst ws9
    dsimp only [mPush]
    refine r_iret hX hE dX4_moment_30 (Nat.le_of_ble_eq_true rfl) (Nat.le_of_ble_eq_true rfl) ⟨_, rfl, Or.inl ⟨by omega, ?_⟩⟩
    exact ⟨rfl, rfl⟩
  · rcases zst1 c3 with ⟨hx, e0⟩ | ⟨hx, hy, e0⟩
    · rw [e0]
      have hx := of_decide_eq_true hx
      refine r_iconstZ hX dX4_moment_12 ?_
      refine r_goto (tgt := 30) hX dX4_moment_13 (by decide) ?_
      exact r_iret hX hE dX4_moment_30 (Nat.le_of_ble_eq_true rfl) (Nat.le_of_ble_eq_true rfl) ⟨_, rfl, Or.inr (Or.inl ⟨by omega, rfl⟩)⟩
    · exact absurd hy (by decide)
set_option maxHeartbeats 4000000 in
set_option maxRecDepth 20000 in
theorem z_X4_milli (ad ae : Nat → Nat) (cs : ClassId × ClassId × ClassId) (K : mK) (S : mS) (th : Int32) (rest : va_W) (hS : sWF S) (a0 : Int) (h0 : rJ a0) (a1 : Int) (h1 : rJ a1) (a2 : Int) (h2 : rJ a2)  : mCt (mTy cs) yX4_milli cX4_milli 4 (some .int) ⟨3, 0, 0, 69⟩ [.ref (ae 0), .int (iZ a0), .int (iZ a1), .int (iZ a2)] (mRw ad ae cs K (mJof S th) rest) (fun v ws' => ∃ r : Int32, v = some (.int r) ∧ (((((0 ≤ a0 ∧ a0 < 4)) ∧ (0 ≤ (0 : Int))) ∧ r = iZ (oNum S a0.toNat (a1 * 1000000000 + a2 * 1000000)).1 ∧ ws' = mRw ad ae cs K (mJof (oNum S a0.toNat (a1 * 1000000000 + a2 * 1000000)).2 0) rest) ∨ (¬ ((0 ≤ a0 ∧ a0 < 4)) ∧ ws' = mRw ad ae cs K (mJof S 1) rest) ∨ (((0 ≤ a0 ∧ a0 < 4)) ∧ ¬ (0 ≤ (0 : Int)) ∧ ws' = mRw ad ae cs K (mJof S 2) rest))) mNo := by
  refine mCt.of (by decide +kernel) (Nat.le_of_ble_eq_true rfl) (fun X hX hE => ?_)
  replace hX : mOK X RX4 cX4_milli 4 ⟨3, 0, 0, 69⟩ [] (mTy cs) := hX
  refine r_aload_n hX dX4_milli_0 rfl rfl ?_
  refine r_iload_n hX dX4_milli_1 rfl rfl ?_
  refine r_callS hX (z_X4_isNone _ _ _ (by omega)) ks_X4_61 rfl rfl (Nat.le_of_ble_eq_true rfl) ⟨(Nat.le_of_ble_eq_true rfl), (Nat.le_of_ble_eq_true rfl)⟩ ⟨(Nat.le_of_ble_eq_true rfl), (Nat.le_of_ble_eq_true rfl)⟩ dX4_milli_2 (fun _ _ z => False.elim z) (fun v9 ws9 h1 => ?_)
  obtain ⟨rfl, hw9⟩ := h1
  subst ws9
  dsimp only [mPush]
  refine r_iconst (v := b2i false) hX dX4_milli_5 (by decide) ?_
  refine r_callV hX (z_X4_isStopped ad ae cs K S th rest (decide (¬ (0 ≤ a0 ∧ a0 < 4))) false) kv_X4_68 14 rfl rfl rfl rfl (Nat.le_of_ble_eq_true rfl) ⟨(Nat.le_of_ble_eq_true rfl), (Nat.le_of_ble_eq_true rfl)⟩ ⟨(Nat.le_of_ble_eq_true rfl), (Nat.le_of_ble_eq_true rfl)⟩ dX4_milli_6 (fun _ _ z => False.elim z) (fun v9 ws9 h2 => ?_)
  obtain ⟨rfl, hw9⟩ := h2
  subst ws9
  dsimp only [mPush]
  refine r_if_eqB (tgt := 16) hX dX4_milli_9 (by decide) (fun c3 => ?_) (fun c3 => ?_)
  · obtain ⟨⟨hx, hy⟩, e0⟩ := zst0 c3
    have hx := of_decide_eq_false hx
    rw [e0]
    refine r_aload_n hX dX4_milli_16 rfl rfl ?_
    refine r_iload_n hX dX4_milli_17 rfl rfl ?_
    refine r_iload_n hX dX4_milli_18 rfl rfl ?_
    refine r_i2lZ hX dX4_milli_19 (by omega) ?_
    refine r_ldc2Z (z := 1000) hX kc_X4_109 (by decide) dX4_milli_20 ?_
    refine r_lmulZ hX dX4_milli_23 ?_
    refine r_iload_n hX dX4_milli_24 rfl rfl ?_
    refine r_i2lZ hX dX4_milli_25 (by omega) ?_
    refine r_laddZ hX dX4_milli_26 ?_
    refine r_ldc2Z (z := 1000000) hX kc_X4_111 (by decide) dX4_milli_27 ?_
    refine r_lmulZ hX dX4_milli_30 ?_
    refine r_callV hX (z_X4_become ad ae cs K S 0 rest hS _ (a0).toNat (by omega) (by omega) _ (by omega)) kv_X4_105 14 rfl rfl rfl rfl (Nat.le_of_ble_eq_true rfl) ⟨(Nat.le_of_ble_eq_true rfl), (Nat.le_of_ble_eq_true rfl)⟩ ⟨(Nat.le_of_ble_eq_true rfl), (Nat.le_of_ble_eq_true rfl)⟩ dX4_milli_31 (fun _ _ z => False.elim z) (fun v9 ws9 h4 => ?_)
    obtain ⟨rfl, hw9⟩ := h4
    subst ws9
    dsimp only [mPush]
    refine r_iret hX hE dX4_milli_34 (Nat.le_of_ble_eq_true rfl) (Nat.le_of_ble_eq_true rfl) ⟨_, rfl, Or.inl ⟨by omega, ?_⟩⟩
    exact oeR (oNum_c (by omega))
  · rcases zst1 c3 with ⟨hx, e0⟩ | ⟨hx, hy, e0⟩
    · rw [e0]
      have hx := of_decide_eq_true hx
      refine r_iconstZ hX dX4_milli_12 ?_
      refine r_goto (tgt := 34) hX dX4_milli_13 (by decide) ?_
      exact r_iret hX hE dX4_milli_34 (Nat.le_of_ble_eq_true rfl) (Nat.le_of_ble_eq_true rfl) ⟨_, rfl, Or.inr (Or.inl ⟨by omega, rfl⟩)⟩
    · exact absurd hy (by decide)
set_option maxHeartbeats 4000000 in
set_option maxRecDepth 20000 in
theorem z_X4_move (ad ae : Nat → Nat) (cs : ClassId × ClassId × ClassId) (K : mK) (S : mS) (th : Int32) (rest : va_W) (hS : sWF S) (a0 : Int) (h0 : rJ a0) (a1 : Int) (h1 : rJ a1) (a2 : Int) (h2 : rJ a2) (b3 : Bool)  : mCt (mTy cs) yX4_move cX4_move 7 (some .int) ⟨3, 0, 0, 69⟩ [.ref (ae 0), .int (iZ a0), .int (iZ a1), .int (iZ a2), .int (b2i b3)] (mRw ad ae cs K (mJof S th) rest) (fun v ws' => ∃ r : Int32, v = some (.int r) ∧ (((((0 ≤ a0 ∧ a0 < 4)) ∧ (0 ≤ a1 ∧ a1 ≤ 2)) ∧ r = iZ (oNum S a0.toNat (snu S a0.toNat + zSg a2 b3 * zUn a1)).1 ∧ ws' = mRw ad ae cs K (mJof (oNum S a0.toNat (snu S a0.toNat + zSg a2 b3 * zUn a1)).2 0) rest) ∨ (¬ ((0 ≤ a0 ∧ a0 < 4)) ∧ ws' = mRw ad ae cs K (mJof S 1) rest) ∨ (((0 ≤ a0 ∧ a0 < 4)) ∧ ¬ (0 ≤ a1 ∧ a1 ≤ 2) ∧ ws' = mRw ad ae cs K (mJof S 2) rest))) mNo := by
  refine mCt.of (by decide +kernel) (Nat.le_of_ble_eq_true rfl) (fun X hX hE => ?_)
  replace hX : mOK X RX4 cX4_move 7 ⟨3, 0, 0, 69⟩ [] (mTy cs) := hX
  refine r_aload_n hX dX4_move_0 rfl rfl ?_
  refine r_iload_n hX dX4_move_1 rfl rfl ?_
  refine r_callS hX (z_X4_isNone _ _ _ (by omega)) ks_X4_61 rfl rfl (Nat.le_of_ble_eq_true rfl) ⟨(Nat.le_of_ble_eq_true rfl), (Nat.le_of_ble_eq_true rfl)⟩ ⟨(Nat.le_of_ble_eq_true rfl), (Nat.le_of_ble_eq_true rfl)⟩ dX4_move_2 (fun _ _ z => False.elim z) (fun v9 ws9 h1 => ?_)
  obtain ⟨rfl, hw9⟩ := h1
  subst ws9
  dsimp only [mPush]
  refine r_iload_n hX dX4_move_5 rfl rfl ?_
  refine r_i2lZ hX dX4_move_6 (by omega) ?_
  refine r_lconstZ (v := 0) hX dX4_move_7 rfl ?_
  refine r_ldc2Z (z := 2) hX kc_X4_42 (by decide) dX4_move_8 ?_
  refine r_callS hX (z_X4_isIn _ _ _ _ _ (by omega) (by omega) (by omega)) ks_X4_38 rfl rfl (Nat.le_of_ble_eq_true rfl) ⟨(Nat.le_of_ble_eq_true rfl), (Nat.le_of_ble_eq_true rfl)⟩ ⟨(Nat.le_of_ble_eq_true rfl), (Nat.le_of_ble_eq_true rfl)⟩ dX4_move_11 (fun _ _ z => False.elim z) (fun v9 ws9 h2 => ?_)
  obtain ⟨rfl, hw9⟩ := h2
  subst ws9
  dsimp only [mPush]
  refine r_if_neB (tgt := 21) hX dX4_move_14 (by decide) (fun c3 => ?_) (fun c3 => ?_)
  · have c3 := of_decide_eq_true c3
    refine r_iconst (v := b2i false) hX dX4_move_21 (by decide) ?_
    refine r_callV hX (z_X4_isStopped ad ae cs K S th rest (decide (¬ (0 ≤ a0 ∧ a0 < 4))) false) kv_X4_68 14 rfl rfl rfl rfl (Nat.le_of_ble_eq_true rfl) ⟨(Nat.le_of_ble_eq_true rfl), (Nat.le_of_ble_eq_true rfl)⟩ ⟨(Nat.le_of_ble_eq_true rfl), (Nat.le_of_ble_eq_true rfl)⟩ dX4_move_22 (fun _ _ z => False.elim z) (fun v9 ws9 h4 => ?_)
    obtain ⟨rfl, hw9⟩ := h4
    subst ws9
    dsimp only [mPush]
    refine r_if_eqB (tgt := 30) hX dX4_move_25 (by decide) (fun c5 => ?_) (fun c5 => ?_)
    · obtain ⟨⟨hx, hy⟩, e0⟩ := zst0 c5
      have hx := of_decide_eq_false hx
      rw [e0]
      have hnu := hS.2.1 a0.toNat (by omega)
      refine r_iload hX dX4_move_30 rfl ?_
      refine r_if_eqB (tgt := 41) hX dX4_move_32 (by decide) (fun c6 => ?_) (fun c6 => ?_)
      · have c6 := id c6
        refine r_iload_n hX dX4_move_41 rfl rfl ?_
        refine r_i2lZ hX dX4_move_42 (by omega) ?_
        refine r_iload_n hX dX4_move_43 rfl rfl ?_
        refine r_if_neZ (tgt := 53) hX dX4_move_44 (by decide) (by omega) (fun c7 => ?_) (fun c7 => ?_)
        · refine r_iload_n hX dX4_move_53 rfl rfl ?_
          refine r_iconstZ hX dX4_move_54 ?_
          refine r_icmp_neZ (tgt := 64) hX dX4_move_55 (by decide) (by omega) (by decide) (fun c8 => ?_) (fun c8 => ?_)
          · refine r_lconstZ (v := 1) hX dX4_move_64 rfl ?_
            refine r_lmulZ hX dX4_move_65 ?_
            refine r_lstore hX dX4_move_66 (by decide) rfl ?_
            refine r_aload_n hX dX4_move_68 rfl rfl ?_
            refine r_iload_n hX dX4_move_69 rfl rfl ?_
            refine r_aload_n hX dX4_move_70 rfl rfl ?_
            refine r_get hX kf_X4_13 14 rfl rfl dX4_move_71 ?_
            refine r_iload_n hX dX4_move_74 rfl rfl ?_
            refine r_laldZ hX 16 1 rfl rfl (a0).toNat (by omega) (by omega) (by decide) dX4_move_75 ?_
            refine r_lload hX dX4_move_76 rfl ?_
            refine r_laddZ hX dX4_move_78 ?_
            refine r_callV hX (z_X4_become ad ae cs K S 0 rest hS _ (a0).toNat (by omega) (by omega) _ (by omega)) kv_X4_105 14 rfl rfl rfl rfl (Nat.le_of_ble_eq_true rfl) ⟨(Nat.le_of_ble_eq_true rfl), (Nat.le_of_ble_eq_true rfl)⟩ ⟨(Nat.le_of_ble_eq_true rfl), (Nat.le_of_ble_eq_true rfl)⟩ dX4_move_79 (fun _ _ z => False.elim z) (fun v9 ws9 h9 => ?_)
            obtain ⟨rfl, hw9⟩ := h9
            subst ws9
            dsimp only [mPush]
            refine r_iret hX hE dX4_move_82 (Nat.le_of_ble_eq_true rfl) (Nat.le_of_ble_eq_true rfl) ⟨_, rfl, Or.inl ⟨by omega, ?_⟩⟩
            first | rw [show b3 = true by assumption] | rw [show b3 = false by assumption]
            simp only [zSg, cond]
            first | rw [show zUn a1 = 1000000000 by unfold zUn; rw [if_pos (by omega)]] | rw [show zUn a1 = 1000000 by unfold zUn; rw [if_neg (by omega), if_pos (by omega)]] | rw [show zUn a1 = 1 by unfold zUn; rw [if_neg (by omega), if_neg (by omega)]]
            exact oeR (oNum_c (by omega))
          · refine r_ldc2Z (z := 1000000) hX kc_X4_111 (by decide) dX4_move_58 ?_
            refine r_goto (tgt := 65) hX dX4_move_61 (by decide) ?_
            refine r_lmulZ hX dX4_move_65 ?_
            refine r_lstore hX dX4_move_66 (by decide) rfl ?_
            refine r_aload_n hX dX4_move_68 rfl rfl ?_
            refine r_iload_n hX dX4_move_69 rfl rfl ?_
            refine r_aload_n hX dX4_move_70 rfl rfl ?_
            refine r_get hX kf_X4_13 14 rfl rfl dX4_move_71 ?_
            refine r_iload_n hX dX4_move_74 rfl rfl ?_
            refine r_laldZ hX 16 1 rfl rfl (a0).toNat (by omega) (by omega) (by decide) dX4_move_75 ?_
            refine r_lload hX dX4_move_76 rfl ?_
            refine r_laddZ hX dX4_move_78 ?_
            refine r_callV hX (z_X4_become ad ae cs K S 0 rest hS _ (a0).toNat (by omega) (by omega) _ (by omega)) kv_X4_105 14 rfl rfl rfl rfl (Nat.le_of_ble_eq_true rfl) ⟨(Nat.le_of_ble_eq_true rfl), (Nat.le_of_ble_eq_true rfl)⟩ ⟨(Nat.le_of_ble_eq_true rfl), (Nat.le_of_ble_eq_true rfl)⟩ dX4_move_79 (fun _ _ z => False.elim z) (fun v9 ws9 h10 => ?_)
            obtain ⟨rfl, hw9⟩ := h10
            subst ws9
            dsimp only [mPush]
            refine r_iret hX hE dX4_move_82 (Nat.le_of_ble_eq_true rfl) (Nat.le_of_ble_eq_true rfl) ⟨_, rfl, Or.inl ⟨by omega, ?_⟩⟩
            first | rw [show b3 = true by assumption] | rw [show b3 = false by assumption]
            simp only [zSg, cond]
            first | rw [show zUn a1 = 1000000000 by unfold zUn; rw [if_pos (by omega)]] | rw [show zUn a1 = 1000000 by unfold zUn; rw [if_neg (by omega), if_pos (by omega)]] | rw [show zUn a1 = 1 by unfold zUn; rw [if_neg (by omega), if_neg (by omega)]]
            exact oeR (oNum_c (by omega))
        · refine r_ldc2Z (z := 1000000000) hX kc_X4_96 (by decide) dX4_move_47 ?_
          refine r_goto (tgt := 65) hX dX4_move_50 (by decide) ?_
          refine r_lmulZ hX dX4_move_65 ?_
          refine r_lstore hX dX4_move_66 (by decide) rfl ?_
          refine r_aload_n hX dX4_move_68 rfl rfl ?_
          refine r_iload_n hX dX4_move_69 rfl rfl ?_
          refine r_aload_n hX dX4_move_70 rfl rfl ?_
          refine r_get hX kf_X4_13 14 rfl rfl dX4_move_71 ?_
          refine r_iload_n hX dX4_move_74 rfl rfl ?_
          refine r_laldZ hX 16 1 rfl rfl (a0).toNat (by omega) (by omega) (by decide) dX4_move_75 ?_
          refine r_lload hX dX4_move_76 rfl ?_
          refine r_laddZ hX dX4_move_78 ?_
          refine r_callV hX (z_X4_become ad ae cs K S 0 rest hS _ (a0).toNat (by omega) (by omega) _ (by omega)) kv_X4_105 14 rfl rfl rfl rfl (Nat.le_of_ble_eq_true rfl) ⟨(Nat.le_of_ble_eq_true rfl), (Nat.le_of_ble_eq_true rfl)⟩ ⟨(Nat.le_of_ble_eq_true rfl), (Nat.le_of_ble_eq_true rfl)⟩ dX4_move_79 (fun _ _ z => False.elim z) (fun v9 ws9 h11 => ?_)
          obtain ⟨rfl, hw9⟩ := h11
          subst ws9
          dsimp only [mPush]
          refine r_iret hX hE dX4_move_82 (Nat.le_of_ble_eq_true rfl) (Nat.le_of_ble_eq_true rfl) ⟨_, rfl, Or.inl ⟨by omega, ?_⟩⟩
          first | rw [show b3 = true by assumption] | rw [show b3 = false by assumption]
          simp only [zSg, cond]
          first | rw [show zUn a1 = 1000000000 by unfold zUn; rw [if_pos (by omega)]] | rw [show zUn a1 = 1000000 by unfold zUn; rw [if_neg (by omega), if_pos (by omega)]] | rw [show zUn a1 = 1 by unfold zUn; rw [if_neg (by omega), if_neg (by omega)]]
          exact oeR (oNum_c (by omega))
      · have c6 := id c6
        refine r_iload_n hX dX4_move_35 rfl rfl ?_
        refine r_i2lZ hX dX4_move_36 (by omega) ?_
        refine r_lnegZ hX dX4_move_37 ?_
        refine r_goto (tgt := 43) hX dX4_move_38 (by decide) ?_
        refine r_iload_n hX dX4_move_43 rfl rfl ?_
        refine r_if_neZ (tgt := 53) hX dX4_move_44 (by decide) (by omega) (fun c12 => ?_) (fun c12 => ?_)
        · refine r_iload_n hX dX4_move_53 rfl rfl ?_
          refine r_iconstZ hX dX4_move_54 ?_
          refine r_icmp_neZ (tgt := 64) hX dX4_move_55 (by decide) (by omega) (by decide) (fun c13 => ?_) (fun c13 => ?_)
          · refine r_lconstZ (v := 1) hX dX4_move_64 rfl ?_
            refine r_lmulZ hX dX4_move_65 ?_
            refine r_lstore hX dX4_move_66 (by decide) rfl ?_
            refine r_aload_n hX dX4_move_68 rfl rfl ?_
            refine r_iload_n hX dX4_move_69 rfl rfl ?_
            refine r_aload_n hX dX4_move_70 rfl rfl ?_
            refine r_get hX kf_X4_13 14 rfl rfl dX4_move_71 ?_
            refine r_iload_n hX dX4_move_74 rfl rfl ?_
            refine r_laldZ hX 16 1 rfl rfl (a0).toNat (by omega) (by omega) (by decide) dX4_move_75 ?_
            refine r_lload hX dX4_move_76 rfl ?_
            refine r_laddZ hX dX4_move_78 ?_
            refine r_callV hX (z_X4_become ad ae cs K S 0 rest hS _ (a0).toNat (by omega) (by omega) _ (by omega)) kv_X4_105 14 rfl rfl rfl rfl (Nat.le_of_ble_eq_true rfl) ⟨(Nat.le_of_ble_eq_true rfl), (Nat.le_of_ble_eq_true rfl)⟩ ⟨(Nat.le_of_ble_eq_true rfl), (Nat.le_of_ble_eq_true rfl)⟩ dX4_move_79 (fun _ _ z => False.elim z) (fun v9 ws9 h14 => ?_)
            obtain ⟨rfl, hw9⟩ := h14
            subst ws9
            dsimp only [mPush]
            refine r_iret hX hE dX4_move_82 (Nat.le_of_ble_eq_true rfl) (Nat.le_of_ble_eq_true rfl) ⟨_, rfl, Or.inl ⟨by omega, ?_⟩⟩
            first | rw [show b3 = true by assumption] | rw [show b3 = false by assumption]
            simp only [zSg, cond]
            first | rw [show zUn a1 = 1000000000 by unfold zUn; rw [if_pos (by omega)]] | rw [show zUn a1 = 1000000 by unfold zUn; rw [if_neg (by omega), if_pos (by omega)]] | rw [show zUn a1 = 1 by unfold zUn; rw [if_neg (by omega), if_neg (by omega)]]
            exact oeR (oNum_c (by omega))
          · refine r_ldc2Z (z := 1000000) hX kc_X4_111 (by decide) dX4_move_58 ?_
            refine r_goto (tgt := 65) hX dX4_move_61 (by decide) ?_
            refine r_lmulZ hX dX4_move_65 ?_
            refine r_lstore hX dX4_move_66 (by decide) rfl ?_
            refine r_aload_n hX dX4_move_68 rfl rfl ?_
            refine r_iload_n hX dX4_move_69 rfl rfl ?_
            refine r_aload_n hX dX4_move_70 rfl rfl ?_
            refine r_get hX kf_X4_13 14 rfl rfl dX4_move_71 ?_
            refine r_iload_n hX dX4_move_74 rfl rfl ?_
            refine r_laldZ hX 16 1 rfl rfl (a0).toNat (by omega) (by omega) (by decide) dX4_move_75 ?_
            refine r_lload hX dX4_move_76 rfl ?_
            refine r_laddZ hX dX4_move_78 ?_
            refine r_callV hX (z_X4_become ad ae cs K S 0 rest hS _ (a0).toNat (by omega) (by omega) _ (by omega)) kv_X4_105 14 rfl rfl rfl rfl (Nat.le_of_ble_eq_true rfl) ⟨(Nat.le_of_ble_eq_true rfl), (Nat.le_of_ble_eq_true rfl)⟩ ⟨(Nat.le_of_ble_eq_true rfl), (Nat.le_of_ble_eq_true rfl)⟩ dX4_move_79 (fun _ _ z => False.elim z) (fun v9 ws9 h15 => ?_)
            obtain ⟨rfl, hw9⟩ := h15
            subst ws9
            dsimp only [mPush]
            refine r_iret hX hE dX4_move_82 (Nat.le_of_ble_eq_true rfl) (Nat.le_of_ble_eq_true rfl) ⟨_, rfl, Or.inl ⟨by omega, ?_⟩⟩
            first | rw [show b3 = true by assumption] | rw [show b3 = false by assumption]
            simp only [zSg, cond]
            first | rw [show zUn a1 = 1000000000 by unfold zUn; rw [if_pos (by omega)]] | rw [show zUn a1 = 1000000 by unfold zUn; rw [if_neg (by omega), if_pos (by omega)]] | rw [show zUn a1 = 1 by unfold zUn; rw [if_neg (by omega), if_neg (by omega)]]
            exact oeR (oNum_c (by omega))
        · refine r_ldc2Z (z := 1000000000) hX kc_X4_96 (by decide) dX4_move_47 ?_
          refine r_goto (tgt := 65) hX dX4_move_50 (by decide) ?_
          refine r_lmulZ hX dX4_move_65 ?_
          refine r_lstore hX dX4_move_66 (by decide) rfl ?_
          refine r_aload_n hX dX4_move_68 rfl rfl ?_
          refine r_iload_n hX dX4_move_69 rfl rfl ?_
          refine r_aload_n hX dX4_move_70 rfl rfl ?_
          refine r_get hX kf_X4_13 14 rfl rfl dX4_move_71 ?_
          refine r_iload_n hX dX4_move_74 rfl rfl ?_
          refine r_laldZ hX 16 1 rfl rfl (a0).toNat (by omega) (by omega) (by decide) dX4_move_75 ?_
          refine r_lload hX dX4_move_76 rfl ?_
          refine r_laddZ hX dX4_move_78 ?_
          refine r_callV hX (z_X4_become ad ae cs K S 0 rest hS _ (a0).toNat (by omega) (by omega) _ (by omega)) kv_X4_105 14 rfl rfl rfl rfl (Nat.le_of_ble_eq_true rfl) ⟨(Nat.le_of_ble_eq_true rfl), (Nat.le_of_ble_eq_true rfl)⟩ ⟨(Nat.le_of_ble_eq_true rfl), (Nat.le_of_ble_eq_true rfl)⟩ dX4_move_79 (fun _ _ z => False.elim z) (fun v9 ws9 h16 => ?_)
          obtain ⟨rfl, hw9⟩ := h16
          subst ws9
          dsimp only [mPush]
          refine r_iret hX hE dX4_move_82 (Nat.le_of_ble_eq_true rfl) (Nat.le_of_ble_eq_true rfl) ⟨_, rfl, Or.inl ⟨by omega, ?_⟩⟩
          first | rw [show b3 = true by assumption] | rw [show b3 = false by assumption]
          simp only [zSg, cond]
          first | rw [show zUn a1 = 1000000000 by unfold zUn; rw [if_pos (by omega)]] | rw [show zUn a1 = 1000000 by unfold zUn; rw [if_neg (by omega), if_pos (by omega)]] | rw [show zUn a1 = 1 by unfold zUn; rw [if_neg (by omega), if_neg (by omega)]]
          exact oeR (oNum_c (by omega))
    · rcases zst1 c5 with ⟨hx, e0⟩ | ⟨hx, hy, e0⟩
      · rw [e0]
        have hx := of_decide_eq_true hx
        refine r_iconstZ hX dX4_move_28 ?_
        exact r_iret hX hE dX4_move_29 (Nat.le_of_ble_eq_true rfl) (Nat.le_of_ble_eq_true rfl) ⟨_, rfl, Or.inr (Or.inl ⟨by omega, rfl⟩)⟩
      · exact absurd hy (by decide)
  · have c3 := of_decide_eq_false c3
    refine r_iconst (v := b2i true) hX dX4_move_17 (by decide) ?_
    refine r_goto (tgt := 22) hX dX4_move_18 (by decide) ?_
    refine r_callV hX (z_X4_isStopped ad ae cs K S th rest (decide (¬ (0 ≤ a0 ∧ a0 < 4))) true) kv_X4_68 14 rfl rfl rfl rfl (Nat.le_of_ble_eq_true rfl) ⟨(Nat.le_of_ble_eq_true rfl), (Nat.le_of_ble_eq_true rfl)⟩ ⟨(Nat.le_of_ble_eq_true rfl), (Nat.le_of_ble_eq_true rfl)⟩ dX4_move_22 (fun _ _ z => False.elim z) (fun v9 ws9 h17 => ?_)
    obtain ⟨rfl, hw9⟩ := h17
    subst ws9
    dsimp only [mPush]
    refine r_if_eqB (tgt := 30) hX dX4_move_25 (by decide) (fun c18 => ?_) (fun c18 => ?_)
    · exact absurd c18 (by simp)
    · rcases zst1 c18 with ⟨hx, e0⟩ | ⟨hx, hy, e0⟩
      · rw [e0]
        have hx := of_decide_eq_true hx
        refine r_iconstZ hX dX4_move_28 ?_
        exact r_iret hX hE dX4_move_29 (Nat.le_of_ble_eq_true rfl) (Nat.le_of_ble_eq_true rfl) ⟨_, rfl, Or.inr (Or.inl ⟨by omega, rfl⟩)⟩
      · rw [e0]
        have hx := of_decide_eq_false hx
        refine r_iconstZ hX dX4_move_28 ?_
        exact r_iret hX hE dX4_move_29 (Nat.le_of_ble_eq_true rfl) (Nat.le_of_ble_eq_true rfl) ⟨_, rfl, Or.inr (Or.inr ⟨by omega, by omega, rfl⟩)⟩
set_option maxHeartbeats 4000000 in
set_option maxRecDepth 20000 in
theorem z_X4_momentOf (ad ae : Nat → Nat) (cs : ClassId × ClassId × ClassId) (K : mK) (S : mS) (th : Int32) (rest : va_W) (hS : sWF S) (a0 : Int) (h0 : rJ a0) (a1 : Int) (h1 : rJ a1)  : mCt (mTy cs) yX4_momentOf cX4_momentOf 3 (some .int) ⟨3, 0, 0, 69⟩ [.ref (ae 0), .int (iZ a0), .int (iZ a1)] (mRw ad ae cs K (mJof S th) rest) (fun v ws' => ∃ r : Int32, v = some (.int r) ∧ (((((0 ≤ a0 ∧ a0 < 4) ∧ (0 ≤ a1 ∧ a1 < 4)) ∧ (0 ≤ (0 : Int))) ∧ r = iZ (oNum S a0.toNat ((sse S a1.toNat - sow S a1.toNat) * 1000000000 + sna S a1.toNat)).1 ∧ ws' = mRw ad ae cs K (mJof (oNum S a0.toNat ((sse S a1.toNat - sow S a1.toNat) * 1000000000 + sna S a1.toNat)).2 0) rest) ∨ (¬ ((0 ≤ a0 ∧ a0 < 4) ∧ (0 ≤ a1 ∧ a1 < 4)) ∧ ws' = mRw ad ae cs K (mJof S 1) rest) ∨ (((0 ≤ a0 ∧ a0 < 4) ∧ (0 ≤ a1 ∧ a1 < 4)) ∧ ¬ (0 ≤ (0 : Int)) ∧ ws' = mRw ad ae cs K (mJof S 2) rest))) mNo := by
  refine mCt.of (by decide +kernel) (Nat.le_of_ble_eq_true rfl) (fun X hX hE => ?_)
  replace hX : mOK X RX4 cX4_momentOf 3 ⟨3, 0, 0, 69⟩ [] (mTy cs) := hX
  refine r_aload_n hX dX4_momentOf_0 rfl rfl ?_
  refine r_iload_n hX dX4_momentOf_1 rfl rfl ?_
  refine r_callS hX (z_X4_isNone _ _ _ (by omega)) ks_X4_61 rfl rfl (Nat.le_of_ble_eq_true rfl) ⟨(Nat.le_of_ble_eq_true rfl), (Nat.le_of_ble_eq_true rfl)⟩ ⟨(Nat.le_of_ble_eq_true rfl), (Nat.le_of_ble_eq_true rfl)⟩ dX4_momentOf_2 (fun _ _ z => False.elim z) (fun v9 ws9 h1 => ?_)
  obtain ⟨rfl, hw9⟩ := h1
  subst ws9
  dsimp only [mPush]
  refine r_if_neB (tgt := 15) hX dX4_momentOf_5 (by decide) (fun c2 => ?_) (fun c2 => ?_)
  · have c2 := of_decide_eq_true c2
    refine r_iconst (v := b2i true) hX dX4_momentOf_15 (by decide) ?_
    refine r_goto (tgt := 20) hX dX4_momentOf_16 (by decide) ?_
    refine r_iconst (v := b2i false) hX dX4_momentOf_20 (by decide) ?_
    refine r_callV hX (z_X4_isStopped ad ae cs K S th rest true false) kv_X4_68 14 rfl rfl rfl rfl (Nat.le_of_ble_eq_true rfl) ⟨(Nat.le_of_ble_eq_true rfl), (Nat.le_of_ble_eq_true rfl)⟩ ⟨(Nat.le_of_ble_eq_true rfl), (Nat.le_of_ble_eq_true rfl)⟩ dX4_momentOf_21 (fun _ _ z => False.elim z) (fun v9 ws9 h3 => ?_)
    obtain ⟨rfl, hw9⟩ := h3
    subst ws9
    dsimp only [mPush]
    refine r_if_eqB (tgt := 31) hX dX4_momentOf_24 (by decide) (fun c4 => ?_) (fun c4 => ?_)
    · exact absurd c4 (by simp)
    · rcases zst1 c4 with ⟨hx, e0⟩ | ⟨hx, hy, e0⟩
      · rw [e0]
        refine r_iconstZ hX dX4_momentOf_27 ?_
        refine r_goto (tgt := 41) hX dX4_momentOf_28 (by decide) ?_
        exact r_iret hX hE dX4_momentOf_41 (Nat.le_of_ble_eq_true rfl) (Nat.le_of_ble_eq_true rfl) ⟨_, rfl, Or.inr (Or.inl ⟨by omega, rfl⟩)⟩
      · exact absurd hx (by decide)
  · have c2 := of_decide_eq_false c2
    refine r_iload_n hX dX4_momentOf_8 rfl rfl ?_
    refine r_callS hX (z_X4_isNone _ _ _ (by omega)) ks_X4_61 rfl rfl (Nat.le_of_ble_eq_true rfl) ⟨(Nat.le_of_ble_eq_true rfl), (Nat.le_of_ble_eq_true rfl)⟩ ⟨(Nat.le_of_ble_eq_true rfl), (Nat.le_of_ble_eq_true rfl)⟩ dX4_momentOf_9 (fun _ _ z => False.elim z) (fun v9 ws9 h5 => ?_)
    obtain ⟨rfl, hw9⟩ := h5
    subst ws9
    dsimp only [mPush]
    refine r_if_eqB (tgt := 19) hX dX4_momentOf_12 (by decide) (fun c6 => ?_) (fun c6 => ?_)
    · have c6 := of_decide_eq_false c6
      refine r_iconst (v := b2i false) hX dX4_momentOf_19 (by decide) ?_
      refine r_iconst (v := b2i false) hX dX4_momentOf_20 (by decide) ?_
      refine r_callV hX (z_X4_isStopped ad ae cs K S th rest false false) kv_X4_68 14 rfl rfl rfl rfl (Nat.le_of_ble_eq_true rfl) ⟨(Nat.le_of_ble_eq_true rfl), (Nat.le_of_ble_eq_true rfl)⟩ ⟨(Nat.le_of_ble_eq_true rfl), (Nat.le_of_ble_eq_true rfl)⟩ dX4_momentOf_21 (fun _ _ z => False.elim z) (fun v9 ws9 h7 => ?_)
      obtain ⟨rfl, hw9⟩ := h7
      subst ws9
      dsimp only [mPush]
      refine r_if_eqB (tgt := 31) hX dX4_momentOf_24 (by decide) (fun c8 => ?_) (fun c8 => ?_)
      · obtain ⟨⟨hx, hy⟩, e0⟩ := zst0 c8
        rw [e0]
        have hr1 := zrg hS (d := a1.toNat) (by omega)
        have hse := hS.2.2.2.1 a1.toNat (by omega)
        refine r_aload_n hX dX4_momentOf_31 rfl rfl ?_
        refine r_iload_n hX dX4_momentOf_32 rfl rfl ?_
        refine r_aload_n hX dX4_momentOf_33 rfl rfl ?_
        refine r_iload_n hX dX4_momentOf_34 rfl rfl ?_
        refine r_callV hX (z_X4_number ad ae cs K S 0 rest hS _ (a1).toNat (by omega) (by omega)) kv_X4_115 14 rfl rfl rfl rfl (Nat.le_of_ble_eq_true rfl) ⟨(Nat.le_of_ble_eq_true rfl), (Nat.le_of_ble_eq_true rfl)⟩ ⟨(Nat.le_of_ble_eq_true rfl), (Nat.le_of_ble_eq_true rfl)⟩ dX4_momentOf_35 (fun _ _ z => False.elim z) (fun v9 ws9 h9 => ?_)
        obtain ⟨rfl, hw9⟩ := h9
        subst ws9
        dsimp only [mPush]
        refine r_callV hX (z_X4_become ad ae cs K S 0 rest hS _ (a0).toNat (by omega) (by omega) _ (by omega)) kv_X4_105 14 rfl rfl rfl rfl (Nat.le_of_ble_eq_true rfl) ⟨(Nat.le_of_ble_eq_true rfl), (Nat.le_of_ble_eq_true rfl)⟩ ⟨(Nat.le_of_ble_eq_true rfl), (Nat.le_of_ble_eq_true rfl)⟩ dX4_momentOf_38 (fun _ _ z => False.elim z) (fun v9 ws9 h10 => ?_)
        obtain ⟨rfl, hw9⟩ := h10
        subst ws9
        dsimp only [mPush]
        refine r_iret hX hE dX4_momentOf_41 (Nat.le_of_ble_eq_true rfl) (Nat.le_of_ble_eq_true rfl) ⟨_, rfl, Or.inl ⟨by omega, ?_⟩⟩
        exact ⟨rfl, rfl⟩
      · rcases zst1 c8 with ⟨hx, e0⟩ | ⟨hx, hy, e0⟩
        · exact absurd hx (by decide)
        · exact absurd hy (by decide)
    · have c6 := of_decide_eq_true c6
      refine r_iconst (v := b2i true) hX dX4_momentOf_15 (by decide) ?_
      refine r_goto (tgt := 20) hX dX4_momentOf_16 (by decide) ?_
      refine r_iconst (v := b2i false) hX dX4_momentOf_20 (by decide) ?_
      refine r_callV hX (z_X4_isStopped ad ae cs K S th rest true false) kv_X4_68 14 rfl rfl rfl rfl (Nat.le_of_ble_eq_true rfl) ⟨(Nat.le_of_ble_eq_true rfl), (Nat.le_of_ble_eq_true rfl)⟩ ⟨(Nat.le_of_ble_eq_true rfl), (Nat.le_of_ble_eq_true rfl)⟩ dX4_momentOf_21 (fun _ _ z => False.elim z) (fun v9 ws9 h11 => ?_)
      obtain ⟨rfl, hw9⟩ := h11
      subst ws9
      dsimp only [mPush]
      refine r_if_eqB (tgt := 31) hX dX4_momentOf_24 (by decide) (fun c12 => ?_) (fun c12 => ?_)
      · exact absurd c12 (by simp)
      · rcases zst1 c12 with ⟨hx, e0⟩ | ⟨hx, hy, e0⟩
        · rw [e0]
          refine r_iconstZ hX dX4_momentOf_27 ?_
          refine r_goto (tgt := 41) hX dX4_momentOf_28 (by decide) ?_
          exact r_iret hX hE dX4_momentOf_41 (Nat.le_of_ble_eq_true rfl) (Nat.le_of_ble_eq_true rfl) ⟨_, rfl, Or.inr (Or.inl ⟨by omega, rfl⟩)⟩
        · exact absurd hx (by decide)
set_option maxHeartbeats 4000000 in
set_option maxRecDepth 20000 in
theorem z_X4_copyMoment (ad ae : Nat → Nat) (cs : ClassId × ClassId × ClassId) (K : mK) (S : mS) (th : Int32) (rest : va_W) (hS : sWF S) (a0 : Int) (h0 : rJ a0) (a1 : Int) (h1 : rJ a1)  : mCt (mTy cs) yX4_copyMoment cX4_copyMoment 3 (some .int) ⟨3, 0, 0, 69⟩ [.ref (ae 0), .int (iZ a0), .int (iZ a1)] (mRw ad ae cs K (mJof S th) rest) (fun v ws' => ∃ r : Int32, v = some (.int r) ∧ (((((0 ≤ a0 ∧ a0 < 4) ∧ (0 ≤ a1 ∧ a1 < 4)) ∧ (0 ≤ (0 : Int))) ∧ r = iZ (oNum S a0.toNat (snu S a1.toNat)).1 ∧ ws' = mRw ad ae cs K (mJof (oNum S a0.toNat (snu S a1.toNat)).2 0) rest) ∨ (¬ ((0 ≤ a0 ∧ a0 < 4) ∧ (0 ≤ a1 ∧ a1 < 4)) ∧ ws' = mRw ad ae cs K (mJof S 1) rest) ∨ (((0 ≤ a0 ∧ a0 < 4) ∧ (0 ≤ a1 ∧ a1 < 4)) ∧ ¬ (0 ≤ (0 : Int)) ∧ ws' = mRw ad ae cs K (mJof S 2) rest))) mNo := by
  refine mCt.of (by decide +kernel) (Nat.le_of_ble_eq_true rfl) (fun X hX hE => ?_)
  replace hX : mOK X RX4 cX4_copyMoment 3 ⟨3, 0, 0, 69⟩ [] (mTy cs) := hX
  refine r_aload_n hX dX4_copyMoment_0 rfl rfl ?_
  refine r_iload_n hX dX4_copyMoment_1 rfl rfl ?_
  refine r_callS hX (z_X4_isNone _ _ _ (by omega)) ks_X4_61 rfl rfl (Nat.le_of_ble_eq_true rfl) ⟨(Nat.le_of_ble_eq_true rfl), (Nat.le_of_ble_eq_true rfl)⟩ ⟨(Nat.le_of_ble_eq_true rfl), (Nat.le_of_ble_eq_true rfl)⟩ dX4_copyMoment_2 (fun _ _ z => False.elim z) (fun v9 ws9 h1 => ?_)
  obtain ⟨rfl, hw9⟩ := h1
  subst ws9
  dsimp only [mPush]
  refine r_if_neB (tgt := 15) hX dX4_copyMoment_5 (by decide) (fun c2 => ?_) (fun c2 => ?_)
  · have c2 := of_decide_eq_true c2
    refine r_iconst (v := b2i true) hX dX4_copyMoment_15 (by decide) ?_
    refine r_goto (tgt := 20) hX dX4_copyMoment_16 (by decide) ?_
    refine r_iconst (v := b2i false) hX dX4_copyMoment_20 (by decide) ?_
    refine r_callV hX (z_X4_isStopped ad ae cs K S th rest true false) kv_X4_68 14 rfl rfl rfl rfl (Nat.le_of_ble_eq_true rfl) ⟨(Nat.le_of_ble_eq_true rfl), (Nat.le_of_ble_eq_true rfl)⟩ ⟨(Nat.le_of_ble_eq_true rfl), (Nat.le_of_ble_eq_true rfl)⟩ dX4_copyMoment_21 (fun _ _ z => False.elim z) (fun v9 ws9 h3 => ?_)
    obtain ⟨rfl, hw9⟩ := h3
    subst ws9
    dsimp only [mPush]
    refine r_if_eqB (tgt := 31) hX dX4_copyMoment_24 (by decide) (fun c4 => ?_) (fun c4 => ?_)
    · exact absurd c4 (by simp)
    · rcases zst1 c4 with ⟨hx, e0⟩ | ⟨hx, hy, e0⟩
      · rw [e0]
        refine r_iconstZ hX dX4_copyMoment_27 ?_
        refine r_goto (tgt := 42) hX dX4_copyMoment_28 (by decide) ?_
        exact r_iret hX hE dX4_copyMoment_42 (Nat.le_of_ble_eq_true rfl) (Nat.le_of_ble_eq_true rfl) ⟨_, rfl, Or.inr (Or.inl ⟨by omega, rfl⟩)⟩
      · exact absurd hx (by decide)
  · have c2 := of_decide_eq_false c2
    refine r_iload_n hX dX4_copyMoment_8 rfl rfl ?_
    refine r_callS hX (z_X4_isNone _ _ _ (by omega)) ks_X4_61 rfl rfl (Nat.le_of_ble_eq_true rfl) ⟨(Nat.le_of_ble_eq_true rfl), (Nat.le_of_ble_eq_true rfl)⟩ ⟨(Nat.le_of_ble_eq_true rfl), (Nat.le_of_ble_eq_true rfl)⟩ dX4_copyMoment_9 (fun _ _ z => False.elim z) (fun v9 ws9 h5 => ?_)
    obtain ⟨rfl, hw9⟩ := h5
    subst ws9
    dsimp only [mPush]
    refine r_if_eqB (tgt := 19) hX dX4_copyMoment_12 (by decide) (fun c6 => ?_) (fun c6 => ?_)
    · have c6 := of_decide_eq_false c6
      refine r_iconst (v := b2i false) hX dX4_copyMoment_19 (by decide) ?_
      refine r_iconst (v := b2i false) hX dX4_copyMoment_20 (by decide) ?_
      refine r_callV hX (z_X4_isStopped ad ae cs K S th rest false false) kv_X4_68 14 rfl rfl rfl rfl (Nat.le_of_ble_eq_true rfl) ⟨(Nat.le_of_ble_eq_true rfl), (Nat.le_of_ble_eq_true rfl)⟩ ⟨(Nat.le_of_ble_eq_true rfl), (Nat.le_of_ble_eq_true rfl)⟩ dX4_copyMoment_21 (fun _ _ z => False.elim z) (fun v9 ws9 h7 => ?_)
      obtain ⟨rfl, hw9⟩ := h7
      subst ws9
      dsimp only [mPush]
      refine r_if_eqB (tgt := 31) hX dX4_copyMoment_24 (by decide) (fun c8 => ?_) (fun c8 => ?_)
      · obtain ⟨⟨hx, hy⟩, e0⟩ := zst0 c8
        rw [e0]
        have hnu0 := hS.2.1 a0.toNat (by omega)
        have hnu1 := hS.2.1 a1.toNat (by omega)
        refine r_aload_n hX dX4_copyMoment_31 rfl rfl ?_
        refine r_iload_n hX dX4_copyMoment_32 rfl rfl ?_
        refine r_aload_n hX dX4_copyMoment_33 rfl rfl ?_
        refine r_get hX kf_X4_13 14 rfl rfl dX4_copyMoment_34 ?_
        refine r_iload_n hX dX4_copyMoment_37 rfl rfl ?_
        refine r_laldZ hX 16 1 rfl rfl (a1).toNat (by omega) (by omega) (by decide) dX4_copyMoment_38 ?_
        refine r_callV hX (z_X4_become ad ae cs K S 0 rest hS _ (a0).toNat (by omega) (by omega) _ (by omega)) kv_X4_105 14 rfl rfl rfl rfl (Nat.le_of_ble_eq_true rfl) ⟨(Nat.le_of_ble_eq_true rfl), (Nat.le_of_ble_eq_true rfl)⟩ ⟨(Nat.le_of_ble_eq_true rfl), (Nat.le_of_ble_eq_true rfl)⟩ dX4_copyMoment_39 (fun _ _ z => False.elim z) (fun v9 ws9 h9 => ?_)
        obtain ⟨rfl, hw9⟩ := h9
        subst ws9
        dsimp only [mPush]
        refine r_iret hX hE dX4_copyMoment_42 (Nat.le_of_ble_eq_true rfl) (Nat.le_of_ble_eq_true rfl) ⟨_, rfl, Or.inl ⟨by omega, ?_⟩⟩
        exact ⟨rfl, rfl⟩
      · rcases zst1 c8 with ⟨hx, e0⟩ | ⟨hx, hy, e0⟩
        · exact absurd hx (by decide)
        · exact absurd hy (by decide)
    · have c6 := of_decide_eq_true c6
      refine r_iconst (v := b2i true) hX dX4_copyMoment_15 (by decide) ?_
      refine r_goto (tgt := 20) hX dX4_copyMoment_16 (by decide) ?_
      refine r_iconst (v := b2i false) hX dX4_copyMoment_20 (by decide) ?_
      refine r_callV hX (z_X4_isStopped ad ae cs K S th rest true false) kv_X4_68 14 rfl rfl rfl rfl (Nat.le_of_ble_eq_true rfl) ⟨(Nat.le_of_ble_eq_true rfl), (Nat.le_of_ble_eq_true rfl)⟩ ⟨(Nat.le_of_ble_eq_true rfl), (Nat.le_of_ble_eq_true rfl)⟩ dX4_copyMoment_21 (fun _ _ z => False.elim z) (fun v9 ws9 h10 => ?_)
      obtain ⟨rfl, hw9⟩ := h10
      subst ws9
      dsimp only [mPush]
      refine r_if_eqB (tgt := 31) hX dX4_copyMoment_24 (by decide) (fun c11 => ?_) (fun c11 => ?_)
      · exact absurd c11 (by simp)
      · rcases zst1 c11 with ⟨hx, e0⟩ | ⟨hx, hy, e0⟩
        · rw [e0]
          refine r_iconstZ hX dX4_copyMoment_27 ?_
          refine r_goto (tgt := 42) hX dX4_copyMoment_28 (by decide) ?_
          exact r_iret hX hE dX4_copyMoment_42 (Nat.le_of_ble_eq_true rfl) (Nat.le_of_ble_eq_true rfl) ⟨_, rfl, Or.inr (Or.inl ⟨by omega, rfl⟩)⟩
        · exact absurd hx (by decide)
set_option maxHeartbeats 4000000 in
set_option maxRecDepth 20000 in
theorem z_X4_ofMoment (ad ae : Nat → Nat) (cs : ClassId × ClassId × ClassId) (K : mK) (S : mS) (th : Int32) (rest : va_W) (hS : sWF S) (a0 : Int) (h0 : rJ a0) (b1 : Bool)  : mCt (mTy cs) yX4_ofMoment cX4_ofMoment 3 (some .int) ⟨2, 0, 0, 46⟩ [.ref (ae 0), .int (iZ a0), .int (b2i b1)] (mRw ad ae cs K (mJof S th) rest) (fun v ws' => ∃ r : Int32, v = some (.int r) ∧ (((((0 ≤ a0 ∧ a0 < 4)) ∧ (0 ≤ (0 : Int))) ∧ r = iZ (cond b1 (snu S a0.toNat % 1000000000) (snu S a0.toNat / 1000000000)) ∧ ws' = mRw ad ae cs K (mJof S 0) rest) ∨ (¬ ((0 ≤ a0 ∧ a0 < 4)) ∧ ws' = mRw ad ae cs K (mJof S 1) rest) ∨ (((0 ≤ a0 ∧ a0 < 4)) ∧ ¬ (0 ≤ (0 : Int)) ∧ ws' = mRw ad ae cs K (mJof S 2) rest))) mNo := by
  refine mCt.of (by decide +kernel) (Nat.le_of_ble_eq_true rfl) (fun X hX hE => ?_)
  replace hX : mOK X RX4 cX4_ofMoment 3 ⟨2, 0, 0, 46⟩ [] (mTy cs) := hX
  refine r_aload_n hX dX4_ofMoment_0 rfl rfl ?_
  refine r_iload_n hX dX4_ofMoment_1 rfl rfl ?_
  refine r_callS hX (z_X4_isNone _ _ _ (by omega)) ks_X4_61 rfl rfl (Nat.le_of_ble_eq_true rfl) ⟨(Nat.le_of_ble_eq_true rfl), (Nat.le_of_ble_eq_true rfl)⟩ ⟨(Nat.le_of_ble_eq_true rfl), (Nat.le_of_ble_eq_true rfl)⟩ dX4_ofMoment_2 (fun _ _ z => False.elim z) (fun v9 ws9 h1 => ?_)
  obtain ⟨rfl, hw9⟩ := h1
  subst ws9
  dsimp only [mPush]
  refine r_iconst (v := b2i false) hX dX4_ofMoment_5 (by decide) ?_
  refine r_callV hX (z_X4_isStopped ad ae cs K S th rest (decide (¬ (0 ≤ a0 ∧ a0 < 4))) false) kv_X4_68 14 rfl rfl rfl rfl (Nat.le_of_ble_eq_true rfl) ⟨(Nat.le_of_ble_eq_true rfl), (Nat.le_of_ble_eq_true rfl)⟩ ⟨(Nat.le_of_ble_eq_true rfl), (Nat.le_of_ble_eq_true rfl)⟩ dX4_ofMoment_6 (fun _ _ z => False.elim z) (fun v9 ws9 h2 => ?_)
  obtain ⟨rfl, hw9⟩ := h2
  subst ws9
  dsimp only [mPush]
  refine r_if_eqB (tgt := 14) hX dX4_ofMoment_9 (by decide) (fun c3 => ?_) (fun c3 => ?_)
  · obtain ⟨⟨hx, hy⟩, e0⟩ := zst0 c3
    have hx := of_decide_eq_false hx
    rw [e0]
    have hnu := hS.2.1 a0.toNat (by omega)
    refine r_iload_n hX dX4_ofMoment_14 rfl rfl ?_
    refine r_if_eqB (tgt := 33) hX dX4_ofMoment_15 (by decide) (fun c4 => ?_) (fun c4 => ?_)
    · have c4 := id c4
      refine r_aload_n hX dX4_ofMoment_33 rfl rfl ?_
      refine r_get hX kf_X4_13 14 rfl rfl dX4_ofMoment_34 ?_
      refine r_iload_n hX dX4_ofMoment_37 rfl rfl ?_
      refine r_laldZ hX 16 1 rfl rfl (a0).toNat (by omega) (by omega) (by decide) dX4_ofMoment_38 ?_
      refine r_ldc2Z (z := 1000000000) hX kc_X4_96 (by decide) dX4_ofMoment_39 ?_
      refine r_callS hX (c_X4_whole_x _ _ _ _ (by omega) (by omega) (by omega) (by omega)) ks_X4_92 rfl rfl (Nat.le_of_ble_eq_true rfl) ⟨(Nat.le_of_ble_eq_true rfl), (Nat.le_of_ble_eq_true rfl)⟩ ⟨(Nat.le_of_ble_eq_true rfl), (Nat.le_of_ble_eq_true rfl)⟩ dX4_ofMoment_42 (fun _ _ z => False.elim z) (fun v9 ws9 h5 => ?_)
      obtain ⟨rfl, hw9⟩ := h5
      subst ws9
      dsimp only [mPush]
      refine r_l2iZ hX dX4_ofMoment_45 ?_
      refine r_iret hX hE dX4_ofMoment_46 (Nat.le_of_ble_eq_true rfl) (Nat.le_of_ble_eq_true rfl) ⟨_, rfl, Or.inl ⟨by omega, congrArg iZ ?_, rfl⟩⟩
      first | (rw [show b1 = true by assumption]; rfl) | (rw [show b1 = false by assumption]; rfl)
    · have c4 := id c4
      refine r_aload_n hX dX4_ofMoment_18 rfl rfl ?_
      refine r_get hX kf_X4_13 14 rfl rfl dX4_ofMoment_19 ?_
      refine r_iload_n hX dX4_ofMoment_22 rfl rfl ?_
      refine r_laldZ hX 16 1 rfl rfl (a0).toNat (by omega) (by omega) (by decide) dX4_ofMoment_23 ?_
      refine r_ldc2Z (z := 1000000000) hX kc_X4_96 (by decide) dX4_ofMoment_24 ?_
      refine r_callS hX (c_X4_rest_x _ _ _ _ (by omega) (by omega) (by omega) (by omega)) ks_X4_102 rfl rfl (Nat.le_of_ble_eq_true rfl) ⟨(Nat.le_of_ble_eq_true rfl), (Nat.le_of_ble_eq_true rfl)⟩ ⟨(Nat.le_of_ble_eq_true rfl), (Nat.le_of_ble_eq_true rfl)⟩ dX4_ofMoment_27 (fun _ _ z => False.elim z) (fun v9 ws9 h6 => ?_)
      obtain ⟨rfl, hw9⟩ := h6
      subst ws9
      dsimp only [mPush]
      refine r_goto (tgt := 46) hX dX4_ofMoment_30 (by decide) ?_
      refine r_iret hX hE dX4_ofMoment_46 (Nat.le_of_ble_eq_true rfl) (Nat.le_of_ble_eq_true rfl) ⟨_, rfl, Or.inl ⟨by omega, congrArg iZ ?_, rfl⟩⟩
      first | (rw [show b1 = true by assumption]; rfl) | (rw [show b1 = false by assumption]; rfl)
  · rcases zst1 c3 with ⟨hx, e0⟩ | ⟨hx, hy, e0⟩
    · rw [e0]
      have hx := of_decide_eq_true hx
      refine r_iconstZ hX dX4_ofMoment_12 ?_
      exact r_iret hX hE dX4_ofMoment_13 (Nat.le_of_ble_eq_true rfl) (Nat.le_of_ble_eq_true rfl) ⟨_, rfl, Or.inr (Or.inl ⟨by omega, rfl⟩)⟩
    · exact absurd hy (by decide)
set_option maxHeartbeats 4000000 in
set_option maxRecDepth 20000 in
theorem z_X4_orderMoment (ad ae : Nat → Nat) (cs : ClassId × ClassId × ClassId) (K : mK) (S : mS) (th : Int32) (rest : va_W) (hS : sWF S) (a0 : Int) (h0 : rJ a0) (a1 : Int) (h1 : rJ a1)  : mCt (mTy cs) yX4_orderMoment cX4_orderMoment 3 (some .int) ⟨2, 0, 0, 45⟩ [.ref (ae 0), .int (iZ a0), .int (iZ a1)] (mRw ad ae cs K (mJof S th) rest) (fun v ws' => ∃ r : Int32, v = some (.int r) ∧ (((((0 ≤ a0 ∧ a0 < 4) ∧ (0 ≤ a1 ∧ a1 < 4)) ∧ (0 ≤ (0 : Int))) ∧ r = iZ (cmpZ (snu S a0.toNat) (snu S a1.toNat)) ∧ ws' = mRw ad ae cs K (mJof S 0) rest) ∨ (¬ ((0 ≤ a0 ∧ a0 < 4) ∧ (0 ≤ a1 ∧ a1 < 4)) ∧ ws' = mRw ad ae cs K (mJof S 1) rest) ∨ (((0 ≤ a0 ∧ a0 < 4) ∧ (0 ≤ a1 ∧ a1 < 4)) ∧ ¬ (0 ≤ (0 : Int)) ∧ ws' = mRw ad ae cs K (mJof S 2) rest))) mNo := by
  refine mCt.of (by decide +kernel) (Nat.le_of_ble_eq_true rfl) (fun X hX hE => ?_)
  replace hX : mOK X RX4 cX4_orderMoment 3 ⟨2, 0, 0, 45⟩ [] (mTy cs) := hX
  refine r_aload_n hX dX4_orderMoment_0 rfl rfl ?_
  refine r_iload_n hX dX4_orderMoment_1 rfl rfl ?_
  refine r_callS hX (z_X4_isNone _ _ _ (by omega)) ks_X4_61 rfl rfl (Nat.le_of_ble_eq_true rfl) ⟨(Nat.le_of_ble_eq_true rfl), (Nat.le_of_ble_eq_true rfl)⟩ ⟨(Nat.le_of_ble_eq_true rfl), (Nat.le_of_ble_eq_true rfl)⟩ dX4_orderMoment_2 (fun _ _ z => False.elim z) (fun v9 ws9 h1 => ?_)
  obtain ⟨rfl, hw9⟩ := h1
  subst ws9
  dsimp only [mPush]
  refine r_if_neB (tgt := 15) hX dX4_orderMoment_5 (by decide) (fun c2 => ?_) (fun c2 => ?_)
  · have c2 := of_decide_eq_true c2
    refine r_iconst (v := b2i true) hX dX4_orderMoment_15 (by decide) ?_
    refine r_goto (tgt := 20) hX dX4_orderMoment_16 (by decide) ?_
    refine r_iconst (v := b2i false) hX dX4_orderMoment_20 (by decide) ?_
    refine r_callV hX (z_X4_isStopped ad ae cs K S th rest true false) kv_X4_68 14 rfl rfl rfl rfl (Nat.le_of_ble_eq_true rfl) ⟨(Nat.le_of_ble_eq_true rfl), (Nat.le_of_ble_eq_true rfl)⟩ ⟨(Nat.le_of_ble_eq_true rfl), (Nat.le_of_ble_eq_true rfl)⟩ dX4_orderMoment_21 (fun _ _ z => False.elim z) (fun v9 ws9 h3 => ?_)
    obtain ⟨rfl, hw9⟩ := h3
    subst ws9
    dsimp only [mPush]
    refine r_if_eqB (tgt := 31) hX dX4_orderMoment_24 (by decide) (fun c4 => ?_) (fun c4 => ?_)
    · exact absurd c4 (by simp)
    · rcases zst1 c4 with ⟨hx, e0⟩ | ⟨hx, hy, e0⟩
      · rw [e0]
        refine r_iconstZ hX dX4_orderMoment_27 ?_
        refine r_goto (tgt := 46) hX dX4_orderMoment_28 (by decide) ?_
        exact r_iret hX hE dX4_orderMoment_46 (Nat.le_of_ble_eq_true rfl) (Nat.le_of_ble_eq_true rfl) ⟨_, rfl, Or.inr (Or.inl ⟨by omega, rfl⟩)⟩
      · exact absurd hx (by decide)
  · have c2 := of_decide_eq_false c2
    refine r_iload_n hX dX4_orderMoment_8 rfl rfl ?_
    refine r_callS hX (z_X4_isNone _ _ _ (by omega)) ks_X4_61 rfl rfl (Nat.le_of_ble_eq_true rfl) ⟨(Nat.le_of_ble_eq_true rfl), (Nat.le_of_ble_eq_true rfl)⟩ ⟨(Nat.le_of_ble_eq_true rfl), (Nat.le_of_ble_eq_true rfl)⟩ dX4_orderMoment_9 (fun _ _ z => False.elim z) (fun v9 ws9 h5 => ?_)
    obtain ⟨rfl, hw9⟩ := h5
    subst ws9
    dsimp only [mPush]
    refine r_if_eqB (tgt := 19) hX dX4_orderMoment_12 (by decide) (fun c6 => ?_) (fun c6 => ?_)
    · have c6 := of_decide_eq_false c6
      refine r_iconst (v := b2i false) hX dX4_orderMoment_19 (by decide) ?_
      refine r_iconst (v := b2i false) hX dX4_orderMoment_20 (by decide) ?_
      refine r_callV hX (z_X4_isStopped ad ae cs K S th rest false false) kv_X4_68 14 rfl rfl rfl rfl (Nat.le_of_ble_eq_true rfl) ⟨(Nat.le_of_ble_eq_true rfl), (Nat.le_of_ble_eq_true rfl)⟩ ⟨(Nat.le_of_ble_eq_true rfl), (Nat.le_of_ble_eq_true rfl)⟩ dX4_orderMoment_21 (fun _ _ z => False.elim z) (fun v9 ws9 h7 => ?_)
      obtain ⟨rfl, hw9⟩ := h7
      subst ws9
      dsimp only [mPush]
      refine r_if_eqB (tgt := 31) hX dX4_orderMoment_24 (by decide) (fun c8 => ?_) (fun c8 => ?_)
      · obtain ⟨⟨hx, hy⟩, e0⟩ := zst0 c8
        rw [e0]
        have hnu0 := hS.2.1 a0.toNat (by omega)
        have hnu1 := hS.2.1 a1.toNat (by omega)
        refine r_aload_n hX dX4_orderMoment_31 rfl rfl ?_
        refine r_get hX kf_X4_13 14 rfl rfl dX4_orderMoment_32 ?_
        refine r_iload_n hX dX4_orderMoment_35 rfl rfl ?_
        refine r_laldZ hX 16 1 rfl rfl (a0).toNat (by omega) (by omega) (by decide) dX4_orderMoment_36 ?_
        refine r_aload_n hX dX4_orderMoment_37 rfl rfl ?_
        refine r_get hX kf_X4_13 14 rfl rfl dX4_orderMoment_38 ?_
        refine r_iload_n hX dX4_orderMoment_41 rfl rfl ?_
        refine r_laldZ hX 16 1 rfl rfl (a1).toNat (by omega) (by omega) (by decide) dX4_orderMoment_42 ?_
        refine r_callS hX (z_X4_order _ _ _ _ (by omega) (by omega)) ks_X4_88 rfl rfl (Nat.le_of_ble_eq_true rfl) ⟨(Nat.le_of_ble_eq_true rfl), (Nat.le_of_ble_eq_true rfl)⟩ ⟨(Nat.le_of_ble_eq_true rfl), (Nat.le_of_ble_eq_true rfl)⟩ dX4_orderMoment_43 (fun _ _ z => False.elim z) (fun v9 ws9 h9 => ?_)
        obtain ⟨rfl, hw9⟩ := h9
        subst ws9
        dsimp only [mPush]
        have hcm9 := cmpZ_b (snu S ((a0).toNat)) (snu S ((a1).toNat))
        refine r_iret hX hE dX4_orderMoment_46 (Nat.le_of_ble_eq_true rfl) (Nat.le_of_ble_eq_true rfl) ⟨_, rfl, Or.inl ⟨by omega, congrArg iZ ?_, rfl⟩⟩
        rfl
      · rcases zst1 c8 with ⟨hx, e0⟩ | ⟨hx, hy, e0⟩
        · exact absurd hx (by decide)
        · exact absurd hy (by decide)
    · have c6 := of_decide_eq_true c6
      refine r_iconst (v := b2i true) hX dX4_orderMoment_15 (by decide) ?_
      refine r_goto (tgt := 20) hX dX4_orderMoment_16 (by decide) ?_
      refine r_iconst (v := b2i false) hX dX4_orderMoment_20 (by decide) ?_
      refine r_callV hX (z_X4_isStopped ad ae cs K S th rest true false) kv_X4_68 14 rfl rfl rfl rfl (Nat.le_of_ble_eq_true rfl) ⟨(Nat.le_of_ble_eq_true rfl), (Nat.le_of_ble_eq_true rfl)⟩ ⟨(Nat.le_of_ble_eq_true rfl), (Nat.le_of_ble_eq_true rfl)⟩ dX4_orderMoment_21 (fun _ _ z => False.elim z) (fun v9 ws9 h10 => ?_)
      obtain ⟨rfl, hw9⟩ := h10
      subst ws9
      dsimp only [mPush]
      refine r_if_eqB (tgt := 31) hX dX4_orderMoment_24 (by decide) (fun c11 => ?_) (fun c11 => ?_)
      · exact absurd c11 (by simp)
      · rcases zst1 c11 with ⟨hx, e0⟩ | ⟨hx, hy, e0⟩
        · rw [e0]
          refine r_iconstZ hX dX4_orderMoment_27 ?_
          refine r_goto (tgt := 46) hX dX4_orderMoment_28 (by decide) ?_
          exact r_iret hX hE dX4_orderMoment_46 (Nat.le_of_ble_eq_true rfl) (Nat.le_of_ble_eq_true rfl) ⟨_, rfl, Or.inr (Or.inl ⟨by omega, rfl⟩)⟩
        · exact absurd hx (by decide)
theorem b2i_t {b : Bool} (h : b = true) : b2i b = iZ 1 := by rw [h]; rfl
theorem b2i_f {b : Bool} (h : b = false) : b2i b = iZ 0 := by rw [h]; rfl
set_option maxHeartbeats 4000000 in
set_option maxRecDepth 20000 in
theorem z_X4_isMoment (ad ae : Nat → Nat) (cs : ClassId × ClassId × ClassId) (K : mK) (S : mS) (th : Int32) (rest : va_W) (hS : sWF S) (a0 : Int) (h0 : rJ a0) (a1 : Int) (h1 : rJ a1) (a2 : Int) (h2 : rJ a2)  : mCt (mTy cs) yX4_isMoment cX4_isMoment 4 (some .boolean) ⟨2, 0, 0, 45⟩ [.ref (ae 0), .int (iZ a0), .int (iZ a1), .int (iZ a2)] (mRw ad ae cs K (mJof S th) rest) (fun v ws' => ∃ r : Int32, v = some (.int r) ∧ (((((0 ≤ a0 ∧ a0 < 4) ∧ (0 ≤ a1 ∧ a1 < 4)) ∧ (0 ≤ a2 ∧ a2 ≤ 2)) ∧ r = b2i (zIs (cmpZ (snu S a0.toNat) (snu S a1.toNat)) a2) ∧ ws' = mRw ad ae cs K (mJof S 0) rest) ∨ (¬ ((0 ≤ a0 ∧ a0 < 4) ∧ (0 ≤ a1 ∧ a1 < 4)) ∧ ws' = mRw ad ae cs K (mJof S 1) rest) ∨ (((0 ≤ a0 ∧ a0 < 4) ∧ (0 ≤ a1 ∧ a1 < 4)) ∧ ¬ (0 ≤ a2 ∧ a2 ≤ 2) ∧ ws' = mRw ad ae cs K (mJof S 2) rest))) mNo := by
  refine mCt.of (by decide +kernel) (Nat.le_of_ble_eq_true rfl) (fun X hX hE => ?_)
  replace hX : mOK X RX4 cX4_isMoment 4 ⟨2, 0, 0, 45⟩ [] (mTy cs) := hX
  refine r_aload_n hX dX4_isMoment_0 rfl rfl ?_
  refine r_iload_n hX dX4_isMoment_1 rfl rfl ?_
  refine r_callS hX (z_X4_isNone _ _ _ (by omega)) ks_X4_61 rfl rfl (Nat.le_of_ble_eq_true rfl) ⟨(Nat.le_of_ble_eq_true rfl), (Nat.le_of_ble_eq_true rfl)⟩ ⟨(Nat.le_of_ble_eq_true rfl), (Nat.le_of_ble_eq_true rfl)⟩ dX4_isMoment_2 (fun _ _ z => False.elim z) (fun v9 ws9 h1 => ?_)
  obtain ⟨rfl, hw9⟩ := h1
  subst ws9
  dsimp only [mPush]
  refine r_if_neB (tgt := 15) hX dX4_isMoment_5 (by decide) (fun c2 => ?_) (fun c2 => ?_)
  · have c2 := of_decide_eq_true c2
    refine r_iconst (v := b2i true) hX dX4_isMoment_15 (by decide) ?_
    refine r_goto (tgt := 20) hX dX4_isMoment_16 (by decide) ?_
    refine r_iload_n hX dX4_isMoment_20 rfl rfl ?_
    refine r_i2lZ hX dX4_isMoment_21 (by omega) ?_
    refine r_lconstZ (v := 0) hX dX4_isMoment_22 rfl ?_
    refine r_ldc2Z (z := 2) hX kc_X4_42 (by decide) dX4_isMoment_23 ?_
    refine r_callS hX (z_X4_isIn _ _ _ _ _ (by omega) (by omega) (by omega)) ks_X4_38 rfl rfl (Nat.le_of_ble_eq_true rfl) ⟨(Nat.le_of_ble_eq_true rfl), (Nat.le_of_ble_eq_true rfl)⟩ ⟨(Nat.le_of_ble_eq_true rfl), (Nat.le_of_ble_eq_true rfl)⟩ dX4_isMoment_26 (fun _ _ z => False.elim z) (fun v9 ws9 h3 => ?_)
    obtain ⟨rfl, hw9⟩ := h3
    subst ws9
    dsimp only [mPush]
    refine r_if_neB (tgt := 36) hX dX4_isMoment_29 (by decide) (fun c4 => ?_) (fun c4 => ?_)
    · have c4 := of_decide_eq_true c4
      refine r_iconst (v := b2i false) hX dX4_isMoment_36 (by decide) ?_
      refine r_callV hX (z_X4_isStopped ad ae cs K S th rest true false) kv_X4_68 14 rfl rfl rfl rfl (Nat.le_of_ble_eq_true rfl) ⟨(Nat.le_of_ble_eq_true rfl), (Nat.le_of_ble_eq_true rfl)⟩ ⟨(Nat.le_of_ble_eq_true rfl), (Nat.le_of_ble_eq_true rfl)⟩ dX4_isMoment_37 (fun _ _ z => False.elim z) (fun v9 ws9 h5 => ?_)
      obtain ⟨rfl, hw9⟩ := h5
      subst ws9
      dsimp only [mPush]
      refine r_if_eqB (tgt := 45) hX dX4_isMoment_40 (by decide) (fun c6 => ?_) (fun c6 => ?_)
      · exact absurd c6 (by simp)
      · rcases zst1 c6 with ⟨hx, e0⟩ | ⟨hx, hy, e0⟩
        · rw [e0]
          refine r_iconstZ hX dX4_isMoment_43 ?_
          exact r_zret hX hE dX4_isMoment_44 (by decide) (Nat.le_of_ble_eq_true rfl) (Nat.le_of_ble_eq_true rfl) ⟨_, rfl, Or.inr (Or.inl ⟨by omega, rfl⟩)⟩
        · exact absurd hx (by decide)
    · have c4 := of_decide_eq_false c4
      refine r_iconst (v := b2i true) hX dX4_isMoment_32 (by decide) ?_
      refine r_goto (tgt := 37) hX dX4_isMoment_33 (by decide) ?_
      refine r_callV hX (z_X4_isStopped ad ae cs K S th rest true true) kv_X4_68 14 rfl rfl rfl rfl (Nat.le_of_ble_eq_true rfl) ⟨(Nat.le_of_ble_eq_true rfl), (Nat.le_of_ble_eq_true rfl)⟩ ⟨(Nat.le_of_ble_eq_true rfl), (Nat.le_of_ble_eq_true rfl)⟩ dX4_isMoment_37 (fun _ _ z => False.elim z) (fun v9 ws9 h7 => ?_)
      obtain ⟨rfl, hw9⟩ := h7
      subst ws9
      dsimp only [mPush]
      refine r_if_eqB (tgt := 45) hX dX4_isMoment_40 (by decide) (fun c8 => ?_) (fun c8 => ?_)
      · exact absurd c8 (by simp)
      · rcases zst1 c8 with ⟨hx, e0⟩ | ⟨hx, hy, e0⟩
        · rw [e0]
          refine r_iconstZ hX dX4_isMoment_43 ?_
          exact r_zret hX hE dX4_isMoment_44 (by decide) (Nat.le_of_ble_eq_true rfl) (Nat.le_of_ble_eq_true rfl) ⟨_, rfl, Or.inr (Or.inl ⟨by omega, rfl⟩)⟩
        · exact absurd hx (by decide)
  · have c2 := of_decide_eq_false c2
    refine r_iload_n hX dX4_isMoment_8 rfl rfl ?_
    refine r_callS hX (z_X4_isNone _ _ _ (by omega)) ks_X4_61 rfl rfl (Nat.le_of_ble_eq_true rfl) ⟨(Nat.le_of_ble_eq_true rfl), (Nat.le_of_ble_eq_true rfl)⟩ ⟨(Nat.le_of_ble_eq_true rfl), (Nat.le_of_ble_eq_true rfl)⟩ dX4_isMoment_9 (fun _ _ z => False.elim z) (fun v9 ws9 h9 => ?_)
    obtain ⟨rfl, hw9⟩ := h9
    subst ws9
    dsimp only [mPush]
    refine r_if_eqB (tgt := 19) hX dX4_isMoment_12 (by decide) (fun c10 => ?_) (fun c10 => ?_)
    · have c10 := of_decide_eq_false c10
      refine r_iconst (v := b2i false) hX dX4_isMoment_19 (by decide) ?_
      refine r_iload_n hX dX4_isMoment_20 rfl rfl ?_
      refine r_i2lZ hX dX4_isMoment_21 (by omega) ?_
      refine r_lconstZ (v := 0) hX dX4_isMoment_22 rfl ?_
      refine r_ldc2Z (z := 2) hX kc_X4_42 (by decide) dX4_isMoment_23 ?_
      refine r_callS hX (z_X4_isIn _ _ _ _ _ (by omega) (by omega) (by omega)) ks_X4_38 rfl rfl (Nat.le_of_ble_eq_true rfl) ⟨(Nat.le_of_ble_eq_true rfl), (Nat.le_of_ble_eq_true rfl)⟩ ⟨(Nat.le_of_ble_eq_true rfl), (Nat.le_of_ble_eq_true rfl)⟩ dX4_isMoment_26 (fun _ _ z => False.elim z) (fun v9 ws9 h11 => ?_)
      obtain ⟨rfl, hw9⟩ := h11
      subst ws9
      dsimp only [mPush]
      refine r_if_neB (tgt := 36) hX dX4_isMoment_29 (by decide) (fun c12 => ?_) (fun c12 => ?_)
      · have c12 := of_decide_eq_true c12
        refine r_iconst (v := b2i false) hX dX4_isMoment_36 (by decide) ?_
        refine r_callV hX (z_X4_isStopped ad ae cs K S th rest false false) kv_X4_68 14 rfl rfl rfl rfl (Nat.le_of_ble_eq_true rfl) ⟨(Nat.le_of_ble_eq_true rfl), (Nat.le_of_ble_eq_true rfl)⟩ ⟨(Nat.le_of_ble_eq_true rfl), (Nat.le_of_ble_eq_true rfl)⟩ dX4_isMoment_37 (fun _ _ z => False.elim z) (fun v9 ws9 h13 => ?_)
        obtain ⟨rfl, hw9⟩ := h13
        subst ws9
        dsimp only [mPush]
        refine r_if_eqB (tgt := 45) hX dX4_isMoment_40 (by decide) (fun c14 => ?_) (fun c14 => ?_)
        · obtain ⟨⟨hx, hy⟩, e0⟩ := zst0 c14
          rw [e0]
          have hnu0 := hS.2.1 a0.toNat (by omega)
          have hnu1 := hS.2.1 a1.toNat (by omega)
          refine r_aload_n hX dX4_isMoment_45 rfl rfl ?_
          refine r_get hX kf_X4_13 14 rfl rfl dX4_isMoment_46 ?_
          refine r_iload_n hX dX4_isMoment_49 rfl rfl ?_
          refine r_laldZ hX 16 1 rfl rfl (a0).toNat (by omega) (by omega) (by decide) dX4_isMoment_50 ?_
          refine r_aload_n hX dX4_isMoment_51 rfl rfl ?_
          refine r_get hX kf_X4_13 14 rfl rfl dX4_isMoment_52 ?_
          refine r_iload_n hX dX4_isMoment_55 rfl rfl ?_
          refine r_laldZ hX 16 1 rfl rfl (a1).toNat (by omega) (by omega) (by decide) dX4_isMoment_56 ?_
          refine r_callS hX (z_X4_order _ _ _ _ (by omega) (by omega)) ks_X4_88 rfl rfl (Nat.le_of_ble_eq_true rfl) ⟨(Nat.le_of_ble_eq_true rfl), (Nat.le_of_ble_eq_true rfl)⟩ ⟨(Nat.le_of_ble_eq_true rfl), (Nat.le_of_ble_eq_true rfl)⟩ dX4_isMoment_57 (fun _ _ z => False.elim z) (fun v9 ws9 h15 => ?_)
          obtain ⟨rfl, hw9⟩ := h15
          subst ws9
          dsimp only [mPush]
          have hcm15 := cmpZ_b (snu S ((a0).toNat)) (snu S ((a1).toNat))
          refine r_iload_n hX dX4_isMoment_60 rfl rfl ?_
          refine r_if_neZ (tgt := 68) hX dX4_isMoment_61 (by decide) (by omega) (fun c16 => ?_) (fun c16 => ?_)
          · refine r_iload_n hX dX4_isMoment_68 rfl rfl ?_
            refine r_iconstZ hX dX4_isMoment_69 ?_
            refine r_icmp_neZ (tgt := 77) hX dX4_isMoment_70 (by decide) (by omega) (by decide) (fun c17 => ?_) (fun c17 => ?_)
            · refine r_iconstZ hX dX4_isMoment_77 ?_
              refine r_icmp_neZ (tgt := 85) hX dX4_isMoment_78 (by decide) (by omega) (by decide) (fun c18 => ?_) (fun c18 => ?_)
              · refine r_iconstZ hX dX4_isMoment_85 ?_
                refine r_zret hX hE dX4_isMoment_86 (by decide) (Nat.le_of_ble_eq_true rfl) (Nat.le_of_ble_eq_true rfl) ⟨_, rfl, Or.inl ⟨by omega, ?_, rfl⟩⟩
                refine (b2i_f ?_).symm
                unfold zIs
                first | rw [if_pos (by omega)] | rw [if_neg (by omega), if_pos (by omega)] | rw [if_neg (by omega), if_neg (by omega)]
                exact decide_eq_false (by omega)
              · refine r_iconstZ hX dX4_isMoment_81 ?_
                refine r_goto (tgt := 86) hX dX4_isMoment_82 (by decide) ?_
                refine r_zret hX hE dX4_isMoment_86 (by decide) (Nat.le_of_ble_eq_true rfl) (Nat.le_of_ble_eq_true rfl) ⟨_, rfl, Or.inl ⟨by omega, ?_, rfl⟩⟩
                refine (b2i_t ?_).symm
                unfold zIs
                first | rw [if_pos (by omega)] | rw [if_neg (by omega), if_pos (by omega)] | rw [if_neg (by omega), if_neg (by omega)]
                exact decide_eq_true (by omega)
            · refine r_iconstZ hX dX4_isMoment_73 ?_
              refine r_goto (tgt := 78) hX dX4_isMoment_74 (by decide) ?_
              refine r_icmp_neZ (tgt := 85) hX dX4_isMoment_78 (by decide) (by omega) (by decide) (fun c19 => ?_) (fun c19 => ?_)
              · refine r_iconstZ hX dX4_isMoment_85 ?_
                refine r_zret hX hE dX4_isMoment_86 (by decide) (Nat.le_of_ble_eq_true rfl) (Nat.le_of_ble_eq_true rfl) ⟨_, rfl, Or.inl ⟨by omega, ?_, rfl⟩⟩
                refine (b2i_f ?_).symm
                unfold zIs
                first | rw [if_pos (by omega)] | rw [if_neg (by omega), if_pos (by omega)] | rw [if_neg (by omega), if_neg (by omega)]
                exact decide_eq_false (by omega)
              · refine r_iconstZ hX dX4_isMoment_81 ?_
                refine r_goto (tgt := 86) hX dX4_isMoment_82 (by decide) ?_
                refine r_zret hX hE dX4_isMoment_86 (by decide) (Nat.le_of_ble_eq_true rfl) (Nat.le_of_ble_eq_true rfl) ⟨_, rfl, Or.inl ⟨by omega, ?_, rfl⟩⟩
                refine (b2i_t ?_).symm
                unfold zIs
                first | rw [if_pos (by omega)] | rw [if_neg (by omega), if_pos (by omega)] | rw [if_neg (by omega), if_neg (by omega)]
                exact decide_eq_true (by omega)
          · refine r_iconstZ hX dX4_isMoment_64 ?_
            refine r_goto (tgt := 78) hX dX4_isMoment_65 (by decide) ?_
            refine r_icmp_neZ (tgt := 85) hX dX4_isMoment_78 (by decide) (by omega) (by decide) (fun c20 => ?_) (fun c20 => ?_)
            · refine r_iconstZ hX dX4_isMoment_85 ?_
              refine r_zret hX hE dX4_isMoment_86 (by decide) (Nat.le_of_ble_eq_true rfl) (Nat.le_of_ble_eq_true rfl) ⟨_, rfl, Or.inl ⟨by omega, ?_, rfl⟩⟩
              refine (b2i_f ?_).symm
              unfold zIs
              first | rw [if_pos (by omega)] | rw [if_neg (by omega), if_pos (by omega)] | rw [if_neg (by omega), if_neg (by omega)]
              exact decide_eq_false (by omega)
            · refine r_iconstZ hX dX4_isMoment_81 ?_
              refine r_goto (tgt := 86) hX dX4_isMoment_82 (by decide) ?_
              refine r_zret hX hE dX4_isMoment_86 (by decide) (Nat.le_of_ble_eq_true rfl) (Nat.le_of_ble_eq_true rfl) ⟨_, rfl, Or.inl ⟨by omega, ?_, rfl⟩⟩
              refine (b2i_t ?_).symm
              unfold zIs
              first | rw [if_pos (by omega)] | rw [if_neg (by omega), if_pos (by omega)] | rw [if_neg (by omega), if_neg (by omega)]
              exact decide_eq_true (by omega)
        · rcases zst1 c14 with ⟨hx, e0⟩ | ⟨hx, hy, e0⟩
          · exact absurd hx (by decide)
          · exact absurd hy (by decide)
      · have c12 := of_decide_eq_false c12
        refine r_iconst (v := b2i true) hX dX4_isMoment_32 (by decide) ?_
        refine r_goto (tgt := 37) hX dX4_isMoment_33 (by decide) ?_
        refine r_callV hX (z_X4_isStopped ad ae cs K S th rest false true) kv_X4_68 14 rfl rfl rfl rfl (Nat.le_of_ble_eq_true rfl) ⟨(Nat.le_of_ble_eq_true rfl), (Nat.le_of_ble_eq_true rfl)⟩ ⟨(Nat.le_of_ble_eq_true rfl), (Nat.le_of_ble_eq_true rfl)⟩ dX4_isMoment_37 (fun _ _ z => False.elim z) (fun v9 ws9 h21 => ?_)
        obtain ⟨rfl, hw9⟩ := h21
        subst ws9
        dsimp only [mPush]
        refine r_if_eqB (tgt := 45) hX dX4_isMoment_40 (by decide) (fun c22 => ?_) (fun c22 => ?_)
        · exact absurd c22 (by simp)
        · rcases zst1 c22 with ⟨hx, e0⟩ | ⟨hx, hy, e0⟩
          · exact absurd hx (by decide)
          · rw [e0]
            refine r_iconstZ hX dX4_isMoment_43 ?_
            exact r_zret hX hE dX4_isMoment_44 (by decide) (Nat.le_of_ble_eq_true rfl) (Nat.le_of_ble_eq_true rfl) ⟨_, rfl, Or.inr (Or.inr ⟨by omega, by omega, rfl⟩)⟩
    · have c10 := of_decide_eq_true c10
      refine r_iconst (v := b2i true) hX dX4_isMoment_15 (by decide) ?_
      refine r_goto (tgt := 20) hX dX4_isMoment_16 (by decide) ?_
      refine r_iload_n hX dX4_isMoment_20 rfl rfl ?_
      refine r_i2lZ hX dX4_isMoment_21 (by omega) ?_
      refine r_lconstZ (v := 0) hX dX4_isMoment_22 rfl ?_
      refine r_ldc2Z (z := 2) hX kc_X4_42 (by decide) dX4_isMoment_23 ?_
      refine r_callS hX (z_X4_isIn _ _ _ _ _ (by omega) (by omega) (by omega)) ks_X4_38 rfl rfl (Nat.le_of_ble_eq_true rfl) ⟨(Nat.le_of_ble_eq_true rfl), (Nat.le_of_ble_eq_true rfl)⟩ ⟨(Nat.le_of_ble_eq_true rfl), (Nat.le_of_ble_eq_true rfl)⟩ dX4_isMoment_26 (fun _ _ z => False.elim z) (fun v9 ws9 h23 => ?_)
      obtain ⟨rfl, hw9⟩ := h23
      subst ws9
      dsimp only [mPush]
      refine r_if_neB (tgt := 36) hX dX4_isMoment_29 (by decide) (fun c24 => ?_) (fun c24 => ?_)
      · have c24 := of_decide_eq_true c24
        refine r_iconst (v := b2i false) hX dX4_isMoment_36 (by decide) ?_
        refine r_callV hX (z_X4_isStopped ad ae cs K S th rest true false) kv_X4_68 14 rfl rfl rfl rfl (Nat.le_of_ble_eq_true rfl) ⟨(Nat.le_of_ble_eq_true rfl), (Nat.le_of_ble_eq_true rfl)⟩ ⟨(Nat.le_of_ble_eq_true rfl), (Nat.le_of_ble_eq_true rfl)⟩ dX4_isMoment_37 (fun _ _ z => False.elim z) (fun v9 ws9 h25 => ?_)
        obtain ⟨rfl, hw9⟩ := h25
        subst ws9
        dsimp only [mPush]
        refine r_if_eqB (tgt := 45) hX dX4_isMoment_40 (by decide) (fun c26 => ?_) (fun c26 => ?_)
        · exact absurd c26 (by simp)
        · rcases zst1 c26 with ⟨hx, e0⟩ | ⟨hx, hy, e0⟩
          · rw [e0]
            refine r_iconstZ hX dX4_isMoment_43 ?_
            exact r_zret hX hE dX4_isMoment_44 (by decide) (Nat.le_of_ble_eq_true rfl) (Nat.le_of_ble_eq_true rfl) ⟨_, rfl, Or.inr (Or.inl ⟨by omega, rfl⟩)⟩
          · exact absurd hx (by decide)
      · have c24 := of_decide_eq_false c24
        refine r_iconst (v := b2i true) hX dX4_isMoment_32 (by decide) ?_
        refine r_goto (tgt := 37) hX dX4_isMoment_33 (by decide) ?_
        refine r_callV hX (z_X4_isStopped ad ae cs K S th rest true true) kv_X4_68 14 rfl rfl rfl rfl (Nat.le_of_ble_eq_true rfl) ⟨(Nat.le_of_ble_eq_true rfl), (Nat.le_of_ble_eq_true rfl)⟩ ⟨(Nat.le_of_ble_eq_true rfl), (Nat.le_of_ble_eq_true rfl)⟩ dX4_isMoment_37 (fun _ _ z => False.elim z) (fun v9 ws9 h27 => ?_)
        obtain ⟨rfl, hw9⟩ := h27
        subst ws9
        dsimp only [mPush]
        refine r_if_eqB (tgt := 45) hX dX4_isMoment_40 (by decide) (fun c28 => ?_) (fun c28 => ?_)
        · exact absurd c28 (by simp)
        · rcases zst1 c28 with ⟨hx, e0⟩ | ⟨hx, hy, e0⟩
          · rw [e0]
            refine r_iconstZ hX dX4_isMoment_43 ?_
            exact r_zret hX hE dX4_isMoment_44 (by decide) (Nat.le_of_ble_eq_true rfl) (Nat.le_of_ble_eq_true rfl) ⟨_, rfl, Or.inr (Or.inl ⟨by omega, rfl⟩)⟩
          · exact absurd hx (by decide)

