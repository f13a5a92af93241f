/-! The reference, exact (rows by a program of this repository). -/
set_option maxHeartbeats 4000000 in
set_option maxRecDepth 20000 in
theorem z_X4_clock (ad ae : Nat → Nat) (cs : ClassId × ClassId × ClassId) (K : mK) (S : mS) (th : Int32) (rest : va_W) (hS : sWF S) (a0 : Int) (h0 : rJ a0) (a1 : Int) (h1 : rJ a1) (a2 : Int) (h2 : rJ a2) (a3 : Int) (h3 : rJ a3)  : mCt (mTy cs) yX4_clock cX4_clock 5 (some .int) ⟨3, 0, 0, 71⟩ [.ref (ae 0), .int (iZ a0), .int (iZ a1), .int (iZ a2), .int (iZ a3)] (mRw ad ae cs K (mJof S th) rest) (fun v ws' => ∃ r : Int32, v = some (.int r) ∧ (((((0 ≤ a0 ∧ a0 < 3) ∧ (0 ≤ a3 ∧ a3 < 4)) ∧ ((0 ≤ a1 ∧ a1 ≤ 86399) ∧ (0 ≤ a2 ∧ a2 ≤ 999999999))) ∧ r = iZ (oClk S a0.toNat a1 a2 (sof S a3.toNat)).1 ∧ ws' = mRw ad ae cs K (mJof (oClk S a0.toNat a1 a2 (sof S a3.toNat)).2 0) rest) ∨ (¬ ((0 ≤ a0 ∧ a0 < 3) ∧ (0 ≤ a3 ∧ a3 < 4)) ∧ ws' = mRw ad ae cs K (mJof S 1) rest) ∨ (((0 ≤ a0 ∧ a0 < 3) ∧ (0 ≤ a3 ∧ a3 < 4)) ∧ ¬ ((0 ≤ a1 ∧ a1 ≤ 86399) ∧ (0 ≤ a2 ∧ a2 ≤ 999999999)) ∧ ws' = mRw ad ae cs K (mJof S 2) rest))) mNo := by
  refine mCt.of (by decide +kernel) (Nat.le_of_ble_eq_true rfl) (fun X hX hE => ?_)
  replace hX : mOK X RX4 cX4_clock 5 ⟨3, 0, 0, 71⟩ [] (mTy cs) := hX
  refine r_aload_n hX dX4_clock_0 rfl rfl ?_
  refine r_iload_n hX dX4_clock_1 rfl rfl ?_
  refine r_callS hX (z_X4_isNoClock _ _ _ (by omega)) ks_X4_205 rfl rfl (Nat.le_of_ble_eq_true rfl) ⟨(Nat.le_of_ble_eq_true rfl), (Nat.le_of_ble_eq_true rfl)⟩ ⟨(Nat.le_of_ble_eq_true rfl), (Nat.le_of_ble_eq_true rfl)⟩ dX4_clock_2 (fun _ _ z => False.elim z) (fun v9 ws9 h1 => ?_)
  obtain ⟨rfl, hw9⟩ := h1
  subst ws9
  dsimp only [mPush]
  refine r_if_neB (tgt := 16) hX dX4_clock_5 (by decide) (fun c2 => ?_) (fun c2 => ?_)
  · have c2 := of_decide_eq_true c2
    refine r_iconst (v := b2i true) hX dX4_clock_16 (by decide) ?_
    refine r_goto (tgt := 21) hX dX4_clock_17 (by decide) ?_
    refine r_iload_n hX dX4_clock_21 rfl rfl ?_
    refine r_iload_n hX dX4_clock_22 rfl rfl ?_
    refine r_callS hX (z_X4_isTime _ _ _ _ (by omega) (by omega)) ks_X4_155 rfl rfl (Nat.le_of_ble_eq_true rfl) ⟨(Nat.le_of_ble_eq_true rfl), (Nat.le_of_ble_eq_true rfl)⟩ ⟨(Nat.le_of_ble_eq_true rfl), (Nat.le_of_ble_eq_true rfl)⟩ dX4_clock_23 (fun _ _ z => False.elim z) (fun v9 ws9 h3 => ?_)
    obtain ⟨rfl, hw9⟩ := h3
    subst ws9
    dsimp only [mPush]
    refine r_if_neB (tgt := 33) hX dX4_clock_26 (by decide) (fun c4 => ?_) (fun c4 => ?_)
    · have c4 := of_decide_eq_true c4
      refine r_iconst (v := b2i false) hX dX4_clock_33 (by decide) ?_
      refine r_callV hX (z_X4_isStopped ad ae cs K S th rest true false) kv_X4_68 14 rfl rfl rfl rfl (Nat.le_of_ble_eq_true rfl) ⟨(Nat.le_of_ble_eq_true rfl), (Nat.le_of_ble_eq_true rfl)⟩ ⟨(Nat.le_of_ble_eq_true rfl), (Nat.le_of_ble_eq_true rfl)⟩ dX4_clock_34 (fun _ _ z => False.elim z) (fun v9 ws9 h5 => ?_)
      obtain ⟨rfl, hw9⟩ := h5
      subst ws9
      dsimp only [mPush]
      refine r_if_eqB (tgt := 44) hX dX4_clock_37 (by decide) (fun c6 => ?_) (fun c6 => ?_)
      · exact absurd c6 (by simp)
      · rcases zst1 c6 with ⟨hx, e0⟩ | ⟨hx, hy, e0⟩
        · rw [e0]
          refine r_iconstZ hX dX4_clock_40 ?_
          refine r_goto (tgt := 59) hX dX4_clock_41 (by decide) ?_
          exact r_iret hX hE dX4_clock_59 (Nat.le_of_ble_eq_true rfl) (Nat.le_of_ble_eq_true rfl) ⟨_, rfl, Or.inr (Or.inl ⟨by omega, rfl⟩)⟩
        · exact absurd hx (by decide)
    · have c4 := of_decide_eq_false c4
      refine r_iconst (v := b2i true) hX dX4_clock_29 (by decide) ?_
      refine r_goto (tgt := 34) hX dX4_clock_30 (by decide) ?_
      refine r_callV hX (z_X4_isStopped ad ae cs K S th rest true true) kv_X4_68 14 rfl rfl rfl rfl (Nat.le_of_ble_eq_true rfl) ⟨(Nat.le_of_ble_eq_true rfl), (Nat.le_of_ble_eq_true rfl)⟩ ⟨(Nat.le_of_ble_eq_true rfl), (Nat.le_of_ble_eq_true rfl)⟩ dX4_clock_34 (fun _ _ z => False.elim z) (fun v9 ws9 h7 => ?_)
      obtain ⟨rfl, hw9⟩ := h7
      subst ws9
      dsimp only [mPush]
      refine r_if_eqB (tgt := 44) hX dX4_clock_37 (by decide) (fun c8 => ?_) (fun c8 => ?_)
      · exact absurd c8 (by simp)
      · rcases zst1 c8 with ⟨hx, e0⟩ | ⟨hx, hy, e0⟩
        · rw [e0]
          refine r_iconstZ hX dX4_clock_40 ?_
          refine r_goto (tgt := 59) hX dX4_clock_41 (by decide) ?_
          exact r_iret hX hE dX4_clock_59 (Nat.le_of_ble_eq_true rfl) (Nat.le_of_ble_eq_true rfl) ⟨_, rfl, Or.inr (Or.inl ⟨by omega, rfl⟩)⟩
        · exact absurd hx (by decide)
  · have c2 := of_decide_eq_false c2
    refine r_iload hX dX4_clock_8 rfl ?_
    refine r_callS hX (z_X4_isNone _ _ _ (by omega)) ks_X4_61 rfl rfl (Nat.le_of_ble_eq_true rfl) ⟨(Nat.le_of_ble_eq_true rfl), (Nat.le_of_ble_eq_true rfl)⟩ ⟨(Nat.le_of_ble_eq_true rfl), (Nat.le_of_ble_eq_true rfl)⟩ dX4_clock_10 (fun _ _ z => False.elim z) (fun v9 ws9 h9 => ?_)
    obtain ⟨rfl, hw9⟩ := h9
    subst ws9
    dsimp only [mPush]
    refine r_if_eqB (tgt := 20) hX dX4_clock_13 (by decide) (fun c10 => ?_) (fun c10 => ?_)
    · have c10 := of_decide_eq_false c10
      refine r_iconst (v := b2i false) hX dX4_clock_20 (by decide) ?_
      refine r_iload_n hX dX4_clock_21 rfl rfl ?_
      refine r_iload_n hX dX4_clock_22 rfl rfl ?_
      refine r_callS hX (z_X4_isTime _ _ _ _ (by omega) (by omega)) ks_X4_155 rfl rfl (Nat.le_of_ble_eq_true rfl) ⟨(Nat.le_of_ble_eq_true rfl), (Nat.le_of_ble_eq_true rfl)⟩ ⟨(Nat.le_of_ble_eq_true rfl), (Nat.le_of_ble_eq_true rfl)⟩ dX4_clock_23 (fun _ _ z => False.elim z) (fun v9 ws9 h11 => ?_)
      obtain ⟨rfl, hw9⟩ := h11
      subst ws9
      dsimp only [mPush]
      refine r_if_neB (tgt := 33) hX dX4_clock_26 (by decide) (fun c12 => ?_) (fun c12 => ?_)
      · have c12 := of_decide_eq_true c12
        refine r_iconst (v := b2i false) hX dX4_clock_33 (by decide) ?_
        refine r_callV hX (z_X4_isStopped ad ae cs K S th rest false false) kv_X4_68 14 rfl rfl rfl rfl (Nat.le_of_ble_eq_true rfl) ⟨(Nat.le_of_ble_eq_true rfl), (Nat.le_of_ble_eq_true rfl)⟩ ⟨(Nat.le_of_ble_eq_true rfl), (Nat.le_of_ble_eq_true rfl)⟩ dX4_clock_34 (fun _ _ z => False.elim z) (fun v9 ws9 h13 => ?_)
        obtain ⟨rfl, hw9⟩ := h13
        subst ws9
        dsimp only [mPush]
        refine r_if_eqB (tgt := 44) hX dX4_clock_37 (by decide) (fun c14 => ?_) (fun c14 => ?_)
        · obtain ⟨⟨hx, hy⟩, e0⟩ := zst0 c14
          rw [e0]
          have hof := hS.1 a3.toNat (by omega)
          refine r_aload_n hX dX4_clock_44 rfl rfl ?_
          refine r_iload_n hX dX4_clock_45 rfl rfl ?_
          refine r_iload_n hX dX4_clock_46 rfl rfl ?_
          refine r_i2lZ hX dX4_clock_47 (by omega) ?_
          refine r_iload_n hX dX4_clock_48 rfl rfl ?_
          refine r_aload_n hX dX4_clock_49 rfl rfl ?_
          refine r_get hX kf_X4_7 14 rfl rfl dX4_clock_50 ?_
          refine r_iload hX dX4_clock_53 rfl ?_
          refine r_ialdZ hX 15 0 rfl rfl (a3).toNat (by omega) (by omega) (by decide) dX4_clock_55 ?_
          refine r_callV hX (z_X4_turn ad ae cs K S 0 rest hS _ (a0).toNat (by omega) (by omega) _ _ _ (by omega)) kv_X4_208 14 rfl rfl rfl rfl (Nat.le_of_ble_eq_true rfl) ⟨(Nat.le_of_ble_eq_true rfl), (Nat.le_of_ble_eq_true rfl)⟩ ⟨(Nat.le_of_ble_eq_true rfl), (Nat.le_of_ble_eq_true rfl)⟩ dX4_clock_56 (fun _ _ z => False.elim z) (fun v9 ws9 h15 => ?_)
          obtain ⟨rfl, hw9⟩ := h15
          subst ws9
          dsimp only [mPush]
          refine r_iret hX hE dX4_clock_59 (Nat.le_of_ble_eq_true rfl) (Nat.le_of_ble_eq_true rfl) ⟨_, rfl, Or.inl ⟨by omega, ?_⟩⟩
          exact oeR (oClk_c (by omega) (by omega) (by omega))
        · rcases zst1 c14 with ⟨hx, e0⟩ | ⟨hx, hy, e0⟩
          · exact absurd hx (by decide)
          · exact absurd hy (by decide)
      · have c12 := of_decide_eq_false c12
        refine r_iconst (v := b2i true) hX dX4_clock_29 (by decide) ?_
        refine r_goto (tgt := 34) hX dX4_clock_30 (by decide) ?_
        refine r_callV hX (z_X4_isStopped ad ae cs K S th rest false true) kv_X4_68 14 rfl rfl rfl rfl (Nat.le_of_ble_eq_true rfl) ⟨(Nat.le_of_ble_eq_true rfl), (Nat.le_of_ble_eq_true rfl)⟩ ⟨(Nat.le_of_ble_eq_true rfl), (Nat.le_of_ble_eq_true rfl)⟩ dX4_clock_34 (fun _ _ z => False.elim z) (fun v9 ws9 h16 => ?_)
        obtain ⟨rfl, hw9⟩ := h16
        subst ws9
        dsimp only [mPush]
        refine r_if_eqB (tgt := 44) hX dX4_clock_37 (by decide) (fun c17 => ?_) (fun c17 => ?_)
        · exact absurd c17 (by simp)
        · rcases zst1 c17 with ⟨hx, e0⟩ | ⟨hx, hy, e0⟩
          · exact absurd hx (by decide)
          · rw [e0]
            refine r_iconstZ hX dX4_clock_40 ?_
            refine r_goto (tgt := 59) hX dX4_clock_41 (by decide) ?_
            exact r_iret hX hE dX4_clock_59 (Nat.le_of_ble_eq_true rfl) (Nat.le_of_ble_eq_true rfl) ⟨_, rfl, Or.inr (Or.inr ⟨by omega, by omega, rfl⟩)⟩
    · have c10 := of_decide_eq_true c10
      refine r_iconst (v := b2i true) hX dX4_clock_16 (by decide) ?_
      refine r_goto (tgt := 21) hX dX4_clock_17 (by decide) ?_
      refine r_iload_n hX dX4_clock_21 rfl rfl ?_
      refine r_iload_n hX dX4_clock_22 rfl rfl ?_
      refine r_callS hX (z_X4_isTime _ _ _ _ (by omega) (by omega)) ks_X4_155 rfl rfl (Nat.le_of_ble_eq_true rfl) ⟨(Nat.le_of_ble_eq_true rfl), (Nat.le_of_ble_eq_true rfl)⟩ ⟨(Nat.le_of_ble_eq_true rfl), (Nat.le_of_ble_eq_true rfl)⟩ dX4_clock_23 (fun _ _ z => False.elim z) (fun v9 ws9 h18 => ?_)
      obtain ⟨rfl, hw9⟩ := h18
      subst ws9
      dsimp only [mPush]
      refine r_if_neB (tgt := 33) hX dX4_clock_26 (by decide) (fun c19 => ?_) (fun c19 => ?_)
      · have c19 := of_decide_eq_true c19
        refine r_iconst (v := b2i false) hX dX4_clock_33 (by decide) ?_
        refine r_callV hX (z_X4_isStopped ad ae cs K S th rest true false) kv_X4_68 14 rfl rfl rfl rfl (Nat.le_of_ble_eq_true rfl) ⟨(Nat.le_of_ble_eq_true rfl), (Nat.le_of_ble_eq_true rfl)⟩ ⟨(Nat.le_of_ble_eq_true rfl), (Nat.le_of_ble_eq_true rfl)⟩ dX4_clock_34 (fun _ _ z => False.elim z) (fun v9 ws9 h20 => ?_)
        obtain ⟨rfl, hw9⟩ := h20
        subst ws9
        dsimp only [mPush]
        refine r_if_eqB (tgt := 44) hX dX4_clock_37 (by decide) (fun c21 => ?_) (fun c21 => ?_)
        · exact absurd c21 (by simp)
        · rcases zst1 c21 with ⟨hx, e0⟩ | ⟨hx, hy, e0⟩
          · rw [e0]
            refine r_iconstZ hX dX4_clock_40 ?_
            refine r_goto (tgt := 59) hX dX4_clock_41 (by decide) ?_
            exact r_iret hX hE dX4_clock_59 (Nat.le_of_ble_eq_true rfl) (Nat.le_of_ble_eq_true rfl) ⟨_, rfl, Or.inr (Or.inl ⟨by omega, rfl⟩)⟩
          · exact absurd hx (by decide)
      · have c19 := of_decide_eq_false c19
        refine r_iconst (v := b2i true) hX dX4_clock_29 (by decide) ?_
        refine r_goto (tgt := 34) hX dX4_clock_30 (by decide) ?_
        refine r_callV hX (z_X4_isStopped ad ae cs K S th rest true true) kv_X4_68 14 rfl rfl rfl rfl (Nat.le_of_ble_eq_true rfl) ⟨(Nat.le_of_ble_eq_true rfl), (Nat.le_of_ble_eq_true rfl)⟩ ⟨(Nat.le_of_ble_eq_true rfl), (Nat.le_of_ble_eq_true rfl)⟩ dX4_clock_34 (fun _ _ z => False.elim z) (fun v9 ws9 h22 => ?_)
        obtain ⟨rfl, hw9⟩ := h22
        subst ws9
        dsimp only [mPush]
        refine r_if_eqB (tgt := 44) hX dX4_clock_37 (by decide) (fun c23 => ?_) (fun c23 => ?_)
        · exact absurd c23 (by simp)
        · rcases zst1 c23 with ⟨hx, e0⟩ | ⟨hx, hy, e0⟩
          · rw [e0]
            refine r_iconstZ hX dX4_clock_40 ?_
            refine r_goto (tgt := 59) hX dX4_clock_41 (by decide) ?_
            exact r_iret hX hE dX4_clock_59 (Nat.le_of_ble_eq_true rfl) (Nat.le_of_ble_eq_true rfl) ⟨_, rfl, Or.inr (Or.inl ⟨by omega, rfl⟩)⟩
          · exact absurd hx (by decide)
set_option maxHeartbeats 4000000 in
set_option maxRecDepth 20000 in
theorem z_X4_clockOf (ad ae : Nat → Nat) (cs : ClassId × ClassId × ClassId) (K : mK) (S : mS) (th : Int32) (rest : va_W) (hS : sWF S) (a0 : Int) (h0 : rJ a0) (a1 : Int) (h1 : rJ a1)  : mCt (mTy cs) yX4_clockOf cX4_clockOf 3 (some .int) ⟨3, 0, 0, 71⟩ [.ref (ae 0), .int (iZ a0), .int (iZ a1)] (mRw ad ae cs K (mJof S th) rest) (fun v ws' => ∃ r : Int32, v = some (.int r) ∧ (((((0 ≤ a0 ∧ a0 < 3) ∧ (0 ≤ a1 ∧ a1 < 4)) ∧ (0 ≤ (0 : Int))) ∧ r = iZ (oClk S a0.toNat (sse S a1.toNat) (sna S a1.toNat) (sow S a1.toNat)).1 ∧ ws' = mRw ad ae cs K (mJof (oClk S a0.toNat (sse S a1.toNat) (sna S a1.toNat) (sow S a1.toNat)).2 0) rest) ∨ (¬ ((0 ≤ a0 ∧ a0 < 3) ∧ (0 ≤ a1 ∧ a1 < 4)) ∧ ws' = mRw ad ae cs K (mJof S 1) rest) ∨ (((0 ≤ a0 ∧ a0 < 3) ∧ (0 ≤ a1 ∧ a1 < 4)) ∧ ¬ (0 ≤ (0 : Int)) ∧ ws' = mRw ad ae cs K (mJof S 2) rest))) mNo := by
  refine mCt.of (by decide +kernel) (Nat.le_of_ble_eq_true rfl) (fun X hX hE => ?_)
  replace hX : mOK X RX4 cX4_clockOf 3 ⟨3, 0, 0, 71⟩ [] (mTy cs) := hX
  refine r_aload_n hX dX4_clockOf_0 rfl rfl ?_
  refine r_iload_n hX dX4_clockOf_1 rfl rfl ?_
  refine r_callS hX (z_X4_isNoClock _ _ _ (by omega)) ks_X4_205 rfl rfl (Nat.le_of_ble_eq_true rfl) ⟨(Nat.le_of_ble_eq_true rfl), (Nat.le_of_ble_eq_true rfl)⟩ ⟨(Nat.le_of_ble_eq_true rfl), (Nat.le_of_ble_eq_true rfl)⟩ dX4_clockOf_2 (fun _ _ z => False.elim z) (fun v9 ws9 h1 => ?_)
  obtain ⟨rfl, hw9⟩ := h1
  subst ws9
  dsimp only [mPush]
  refine r_if_neB (tgt := 15) hX dX4_clockOf_5 (by decide) (fun c2 => ?_) (fun c2 => ?_)
  · have c2 := of_decide_eq_true c2
    refine r_iconst (v := b2i true) hX dX4_clockOf_15 (by decide) ?_
    refine r_goto (tgt := 20) hX dX4_clockOf_16 (by decide) ?_
    refine r_iconst (v := b2i false) hX dX4_clockOf_20 (by decide) ?_
    refine r_callV hX (z_X4_isStopped ad ae cs K S th rest true false) kv_X4_68 14 rfl rfl rfl rfl (Nat.le_of_ble_eq_true rfl) ⟨(Nat.le_of_ble_eq_true rfl), (Nat.le_of_ble_eq_true rfl)⟩ ⟨(Nat.le_of_ble_eq_true rfl), (Nat.le_of_ble_eq_true rfl)⟩ dX4_clockOf_21 (fun _ _ z => False.elim z) (fun v9 ws9 h3 => ?_)
    obtain ⟨rfl, hw9⟩ := h3
    subst ws9
    dsimp only [mPush]
    refine r_if_eqB (tgt := 31) hX dX4_clockOf_24 (by decide) (fun c4 => ?_) (fun c4 => ?_)
    · exact absurd c4 (by simp)
    · rcases zst1 c4 with ⟨hx, e0⟩ | ⟨hx, hy, e0⟩
      · rw [e0]
        refine r_iconstZ hX dX4_clockOf_27 ?_
        refine r_goto (tgt := 55) hX dX4_clockOf_28 (by decide) ?_
        exact r_iret hX hE dX4_clockOf_55 (Nat.le_of_ble_eq_true rfl) (Nat.le_of_ble_eq_true rfl) ⟨_, rfl, Or.inr (Or.inl ⟨by omega, rfl⟩)⟩
      · exact absurd hx (by decide)
  · have c2 := of_decide_eq_false c2
    refine r_iload_n hX dX4_clockOf_8 rfl rfl ?_
    refine r_callS hX (z_X4_isNone _ _ _ (by omega)) ks_X4_61 rfl rfl (Nat.le_of_ble_eq_true rfl) ⟨(Nat.le_of_ble_eq_true rfl), (Nat.le_of_ble_eq_true rfl)⟩ ⟨(Nat.le_of_ble_eq_true rfl), (Nat.le_of_ble_eq_true rfl)⟩ dX4_clockOf_9 (fun _ _ z => False.elim z) (fun v9 ws9 h5 => ?_)
    obtain ⟨rfl, hw9⟩ := h5
    subst ws9
    dsimp only [mPush]
    refine r_if_eqB (tgt := 19) hX dX4_clockOf_12 (by decide) (fun c6 => ?_) (fun c6 => ?_)
    · have c6 := of_decide_eq_false c6
      refine r_iconst (v := b2i false) hX dX4_clockOf_19 (by decide) ?_
      refine r_iconst (v := b2i false) hX dX4_clockOf_20 (by decide) ?_
      refine r_callV hX (z_X4_isStopped ad ae cs K S th rest false false) kv_X4_68 14 rfl rfl rfl rfl (Nat.le_of_ble_eq_true rfl) ⟨(Nat.le_of_ble_eq_true rfl), (Nat.le_of_ble_eq_true rfl)⟩ ⟨(Nat.le_of_ble_eq_true rfl), (Nat.le_of_ble_eq_true rfl)⟩ dX4_clockOf_21 (fun _ _ z => False.elim z) (fun v9 ws9 h7 => ?_)
      obtain ⟨rfl, hw9⟩ := h7
      subst ws9
      dsimp only [mPush]
      refine r_if_eqB (tgt := 31) hX dX4_clockOf_24 (by decide) (fun c8 => ?_) (fun c8 => ?_)
      · obtain ⟨⟨hx, hy⟩, e0⟩ := zst0 c8
        rw [e0]
        have hr1 := zrg hS (d := a1.toNat) (by omega)
        have hse := hS.2.2.2.1 a1.toNat (by omega)
        refine r_aload_n hX dX4_clockOf_31 rfl rfl ?_
        refine r_iload_n hX dX4_clockOf_32 rfl rfl ?_
        refine r_aload_n hX dX4_clockOf_33 rfl rfl ?_
        refine r_get hX kf_X4_20 14 rfl rfl dX4_clockOf_34 ?_
        refine r_iload_n hX dX4_clockOf_37 rfl rfl ?_
        refine r_ialdZ hX 18 0 rfl rfl (a1).toNat (by omega) (by omega) (by decide) dX4_clockOf_38 ?_
        refine r_i2lZ hX dX4_clockOf_39 (by omega) ?_
        refine r_aload_n hX dX4_clockOf_40 rfl rfl ?_
        refine r_get hX kf_X4_23 14 rfl rfl dX4_clockOf_41 ?_
        refine r_iload_n hX dX4_clockOf_44 rfl rfl ?_
        refine r_ialdZ hX 19 0 rfl rfl (a1).toNat (by omega) (by omega) (by decide) dX4_clockOf_45 ?_
        refine r_aload_n hX dX4_clockOf_46 rfl rfl ?_
        refine r_get hX kf_X4_26 14 rfl rfl dX4_clockOf_47 ?_
        refine r_iload_n hX dX4_clockOf_50 rfl rfl ?_
        refine r_ialdZ hX 20 0 rfl rfl (a1).toNat (by omega) (by omega) (by decide) dX4_clockOf_51 ?_
        refine r_callV hX (z_X4_turn ad ae cs K S 0 rest hS _ (a0).toNat (by omega) (by omega) _ _ _ (by omega)) kv_X4_208 14 rfl rfl rfl rfl (Nat.le_of_ble_eq_true rfl) ⟨(Nat.le_of_ble_eq_true rfl), (Nat.le_of_ble_eq_true rfl)⟩ ⟨(Nat.le_of_ble_eq_true rfl), (Nat.le_of_ble_eq_true rfl)⟩ dX4_clockOf_52 (fun _ _ z => False.elim z) (fun v9 ws9 h9 => ?_)
        obtain ⟨rfl, hw9⟩ := h9
        subst ws9
        dsimp only [mPush]
        refine r_iret hX hE dX4_clockOf_55 (Nat.le_of_ble_eq_true rfl) (Nat.le_of_ble_eq_true rfl) ⟨_, rfl, Or.inl ⟨by omega, ?_⟩⟩
        have e : oClk S a0.toNat (sse S a1.toNat) (sna S a1.toNat) (sow S a1.toNat) = oClk S a0.toNat (sse S a1.toNat % 86400) (sna S a1.toNat) (sow S a1.toNat) := by
          unfold oClk
          rw [show sse S a1.toNat % 86400 % 86400 = sse S a1.toNat % 86400 by omega]
        rw [e]
        exact oeR (oClk_c (by omega) (by omega) (by omega))
      · rcases zst1 c8 with ⟨hx, e0⟩ | ⟨hx, hy, e0⟩
        · exact absurd hx (by decide)
        · exact absurd hy (by decide)
    · have c6 := of_decide_eq_true c6
      refine r_iconst (v := b2i true) hX dX4_clockOf_15 (by decide) ?_
      refine r_goto (tgt := 20) hX dX4_clockOf_16 (by decide) ?_
      refine r_iconst (v := b2i false) hX dX4_clockOf_20 (by decide) ?_
      refine r_callV hX (z_X4_isStopped ad ae cs K S th rest true false) kv_X4_68 14 rfl rfl rfl rfl (Nat.le_of_ble_eq_true rfl) ⟨(Nat.le_of_ble_eq_true rfl), (Nat.le_of_ble_eq_true rfl)⟩ ⟨(Nat.le_of_ble_eq_true rfl), (Nat.le_of_ble_eq_true rfl)⟩ dX4_clockOf_21 (fun _ _ z => False.elim z) (fun v9 ws9 h10 => ?_)
      obtain ⟨rfl, hw9⟩ := h10
      subst ws9
      dsimp only [mPush]
      refine r_if_eqB (tgt := 31) hX dX4_clockOf_24 (by decide) (fun c11 => ?_) (fun c11 => ?_)
      · exact absurd c11 (by simp)
      · rcases zst1 c11 with ⟨hx, e0⟩ | ⟨hx, hy, e0⟩
        · rw [e0]
          refine r_iconstZ hX dX4_clockOf_27 ?_
          refine r_goto (tgt := 55) hX dX4_clockOf_28 (by decide) ?_
          exact r_iret hX hE dX4_clockOf_55 (Nat.le_of_ble_eq_true rfl) (Nat.le_of_ble_eq_true rfl) ⟨_, rfl, Or.inr (Or.inl ⟨by omega, rfl⟩)⟩
        · exact absurd hx (by decide)
set_option maxHeartbeats 4000000 in
set_option maxRecDepth 20000 in
theorem z_X4_copyClock (ad ae : Nat → Nat) (cs : ClassId × ClassId × ClassId) (K : mK) (S : mS) (th : Int32) (rest : va_W) (hS : sWF S) (a0 : Int) (h0 : rJ a0) (a1 : Int) (h1 : rJ a1)  : mCt (mTy cs) yX4_copyClock cX4_copyClock 3 (some .int) ⟨3, 0, 0, 71⟩ [.ref (ae 0), .int (iZ a0), .int (iZ a1)] (mRw ad ae cs K (mJof S th) rest) (fun v ws' => ∃ r : Int32, v = some (.int r) ∧ (((((0 ≤ a0 ∧ a0 < 3) ∧ (0 ≤ a1 ∧ a1 < 3)) ∧ (0 ≤ (0 : Int))) ∧ r = iZ (oClk S a0.toNat (sse S (a1.toNat + 4)) (sna S (a1.toNat + 4)) (sow S (a1.toNat + 4))).1 ∧ ws' = mRw ad ae cs K (mJof (oClk S a0.toNat (sse S (a1.toNat + 4)) (sna S (a1.toNat + 4)) (sow S (a1.toNat + 4))).2 0) rest) ∨ (¬ ((0 ≤ a0 ∧ a0 < 3) ∧ (0 ≤ a1 ∧ a1 < 3)) ∧ ws' = mRw ad ae cs K (mJof S 1) rest) ∨ (((0 ≤ a0 ∧ a0 < 3) ∧ (0 ≤ a1 ∧ a1 < 3)) ∧ ¬ (0 ≤ (0 : Int)) ∧ ws' = mRw ad ae cs K (mJof S 2) rest))) mNo := by
  refine mCt.of (by decide +kernel) (Nat.le_of_ble_eq_true rfl) (fun X hX hE => ?_)
  replace hX : mOK X RX4 cX4_copyClock 3 ⟨3, 0, 0, 71⟩ [] (mTy cs) := hX
  refine r_aload_n hX dX4_copyClock_0 rfl rfl ?_
  refine r_iload_n hX dX4_copyClock_1 rfl rfl ?_
  refine r_callS hX (z_X4_isNoClock _ _ _ (by omega)) ks_X4_205 rfl rfl (Nat.le_of_ble_eq_true rfl) ⟨(Nat.le_of_ble_eq_true rfl), (Nat.le_of_ble_eq_true rfl)⟩ ⟨(Nat.le_of_ble_eq_true rfl), (Nat.le_of_ble_eq_true rfl)⟩ dX4_copyClock_2 (fun _ _ z => False.elim z) (fun v9 ws9 h1 => ?_)
  obtain ⟨rfl, hw9⟩ := h1
  subst ws9
  dsimp only [mPush]
  refine r_if_neB (tgt := 15) hX dX4_copyClock_5 (by decide) (fun c2 => ?_) (fun c2 => ?_)
  · have c2 := of_decide_eq_true c2
    refine r_iconst (v := b2i true) hX dX4_copyClock_15 (by decide) ?_
    refine r_goto (tgt := 20) hX dX4_copyClock_16 (by decide) ?_
    refine r_iconst (v := b2i false) hX dX4_copyClock_20 (by decide) ?_
    refine r_callV hX (z_X4_isStopped ad ae cs K S th rest true false) kv_X4_68 14 rfl rfl rfl rfl (Nat.le_of_ble_eq_true rfl) ⟨(Nat.le_of_ble_eq_true rfl), (Nat.le_of_ble_eq_true rfl)⟩ ⟨(Nat.le_of_ble_eq_true rfl), (Nat.le_of_ble_eq_true rfl)⟩ dX4_copyClock_21 (fun _ _ z => False.elim z) (fun v9 ws9 h3 => ?_)
    obtain ⟨rfl, hw9⟩ := h3
    subst ws9
    dsimp only [mPush]
    refine r_if_eqB (tgt := 31) hX dX4_copyClock_24 (by decide) (fun c4 => ?_) (fun c4 => ?_)
    · exact absurd c4 (by simp)
    · rcases zst1 c4 with ⟨hx, e0⟩ | ⟨hx, hy, e0⟩
      · rw [e0]
        refine r_iconstZ hX dX4_copyClock_27 ?_
        refine r_goto (tgt := 61) hX dX4_copyClock_28 (by decide) ?_
        exact r_iret hX hE dX4_copyClock_61 (Nat.le_of_ble_eq_true rfl) (Nat.le_of_ble_eq_true rfl) ⟨_, rfl, Or.inr (Or.inl ⟨by omega, rfl⟩)⟩
      · exact absurd hx (by decide)
  · have c2 := of_decide_eq_false c2
    refine r_iload_n hX dX4_copyClock_8 rfl rfl ?_
    refine r_callS hX (z_X4_isNoClock _ _ _ (by omega)) ks_X4_205 rfl rfl (Nat.le_of_ble_eq_true rfl) ⟨(Nat.le_of_ble_eq_true rfl), (Nat.le_of_ble_eq_true rfl)⟩ ⟨(Nat.le_of_ble_eq_true rfl), (Nat.le_of_ble_eq_true rfl)⟩ dX4_copyClock_9 (fun _ _ z => False.elim z) (fun v9 ws9 h5 => ?_)
    obtain ⟨rfl, hw9⟩ := h5
    subst ws9
    dsimp only [mPush]
    refine r_if_eqB (tgt := 19) hX dX4_copyClock_12 (by decide) (fun c6 => ?_) (fun c6 => ?_)
    · have c6 := of_decide_eq_false c6
      refine r_iconst (v := b2i false) hX dX4_copyClock_19 (by decide) ?_
      refine r_iconst (v := b2i false) hX dX4_copyClock_20 (by decide) ?_
      refine r_callV hX (z_X4_isStopped ad ae cs K S th rest false false) kv_X4_68 14 rfl rfl rfl rfl (Nat.le_of_ble_eq_true rfl) ⟨(Nat.le_of_ble_eq_true rfl), (Nat.le_of_ble_eq_true rfl)⟩ ⟨(Nat.le_of_ble_eq_true rfl), (Nat.le_of_ble_eq_true rfl)⟩ dX4_copyClock_21 (fun _ _ z => False.elim z) (fun v9 ws9 h7 => ?_)
      obtain ⟨rfl, hw9⟩ := h7
      subst ws9
      dsimp only [mPush]
      refine r_if_eqB (tgt := 31) hX dX4_copyClock_24 (by decide) (fun c8 => ?_) (fun c8 => ?_)
      · obtain ⟨⟨hx, hy⟩, e0⟩ := zst0 c8
        rw [e0]
        have hrk0 := zrg hS (d := a0.toNat + 4) (by omega)
        have hsk0 := hS.2.2.2.2 (a0.toNat + 4) (by omega) (by omega)
        have hrk1 := zrg hS (d := a1.toNat + 4) (by omega)
        have hsk1 := hS.2.2.2.2 (a1.toNat + 4) (by omega) (by omega)
        refine r_aload_n hX dX4_copyClock_31 rfl rfl ?_
        refine r_iload_n hX dX4_copyClock_32 rfl rfl ?_
        refine r_aload_n hX dX4_copyClock_33 rfl rfl ?_
        refine r_get hX kf_X4_20 14 rfl rfl dX4_copyClock_34 ?_
        refine r_iconstZ hX dX4_copyClock_37 ?_
        refine r_iload_n hX dX4_copyClock_38 rfl rfl ?_
        refine r_iaddZ hX dX4_copyClock_39 ?_
        refine r_ialdZ hX 18 0 rfl rfl (a1.toNat + 4) (by omega) (by omega) (by decide) dX4_copyClock_40 ?_
        refine r_i2lZ hX dX4_copyClock_41 (by omega) ?_
        refine r_aload_n hX dX4_copyClock_42 rfl rfl ?_
        refine r_get hX kf_X4_23 14 rfl rfl dX4_copyClock_43 ?_
        refine r_iconstZ hX dX4_copyClock_46 ?_
        refine r_iload_n hX dX4_copyClock_47 rfl rfl ?_
        refine r_iaddZ hX dX4_copyClock_48 ?_
        refine r_ialdZ hX 19 0 rfl rfl (a1.toNat + 4) (by omega) (by omega) (by decide) dX4_copyClock_49 ?_
        refine r_aload_n hX dX4_copyClock_50 rfl rfl ?_
        refine r_get hX kf_X4_26 14 rfl rfl dX4_copyClock_51 ?_
        refine r_iconstZ hX dX4_copyClock_54 ?_
        refine r_iload_n hX dX4_copyClock_55 rfl rfl ?_
        refine r_iaddZ hX dX4_copyClock_56 ?_
        refine r_ialdZ hX 20 0 rfl rfl (a1.toNat + 4) (by omega) (by omega) (by decide) dX4_copyClock_57 ?_
        refine r_callV hX (z_X4_turn ad ae cs K S 0 rest hS _ (a0).toNat (by omega) (by omega) _ _ _ (by omega)) kv_X4_208 14 rfl rfl rfl rfl (Nat.le_of_ble_eq_true rfl) ⟨(Nat.le_of_ble_eq_true rfl), (Nat.le_of_ble_eq_true rfl)⟩ ⟨(Nat.le_of_ble_eq_true rfl), (Nat.le_of_ble_eq_true rfl)⟩ dX4_copyClock_58 (fun _ _ z => False.elim z) (fun v9 ws9 h9 => ?_)
        obtain ⟨rfl, hw9⟩ := h9
        subst ws9
        dsimp only [mPush]
        refine r_iret hX hE dX4_copyClock_61 (Nat.le_of_ble_eq_true rfl) (Nat.le_of_ble_eq_true rfl) ⟨_, rfl, Or.inl ⟨by omega, ?_⟩⟩
        exact oeR (oClk_c (by omega) (by omega) (by omega))
      · rcases zst1 c8 with ⟨hx, e0⟩ | ⟨hx, hy, e0⟩
        · exact absurd hx (by decide)
        · exact absurd hy (by decide)
    · have c6 := of_decide_eq_true c6
      refine r_iconst (v := b2i true) hX dX4_copyClock_15 (by decide) ?_
      refine r_goto (tgt := 20) hX dX4_copyClock_16 (by decide) ?_
      refine r_iconst (v := b2i false) hX dX4_copyClock_20 (by decide) ?_
      refine r_callV hX (z_X4_isStopped ad ae cs K S th rest true false) kv_X4_68 14 rfl rfl rfl rfl (Nat.le_of_ble_eq_true rfl) ⟨(Nat.le_of_ble_eq_true rfl), (Nat.le_of_ble_eq_true rfl)⟩ ⟨(Nat.le_of_ble_eq_true rfl), (Nat.le_of_ble_eq_true rfl)⟩ dX4_copyClock_21 (fun _ _ z => False.elim z) (fun v9 ws9 h10 => ?_)
      obtain ⟨rfl, hw9⟩ := h10
      subst ws9
      dsimp only [mPush]
      refine r_if_eqB (tgt := 31) hX dX4_copyClock_24 (by decide) (fun c11 => ?_) (fun c11 => ?_)
      · exact absurd c11 (by simp)
      · rcases zst1 c11 with ⟨hx, e0⟩ | ⟨hx, hy, e0⟩
        · rw [e0]
          refine r_iconstZ hX dX4_copyClock_27 ?_
          refine r_goto (tgt := 61) hX dX4_copyClock_28 (by decide) ?_
          exact r_iret hX hE dX4_copyClock_61 (Nat.le_of_ble_eq_true rfl) (Nat.le_of_ble_eq_true rfl) ⟨_, rfl, Or.inr (Or.inl ⟨by omega, rfl⟩)⟩
        · exact absurd hx (by decide)
set_option maxHeartbeats 4000000 in
set_option maxRecDepth 20000 in
theorem z_X4_strike (ad ae : Nat → Nat) (cs : ClassId × ClassId × ClassId) (K : mK) (S : mS) (th : Int32) (rest : va_W) (hS : sWF S) (a0 : Int) (h0 : rJ a0) (a1 : Int) (h1 : rJ a1)  : mCt (mTy cs) yX4_strike cX4_strike 3 (some .int) ⟨2, 0, 0, 45⟩ [.ref (ae 0), .int (iZ a0), .int (iZ a1)] (mRw ad ae cs K (mJof S th) rest) (fun v ws' => ∃ r : Int32, v = some (.int r) ∧ (((((0 ≤ a0 ∧ a0 < 4) ∧ (0 ≤ a1 ∧ a1 < 3)) ∧ (0 ≤ (0 : Int))) ∧ r = iZ (oLoc S a0.toNat (sse S a0.toNat / 86400 * 86400 + sse S (a1.toNat + 4)) (sna S (a1.toNat + 4)) (sow S (a1.toNat + 4))).1 ∧ ws' = mRw ad ae cs K (mJof (oLoc S a0.toNat (sse S a0.toNat / 86400 * 86400 + sse S (a1.toNat + 4)) (sna S (a1.toNat + 4)) (sow S (a1.toNat + 4))).2 0) rest) ∨ (¬ ((0 ≤ a0 ∧ a0 < 4) ∧ (0 ≤ a1 ∧ a1 < 3)) ∧ ws' = mRw ad ae cs K (mJof S 1) rest) ∨ (((0 ≤ a0 ∧ a0 < 4) ∧ (0 ≤ a1 ∧ a1 < 3)) ∧ ¬ (0 ≤ (0 : Int)) ∧ ws' = mRw ad ae cs K (mJof S 2) rest))) mNo := by
  refine mCt.of (by decide +kernel) (Nat.le_of_ble_eq_true rfl) (fun X hX hE => ?_)
  replace hX : mOK X RX4 cX4_strike 3 ⟨2, 0, 0, 45⟩ [] (mTy cs) := hX
  refine r_aload_n hX dX4_strike_0 rfl rfl ?_
  refine r_iload_n hX dX4_strike_1 rfl rfl ?_
  refine r_callS hX (z_X4_isNone _ _ _ (by omega)) ks_X4_61 rfl rfl (Nat.le_of_ble_eq_true rfl) ⟨(Nat.le_of_ble_eq_true rfl), (Nat.le_of_ble_eq_true rfl)⟩ ⟨(Nat.le_of_ble_eq_true rfl), (Nat.le_of_ble_eq_true rfl)⟩ dX4_strike_2 (fun _ _ z => False.elim z) (fun v9 ws9 h1 => ?_)
  obtain ⟨rfl, hw9⟩ := h1
  subst ws9
  dsimp only [mPush]
  refine r_if_neB (tgt := 15) hX dX4_strike_5 (by decide) (fun c2 => ?_) (fun c2 => ?_)
  · have c2 := of_decide_eq_true c2
    refine r_iconst (v := b2i true) hX dX4_strike_15 (by decide) ?_
    refine r_goto (tgt := 20) hX dX4_strike_16 (by decide) ?_
    refine r_iconst (v := b2i false) hX dX4_strike_20 (by decide) ?_
    refine r_callV hX (z_X4_isStopped ad ae cs K S th rest true false) kv_X4_68 14 rfl rfl rfl rfl (Nat.le_of_ble_eq_true rfl) ⟨(Nat.le_of_ble_eq_true rfl), (Nat.le_of_ble_eq_true rfl)⟩ ⟨(Nat.le_of_ble_eq_true rfl), (Nat.le_of_ble_eq_true rfl)⟩ dX4_strike_21 (fun _ _ z => False.elim z) (fun v9 ws9 h3 => ?_)
    obtain ⟨rfl, hw9⟩ := h3
    subst ws9
    dsimp only [mPush]
    refine r_if_eqB (tgt := 31) hX dX4_strike_24 (by decide) (fun c4 => ?_) (fun c4 => ?_)
    · exact absurd c4 (by simp)
    · rcases zst1 c4 with ⟨hx, e0⟩ | ⟨hx, hy, e0⟩
      · rw [e0]
        refine r_iconstZ hX dX4_strike_27 ?_
        refine r_goto (tgt := 66) hX dX4_strike_28 (by decide) ?_
        exact r_iret hX hE dX4_strike_66 (Nat.le_of_ble_eq_true rfl) (Nat.le_of_ble_eq_true rfl) ⟨_, rfl, Or.inr (Or.inl ⟨by omega, rfl⟩)⟩
      · exact absurd hx (by decide)
  · have c2 := of_decide_eq_false c2
    refine r_iload_n hX dX4_strike_8 rfl rfl ?_
    refine r_callS hX (z_X4_isNoClock _ _ _ (by omega)) ks_X4_205 rfl rfl (Nat.le_of_ble_eq_true rfl) ⟨(Nat.le_of_ble_eq_true rfl), (Nat.le_of_ble_eq_true rfl)⟩ ⟨(Nat.le_of_ble_eq_true rfl), (Nat.le_of_ble_eq_true rfl)⟩ dX4_strike_9 (fun _ _ z => False.elim z) (fun v9 ws9 h5 => ?_)
    obtain ⟨rfl, hw9⟩ := h5
    subst ws9
    dsimp only [mPush]
    refine r_if_eqB (tgt := 19) hX dX4_strike_12 (by decide) (fun c6 => ?_) (fun c6 => ?_)
    · have c6 := of_decide_eq_false c6
      refine r_iconst (v := b2i false) hX dX4_strike_19 (by decide) ?_
      refine r_iconst (v := b2i false) hX dX4_strike_20 (by decide) ?_
      refine r_callV hX (z_X4_isStopped ad ae cs K S th rest false false) kv_X4_68 14 rfl rfl rfl rfl (Nat.le_of_ble_eq_true rfl) ⟨(Nat.le_of_ble_eq_true rfl), (Nat.le_of_ble_eq_true rfl)⟩ ⟨(Nat.le_of_ble_eq_true rfl), (Nat.le_of_ble_eq_true rfl)⟩ dX4_strike_21 (fun _ _ z => False.elim z) (fun v9 ws9 h7 => ?_)
      obtain ⟨rfl, hw9⟩ := h7
      subst ws9
      dsimp only [mPush]
      refine r_if_eqB (tgt := 31) hX dX4_strike_24 (by decide) (fun c8 => ?_) (fun c8 => ?_)
      · obtain ⟨⟨hx, hy⟩, e0⟩ := zst0 c8
        rw [e0]
        have hrk1 := zrg hS (d := a1.toNat + 4) (by omega)
        have hsk1 := hS.2.2.2.2 (a1.toNat + 4) (by omega) (by omega)
        have hse := hS.2.2.2.1 a0.toNat (by omega)
        refine r_aload_n hX dX4_strike_31 rfl rfl ?_
        refine r_iload_n hX dX4_strike_32 rfl rfl ?_
        refine r_aload_n hX dX4_strike_33 rfl rfl ?_
        refine r_get hX kf_X4_17 14 rfl rfl dX4_strike_34 ?_
        refine r_iload_n hX dX4_strike_37 rfl rfl ?_
        refine r_ialdZ hX 17 0 rfl rfl (a0).toNat (by omega) (by omega) (by decide) dX4_strike_38 ?_
        refine r_aload_n hX dX4_strike_39 rfl rfl ?_
        refine r_get hX kf_X4_20 14 rfl rfl dX4_strike_40 ?_
        refine r_iconstZ hX dX4_strike_43 ?_
        refine r_iload_n hX dX4_strike_44 rfl rfl ?_
        refine r_iaddZ hX dX4_strike_45 ?_
        refine r_ialdZ hX 18 0 rfl rfl (a1.toNat + 4) (by omega) (by omega) (by decide) dX4_strike_46 ?_
        refine r_aload_n hX dX4_strike_47 rfl rfl ?_
        refine r_get hX kf_X4_23 14 rfl rfl dX4_strike_48 ?_
        refine r_iconstZ hX dX4_strike_51 ?_
        refine r_iload_n hX dX4_strike_52 rfl rfl ?_
        refine r_iaddZ hX dX4_strike_53 ?_
        refine r_ialdZ hX 19 0 rfl rfl (a1.toNat + 4) (by omega) (by omega) (by decide) dX4_strike_54 ?_
        refine r_aload_n hX dX4_strike_55 rfl rfl ?_
        refine r_get hX kf_X4_26 14 rfl rfl dX4_strike_56 ?_
        refine r_iconstZ hX dX4_strike_59 ?_
        refine r_iload_n hX dX4_strike_60 rfl rfl ?_
        refine r_iaddZ hX dX4_strike_61 ?_
        refine r_ialdZ hX 20 0 rfl rfl (a1.toNat + 4) (by omega) (by omega) (by decide) dX4_strike_62 ?_
        refine r_callV hX (z_X4_put ad ae cs K S 0 rest hS _ (a0).toNat (by omega) (by omega) _ _ _ _ (by omega)) kv_X4_139 14 rfl rfl rfl rfl (Nat.le_of_ble_eq_true rfl) ⟨(Nat.le_of_ble_eq_true rfl), (Nat.le_of_ble_eq_true rfl)⟩ ⟨(Nat.le_of_ble_eq_true rfl), (Nat.le_of_ble_eq_true rfl)⟩ dX4_strike_63 (fun _ _ z => False.elim z) (fun v9 ws9 h9 => ?_)
        obtain ⟨rfl, hw9⟩ := h9
        subst ws9
        dsimp only [mPush]
        refine r_iret hX hE dX4_strike_66 (Nat.le_of_ble_eq_true rfl) (Nat.le_of_ble_eq_true rfl) ⟨_, rfl, Or.inl ⟨by omega, ?_⟩⟩
        rw [oLoc_y (by omega)]
        exact ⟨congrArg iZ (by omega), by rw [show sse S a0.toNat / 86400 * 86400 + sse S (a1.toNat + 4) % 86400 = sse S a0.toNat / 86400 * 86400 + sse S (a1.toNat + 4) by omega]⟩
      · rcases zst1 c8 with ⟨hx, e0⟩ | ⟨hx, hy, e0⟩
        · exact absurd hx (by decide)
        · exact absurd hy (by decide)
    · have c6 := of_decide_eq_true c6
      refine r_iconst (v := b2i true) hX dX4_strike_15 (by decide) ?_
      refine r_goto (tgt := 20) hX dX4_strike_16 (by decide) ?_
      refine r_iconst (v := b2i false) hX dX4_strike_20 (by decide) ?_
      refine r_callV hX (z_X4_isStopped ad ae cs K S th rest true false) kv_X4_68 14 rfl rfl rfl rfl (Nat.le_of_ble_eq_true rfl) ⟨(Nat.le_of_ble_eq_true rfl), (Nat.le_of_ble_eq_true rfl)⟩ ⟨(Nat.le_of_ble_eq_true rfl), (Nat.le_of_ble_eq_true rfl)⟩ dX4_strike_21 (fun _ _ z => False.elim z) (fun v9 ws9 h10 => ?_)
      obtain ⟨rfl, hw9⟩ := h10
      subst ws9
      dsimp only [mPush]
      refine r_if_eqB (tgt := 31) hX dX4_strike_24 (by decide) (fun c11 => ?_) (fun c11 => ?_)
      · exact absurd c11 (by simp)
      · rcases zst1 c11 with ⟨hx, e0⟩ | ⟨hx, hy, e0⟩
        · rw [e0]
          refine r_iconstZ hX dX4_strike_27 ?_
          refine r_goto (tgt := 66) hX dX4_strike_28 (by decide) ?_
          exact r_iret hX hE dX4_strike_66 (Nat.le_of_ble_eq_true rfl) (Nat.le_of_ble_eq_true rfl) ⟨_, rfl, Or.inr (Or.inl ⟨by omega, rfl⟩)⟩
        · exact absurd hx (by decide)
set_option maxHeartbeats 4000000 in
set_option maxRecDepth 20000 in
theorem z_X4_anewClock (ad ae : Nat → Nat) (cs : ClassId × ClassId × ClassId) (K : mK) (S : mS) (th : Int32) (rest : va_W) (hS : sWF S) (a0 : Int) (h0 : rJ a0) (a1 : Int) (h1 : rJ a1) (b2 : Bool)  : mCt (mTy cs) yX4_anewClock cX4_anewClock 5 (some .int) ⟨3, 0, 0, 71⟩ [.ref (ae 0), .int (iZ a0), .int (iZ a1), .int (b2i b2)] (mRw ad ae cs K (mJof S th) rest) (fun v ws' => ∃ r : Int32, v = some (.int r) ∧ (((((0 ≤ a0 ∧ a0 < 3) ∧ (0 ≤ a1 ∧ a1 < 4)) ∧ (0 ≤ (0 : Int))) ∧ r = iZ (oClk S a0.toNat (cond b2 (sse S (a0.toNat + 4)) (sse S (a0.toNat + 4) - sow S (a0.toNat + 4) + sof S a1.toNat)) (sna S (a0.toNat + 4)) (sof S a1.toNat)).1 ∧ ws' = mRw ad ae cs K (mJof (oClk S a0.toNat (cond b2 (sse S (a0.toNat + 4)) (sse S (a0.toNat + 4) - sow S (a0.toNat + 4) + sof S a1.toNat)) (sna S (a0.toNat + 4)) (sof S a1.toNat)).2 0) rest) ∨ (¬ ((0 ≤ a0 ∧ a0 < 3) ∧ (0 ≤ a1 ∧ a1 < 4)) ∧ ws' = mRw ad ae cs K (mJof S 1) rest) ∨ (((0 ≤ a0 ∧ a0 < 3) ∧ (0 ≤ a1 ∧ a1 < 4)) ∧ ¬ (0 ≤ (0 : Int)) ∧ ws' = mRw ad ae cs K (mJof S 2) rest))) mNo := by
  refine mCt.of (by decide +kernel) (Nat.le_of_ble_eq_true rfl) (fun X hX hE => ?_)
  replace hX : mOK X RX4 cX4_anewClock 5 ⟨3, 0, 0, 71⟩ [] (mTy cs) := hX
  refine r_aload_n hX dX4_anewClock_0 rfl rfl ?_
  refine r_iload_n hX dX4_anewClock_1 rfl rfl ?_
  refine r_callS hX (z_X4_isNoClock _ _ _ (by omega)) ks_X4_205 rfl rfl (Nat.le_of_ble_eq_true rfl) ⟨(Nat.le_of_ble_eq_true rfl), (Nat.le_of_ble_eq_true rfl)⟩ ⟨(Nat.le_of_ble_eq_true rfl), (Nat.le_of_ble_eq_true rfl)⟩ dX4_anewClock_2 (fun _ _ z => False.elim z) (fun v9 ws9 h1 => ?_)
  obtain ⟨rfl, hw9⟩ := h1
  subst ws9
  dsimp only [mPush]
  refine r_if_neB (tgt := 15) hX dX4_anewClock_5 (by decide) (fun c2 => ?_) (fun c2 => ?_)
  · have c2 := of_decide_eq_true c2
    refine r_iconst (v := b2i true) hX dX4_anewClock_15 (by decide) ?_
    refine r_goto (tgt := 20) hX dX4_anewClock_16 (by decide) ?_
    refine r_iconst (v := b2i false) hX dX4_anewClock_20 (by decide) ?_
    refine r_callV hX (z_X4_isStopped ad ae cs K S th rest true false) kv_X4_68 14 rfl rfl rfl rfl (Nat.le_of_ble_eq_true rfl) ⟨(Nat.le_of_ble_eq_true rfl), (Nat.le_of_ble_eq_true rfl)⟩ ⟨(Nat.le_of_ble_eq_true rfl), (Nat.le_of_ble_eq_true rfl)⟩ dX4_anewClock_21 (fun _ _ z => False.elim z) (fun v9 ws9 h3 => ?_)
    obtain ⟨rfl, hw9⟩ := h3
    subst ws9
    dsimp only [mPush]
    refine r_if_eqB (tgt := 29) hX dX4_anewClock_24 (by decide) (fun c4 => ?_) (fun c4 => ?_)
    · exact absurd c4 (by simp)
    · rcases zst1 c4 with ⟨hx, e0⟩ | ⟨hx, hy, e0⟩
      · rw [e0]
        refine r_iconstZ hX dX4_anewClock_27 ?_
        exact r_iret hX hE dX4_anewClock_28 (Nat.le_of_ble_eq_true rfl) (Nat.le_of_ble_eq_true rfl) ⟨_, rfl, Or.inr (Or.inl ⟨by omega, rfl⟩)⟩
      · exact absurd hx (by decide)
  · have c2 := of_decide_eq_false c2
    refine r_iload_n hX dX4_anewClock_8 rfl rfl ?_
    refine r_callS hX (z_X4_isNone _ _ _ (by omega)) ks_X4_61 rfl rfl (Nat.le_of_ble_eq_true rfl) ⟨(Nat.le_of_ble_eq_true rfl), (Nat.le_of_ble_eq_true rfl)⟩ ⟨(Nat.le_of_ble_eq_true rfl), (Nat.le_of_ble_eq_true rfl)⟩ dX4_anewClock_9 (fun _ _ z => False.elim z) (fun v9 ws9 h5 => ?_)
    obtain ⟨rfl, hw9⟩ := h5
    subst ws9
    dsimp only [mPush]
    refine r_if_eqB (tgt := 19) hX dX4_anewClock_12 (by decide) (fun c6 => ?_) (fun c6 => ?_)
    · have c6 := of_decide_eq_false c6
      refine r_iconst (v := b2i false) hX dX4_anewClock_19 (by decide) ?_
      refine r_iconst (v := b2i false) hX dX4_anewClock_20 (by decide) ?_
      refine r_callV hX (z_X4_isStopped ad ae cs K S th rest false false) kv_X4_68 14 rfl rfl rfl rfl (Nat.le_of_ble_eq_true rfl) ⟨(Nat.le_of_ble_eq_true rfl), (Nat.le_of_ble_eq_true rfl)⟩ ⟨(Nat.le_of_ble_eq_true rfl), (Nat.le_of_ble_eq_true rfl)⟩ dX4_anewClock_21 (fun _ _ z => False.elim z) (fun v9 ws9 h7 => ?_)
      obtain ⟨rfl, hw9⟩ := h7
      subst ws9
      dsimp only [mPush]
      refine r_if_eqB (tgt := 29) hX dX4_anewClock_24 (by decide) (fun c8 => ?_) (fun c8 => ?_)
      · obtain ⟨⟨hx, hy⟩, e0⟩ := zst0 c8
        rw [e0]
        have hrk0 := zrg hS (d := a0.toNat + 4) (by omega)
        have hsk0 := hS.2.2.2.2 (a0.toNat + 4) (by omega) (by omega)
        have hof := hS.1 a1.toNat (by omega)
        refine r_iload_n hX dX4_anewClock_29 rfl rfl ?_
        refine r_if_eqB (tgt := 37) hX dX4_anewClock_30 (by decide) (fun c9 => ?_) (fun c9 => ?_)
        · have c9 := id c9
          refine r_aload_n hX dX4_anewClock_37 rfl rfl ?_
          refine r_get hX kf_X4_7 14 rfl rfl dX4_anewClock_38 ?_
          refine r_iload_n hX dX4_anewClock_41 rfl rfl ?_
          refine r_ialdZ hX 15 0 rfl rfl (a1).toNat (by omega) (by omega) (by decide) dX4_anewClock_42 ?_
          refine r_aload_n hX dX4_anewClock_43 rfl rfl ?_
          refine r_get hX kf_X4_26 14 rfl rfl dX4_anewClock_44 ?_
          refine r_iconstZ hX dX4_anewClock_47 ?_
          refine r_iload_n hX dX4_anewClock_48 rfl rfl ?_
          refine r_iaddZ hX dX4_anewClock_49 ?_
          refine r_ialdZ hX 20 0 rfl rfl (a0.toNat + 4) (by omega) (by omega) (by decide) dX4_anewClock_50 ?_
          refine r_isubZ hX dX4_anewClock_51 ?_
          refine r_istore hX dX4_anewClock_52 (by decide) rfl ?_
          refine r_aload_n hX dX4_anewClock_54 rfl rfl ?_
          refine r_iload_n hX dX4_anewClock_55 rfl rfl ?_
          refine r_aload_n hX dX4_anewClock_56 rfl rfl ?_
          refine r_get hX kf_X4_20 14 rfl rfl dX4_anewClock_57 ?_
          refine r_iconstZ hX dX4_anewClock_60 ?_
          refine r_iload_n hX dX4_anewClock_61 rfl rfl ?_
          refine r_iaddZ hX dX4_anewClock_62 ?_
          refine r_ialdZ hX 18 0 rfl rfl (a0.toNat + 4) (by omega) (by omega) (by decide) dX4_anewClock_63 ?_
          refine r_iload hX dX4_anewClock_64 rfl ?_
          refine r_iaddZ hX dX4_anewClock_66 ?_
          refine r_i2lZ hX dX4_anewClock_67 (by omega) ?_
          refine r_aload_n hX dX4_anewClock_68 rfl rfl ?_
          refine r_get hX kf_X4_23 14 rfl rfl dX4_anewClock_69 ?_
          refine r_iconstZ hX dX4_anewClock_72 ?_
          refine r_iload_n hX dX4_anewClock_73 rfl rfl ?_
          refine r_iaddZ hX dX4_anewClock_74 ?_
          refine r_ialdZ hX 19 0 rfl rfl (a0.toNat + 4) (by omega) (by omega) (by decide) dX4_anewClock_75 ?_
          refine r_aload_n hX dX4_anewClock_76 rfl rfl ?_
          refine r_get hX kf_X4_7 14 rfl rfl dX4_anewClock_77 ?_
          refine r_iload_n hX dX4_anewClock_80 rfl rfl ?_
          refine r_ialdZ hX 15 0 rfl rfl (a1).toNat (by omega) (by omega) (by decide) dX4_anewClock_81 ?_
          refine r_callV hX (z_X4_turn ad ae cs K S 0 rest hS _ (a0).toNat (by omega) (by omega) _ _ _ (by omega)) kv_X4_208 14 rfl rfl rfl rfl (Nat.le_of_ble_eq_true rfl) ⟨(Nat.le_of_ble_eq_true rfl), (Nat.le_of_ble_eq_true rfl)⟩ ⟨(Nat.le_of_ble_eq_true rfl), (Nat.le_of_ble_eq_true rfl)⟩ dX4_anewClock_82 (fun _ _ z => False.elim z) (fun v9 ws9 h10 => ?_)
          obtain ⟨rfl, hw9⟩ := h10
          subst ws9
          dsimp only [mPush]
          refine r_iret hX hE dX4_anewClock_85 (Nat.le_of_ble_eq_true rfl) (Nat.le_of_ble_eq_true rfl) ⟨_, rfl, Or.inl ⟨by omega, ?_⟩⟩
          first | rw [show b2 = true by assumption] | rw [show b2 = false by assumption]
          simp only [cond]
          exact oeR (oClk_c (by omega) (by omega) (by omega))
        · have c9 := id c9
          refine r_iconstZ hX dX4_anewClock_33 ?_
          refine r_goto (tgt := 52) hX dX4_anewClock_34 (by decide) ?_
          refine r_istore hX dX4_anewClock_52 (by decide) rfl ?_
          refine r_aload_n hX dX4_anewClock_54 rfl rfl ?_
          refine r_iload_n hX dX4_anewClock_55 rfl rfl ?_
          refine r_aload_n hX dX4_anewClock_56 rfl rfl ?_
          refine r_get hX kf_X4_20 14 rfl rfl dX4_anewClock_57 ?_
          refine r_iconstZ hX dX4_anewClock_60 ?_
          refine r_iload_n hX dX4_anewClock_61 rfl rfl ?_
          refine r_iaddZ hX dX4_anewClock_62 ?_
          refine r_ialdZ hX 18 0 rfl rfl (a0.toNat + 4) (by omega) (by omega) (by decide) dX4_anewClock_63 ?_
          refine r_iload hX dX4_anewClock_64 rfl ?_
          refine r_iaddZ hX dX4_anewClock_66 ?_
          refine r_i2lZ hX dX4_anewClock_67 (by omega) ?_
          refine r_aload_n hX dX4_anewClock_68 rfl rfl ?_
          refine r_get hX kf_X4_23 14 rfl rfl dX4_anewClock_69 ?_
          refine r_iconstZ hX dX4_anewClock_72 ?_
          refine r_iload_n hX dX4_anewClock_73 rfl rfl ?_
          refine r_iaddZ hX dX4_anewClock_74 ?_
          refine r_ialdZ hX 19 0 rfl rfl (a0.toNat + 4) (by omega) (by omega) (by decide) dX4_anewClock_75 ?_
          refine r_aload_n hX dX4_anewClock_76 rfl rfl ?_
          refine r_get hX kf_X4_7 14 rfl rfl dX4_anewClock_77 ?_
          refine r_iload_n hX dX4_anewClock_80 rfl rfl ?_
          refine r_ialdZ hX 15 0 rfl rfl (a1).toNat (by omega) (by omega) (by decide) dX4_anewClock_81 ?_
          refine r_callV hX (z_X4_turn ad ae cs K S 0 rest hS _ (a0).toNat (by omega) (by omega) _ _ _ (by omega)) kv_X4_208 14 rfl rfl rfl rfl (Nat.le_of_ble_eq_true rfl) ⟨(Nat.le_of_ble_eq_true rfl), (Nat.le_of_ble_eq_true rfl)⟩ ⟨(Nat.le_of_ble_eq_true rfl), (Nat.le_of_ble_eq_true rfl)⟩ dX4_anewClock_82 (fun _ _ z => False.elim z) (fun v9 ws9 h11 => ?_)
          obtain ⟨rfl, hw9⟩ := h11
          subst ws9
          dsimp only [mPush]
          refine r_iret hX hE dX4_anewClock_85 (Nat.le_of_ble_eq_true rfl) (Nat.le_of_ble_eq_true rfl) ⟨_, rfl, Or.inl ⟨by omega, ?_⟩⟩
          first | rw [show b2 = true by assumption] | rw [show b2 = false by assumption]
          simp only [cond]
          exact oeR (oClk_c (by omega) (by omega) (by omega))
      · rcases zst1 c8 with ⟨hx, e0⟩ | ⟨hx, hy, e0⟩
        · exact absurd hx (by decide)
        · exact absurd hy (by decide)
    · have c6 := of_decide_eq_true c6
      refine r_iconst (v := b2i true) hX dX4_anewClock_15 (by decide) ?_
      refine r_goto (tgt := 20) hX dX4_anewClock_16 (by decide) ?_
      refine r_iconst (v := b2i false) hX dX4_anewClock_20 (by decide) ?_
      refine r_callV hX (z_X4_isStopped ad ae cs K S th rest true false) kv_X4_68 14 rfl rfl rfl rfl (Nat.le_of_ble_eq_true rfl) ⟨(Nat.le_of_ble_eq_true rfl), (Nat.le_of_ble_eq_true rfl)⟩ ⟨(Nat.le_of_ble_eq_true rfl), (Nat.le_of_ble_eq_true rfl)⟩ dX4_anewClock_21 (fun _ _ z => False.elim z) (fun v9 ws9 h12 => ?_)
      obtain ⟨rfl, hw9⟩ := h12
      subst ws9
      dsimp only [mPush]
      refine r_if_eqB (tgt := 29) hX dX4_anewClock_24 (by decide) (fun c13 => ?_) (fun c13 => ?_)
      · exact absurd c13 (by simp)
      · rcases zst1 c13 with ⟨hx, e0⟩ | ⟨hx, hy, e0⟩
        · rw [e0]
          refine r_iconstZ hX dX4_anewClock_27 ?_
          exact r_iret hX hE dX4_anewClock_28 (Nat.le_of_ble_eq_true rfl) (Nat.le_of_ble_eq_true rfl) ⟨_, rfl, Or.inr (Or.inl ⟨by omega, rfl⟩)⟩
        · exact absurd hx (by decide)
set_option maxHeartbeats 4000000 in
set_option maxRecDepth 20000 in
theorem z_X4_ofClock (ad ae : Nat → Nat) (cs : ClassId × ClassId × ClassId) (K : mK) (S : mS) (th : Int32) (rest : va_W) (hS : sWF S) (a0 : Int) (h0 : rJ a0) (a1 : Int) (h1 : rJ a1)  : mCt (mTy cs) yX4_ofClock cX4_ofClock 3 (some .int) ⟨7, 1, 4, 164⟩ [.ref (ae 0), .int (iZ a0), .int (iZ a1)] (mRw ad ae cs K (mJof S th) rest) (fun v ws' => ∃ r : Int32, v = some (.int r) ∧ (((((0 ≤ a0 ∧ a0 < 3)) ∧ (0 ≤ a1 ∧ a1 ≤ 5)) ∧ r = iZ (zCP (sse S (a0.toNat + 4)) (sna S (a0.toNat + 4)) (sow S (a0.toNat + 4)) a1) ∧ ws' = mRw ad ae cs K (mJof S 0) rest) ∨ (¬ ((0 ≤ a0 ∧ a0 < 3)) ∧ ws' = mRw ad ae cs K (mJof S 1) rest) ∨ (((0 ≤ a0 ∧ a0 < 3)) ∧ ¬ (0 ≤ a1 ∧ a1 ≤ 5) ∧ ws' = mRw ad ae cs K (mJof S 2) rest))) mNo := by
  refine mCt.of (by decide +kernel) (Nat.le_of_ble_eq_true rfl) (fun X hX hE => ?_)
  replace hX : mOK X RX4 cX4_ofClock 3 ⟨7, 1, 4, 164⟩ [] (mTy cs) := hX
  refine r_aload_n hX dX4_ofClock_0 rfl rfl ?_
  refine r_iload_n hX dX4_ofClock_1 rfl rfl ?_
  refine r_callS hX (z_X4_isNoClock _ _ _ (by omega)) ks_X4_205 rfl rfl (Nat.le_of_ble_eq_true rfl) ⟨(Nat.le_of_ble_eq_true rfl), (Nat.le_of_ble_eq_true rfl)⟩ ⟨(Nat.le_of_ble_eq_true rfl), (Nat.le_of_ble_eq_true rfl)⟩ dX4_ofClock_2 (fun _ _ z => False.elim z) (fun v9 ws9 h1 => ?_)
  obtain ⟨rfl, hw9⟩ := h1
  subst ws9
  dsimp only [mPush]
  refine r_iload_n hX dX4_ofClock_5 rfl rfl ?_
  refine r_i2lZ hX dX4_ofClock_6 (by omega) ?_
  refine r_lconstZ (v := 0) hX dX4_ofClock_7 rfl ?_
  refine r_ldc2Z (z := 5) hX kc_X4_214 (by decide) dX4_ofClock_8 ?_
  refine r_callS hX (z_X4_isIn _ _ _ _ _ (by omega) (by omega) (by omega)) ks_X4_38 rfl rfl (Nat.le_of_ble_eq_true rfl) ⟨(Nat.le_of_ble_eq_true rfl), (Nat.le_of_ble_eq_true rfl)⟩ ⟨(Nat.le_of_ble_eq_true rfl), (Nat.le_of_ble_eq_true rfl)⟩ dX4_ofClock_11 (fun _ _ z => False.elim z) (fun v9 ws9 h2 => ?_)
  obtain ⟨rfl, hw9⟩ := h2
  subst ws9
  dsimp only [mPush]
  refine r_if_neB (tgt := 21) hX dX4_ofClock_14 (by decide) (fun c3 => ?_) (fun c3 => ?_)
  · have c3 := of_decide_eq_true c3
    refine r_iconst (v := b2i false) hX dX4_ofClock_21 (by decide) ?_
    refine r_callV hX (z_X4_isStopped ad ae cs K S th rest (decide (¬ (0 ≤ a0 ∧ a0 < 3))) false) kv_X4_68 14 rfl rfl rfl rfl (Nat.le_of_ble_eq_true rfl) ⟨(Nat.le_of_ble_eq_true rfl), (Nat.le_of_ble_eq_true rfl)⟩ ⟨(Nat.le_of_ble_eq_true rfl), (Nat.le_of_ble_eq_true rfl)⟩ dX4_ofClock_22 (fun _ _ z => False.elim z) (fun v9 ws9 h4 => ?_)
    obtain ⟨rfl, hw9⟩ := h4
    subst ws9
    dsimp only [mPush]
    refine r_if_eqB (tgt := 32) hX dX4_ofClock_25 (by decide) (fun c5 => ?_) (fun c5 => ?_)
    · obtain ⟨⟨hx, hy⟩, e0⟩ := zst0 c5
      have hx := of_decide_eq_false hx
      rw [e0]
      refine r_aload_n hX dX4_ofClock_32 rfl rfl ?_
      refine r_iload_n hX dX4_ofClock_33 rfl rfl ?_
      refine r_iload_n hX dX4_ofClock_34 rfl rfl ?_
      refine r_callV hX (z_X4_clockTold ad ae cs K S 0 rest hS _ (a0).toNat (by omega) (by omega) _ (by omega)) kv_X4_216 14 rfl rfl rfl rfl (Nat.le_of_ble_eq_true rfl) ⟨(Nat.le_of_ble_eq_true rfl), (Nat.le_of_ble_eq_true rfl)⟩ ⟨(Nat.le_of_ble_eq_true rfl), (Nat.le_of_ble_eq_true rfl)⟩ dX4_ofClock_35 (fun _ _ z => False.elim z) (fun v9 ws9 h6 => ?_)
      obtain ⟨rfl, hw9⟩ := h6
      subst ws9
      dsimp only [mPush]
      refine r_iret hX hE dX4_ofClock_38 (Nat.le_of_ble_eq_true rfl) (Nat.le_of_ble_eq_true rfl) ⟨_, rfl, Or.inl ⟨by omega, congrArg iZ ?_, rfl⟩⟩
      rfl
    · rcases zst1 c5 with ⟨hx, e0⟩ | ⟨hx, hy, e0⟩
      · rw [e0]
        have hx := of_decide_eq_true hx
        refine r_iconstZ hX dX4_ofClock_28 ?_
        refine r_goto (tgt := 38) hX dX4_ofClock_29 (by decide) ?_
        exact r_iret hX hE dX4_ofClock_38 (Nat.le_of_ble_eq_true rfl) (Nat.le_of_ble_eq_true rfl) ⟨_, rfl, Or.inr (Or.inl ⟨by omega, rfl⟩)⟩
      · exact absurd hy (by decide)
  · have c3 := of_decide_eq_false c3
    refine r_iconst (v := b2i true) hX dX4_ofClock_17 (by decide) ?_
    refine r_goto (tgt := 22) hX dX4_ofClock_18 (by decide) ?_
    refine r_callV hX (z_X4_isStopped ad ae cs K S th rest (decide (¬ (0 ≤ a0 ∧ a0 < 3))) true) kv_X4_68 14 rfl rfl rfl rfl (Nat.le_of_ble_eq_true rfl) ⟨(Nat.le_of_ble_eq_true rfl), (Nat.le_of_ble_eq_true rfl)⟩ ⟨(Nat.le_of_ble_eq_true rfl), (Nat.le_of_ble_eq_true rfl)⟩ dX4_ofClock_22 (fun _ _ z => False.elim z) (fun v9 ws9 h7 => ?_)
    obtain ⟨rfl, hw9⟩ := h7
    subst ws9
    dsimp only [mPush]
    refine r_if_eqB (tgt := 32) hX dX4_ofClock_25 (by decide) (fun c8 => ?_) (fun c8 => ?_)
    · exact absurd c8 (by simp)
    · rcases zst1 c8 with ⟨hx, e0⟩ | ⟨hx, hy, e0⟩
      · rw [e0]
        have hx := of_decide_eq_true hx
        refine r_iconstZ hX dX4_ofClock_28 ?_
        refine r_goto (tgt := 38) hX dX4_ofClock_29 (by decide) ?_
        exact r_iret hX hE dX4_ofClock_38 (Nat.le_of_ble_eq_true rfl) (Nat.le_of_ble_eq_true rfl) ⟨_, rfl, Or.inr (Or.inl ⟨by omega, rfl⟩)⟩
      · rw [e0]
        have hx := of_decide_eq_false hx
        refine r_iconstZ hX dX4_ofClock_28 ?_
        refine r_goto (tgt := 38) hX dX4_ofClock_29 (by decide) ?_
        exact r_iret hX hE dX4_ofClock_38 (Nat.le_of_ble_eq_true rfl) (Nat.le_of_ble_eq_true rfl) ⟨_, rfl, Or.inr (Or.inr ⟨by omega, by omega, rfl⟩)⟩
set_option maxHeartbeats 4000000 in
set_option maxRecDepth 20000 in
theorem z_X4_orderClock (ad ae : Nat → Nat) (cs : ClassId × ClassId × ClassId) (K : mK) (S : mS) (th : Int32) (rest : va_W) (hS : sWF S) (a0 : Int) (h0 : rJ a0) (a1 : Int) (h1 : rJ a1)  : mCt (mTy cs) yX4_orderClock cX4_orderClock 3 (some .int) ⟨3, 0, 0, 65⟩ [.ref (ae 0), .int (iZ a0), .int (iZ a1)] (mRw ad ae cs K (mJof S th) rest) (fun v ws' => ∃ r : Int32, v = some (.int r) ∧ (((((0 ≤ a0 ∧ a0 < 3) ∧ (0 ≤ a1 ∧ a1 < 3)) ∧ (0 ≤ (0 : Int))) ∧ r = iZ (zTo (sse S (a0.toNat + 4)) (sna S (a0.toNat + 4)) (sow S (a0.toNat + 4)) (sse S (a1.toNat + 4)) (sna S (a1.toNat + 4)) (sow S (a1.toNat + 4))) ∧ ws' = mRw ad ae cs K (mJof S 0) rest) ∨ (¬ ((0 ≤ a0 ∧ a0 < 3) ∧ (0 ≤ a1 ∧ a1 < 3)) ∧ ws' = mRw ad ae cs K (mJof S 1) rest) ∨ (((0 ≤ a0 ∧ a0 < 3) ∧ (0 ≤ a1 ∧ a1 < 3)) ∧ ¬ (0 ≤ (0 : Int)) ∧ ws' = mRw ad ae cs K (mJof S 2) rest))) mNo := by
  refine mCt.of (by decide +kernel) (Nat.le_of_ble_eq_true rfl) (fun X hX hE => ?_)
  replace hX : mOK X RX4 cX4_orderClock 3 ⟨3, 0, 0, 65⟩ [] (mTy cs) := hX
  refine r_aload_n hX dX4_orderClock_0 rfl rfl ?_
  refine r_iload_n hX dX4_orderClock_1 rfl rfl ?_
  refine r_callS hX (z_X4_isNoClock _ _ _ (by omega)) ks_X4_205 rfl rfl (Nat.le_of_ble_eq_true rfl) ⟨(Nat.le_of_ble_eq_true rfl), (Nat.le_of_ble_eq_true rfl)⟩ ⟨(Nat.le_of_ble_eq_true rfl), (Nat.le_of_ble_eq_true rfl)⟩ dX4_orderClock_2 (fun _ _ z => False.elim z) (fun v9 ws9 h1 => ?_)
  obtain ⟨rfl, hw9⟩ := h1
  subst ws9
  dsimp only [mPush]
  refine r_if_neB (tgt := 15) hX dX4_orderClock_5 (by decide) (fun c2 => ?_) (fun c2 => ?_)
  · have c2 := of_decide_eq_true c2
    refine r_iconst (v := b2i true) hX dX4_orderClock_15 (by decide) ?_
    refine r_goto (tgt := 20) hX dX4_orderClock_16 (by decide) ?_
    refine r_iconst (v := b2i false) hX dX4_orderClock_20 (by decide) ?_
    refine r_callV hX (z_X4_isStopped ad ae cs K S th rest true false) kv_X4_68 14 rfl rfl rfl rfl (Nat.le_of_ble_eq_true rfl) ⟨(Nat.le_of_ble_eq_true rfl), (Nat.le_of_ble_eq_true rfl)⟩ ⟨(Nat.le_of_ble_eq_true rfl), (Nat.le_of_ble_eq_true rfl)⟩ dX4_orderClock_21 (fun _ _ z => False.elim z) (fun v9 ws9 h3 => ?_)
    obtain ⟨rfl, hw9⟩ := h3
    subst ws9
    dsimp only [mPush]
    refine r_if_eqB (tgt := 31) hX dX4_orderClock_24 (by decide) (fun c4 => ?_) (fun c4 => ?_)
    · exact absurd c4 (by simp)
    · rcases zst1 c4 with ⟨hx, e0⟩ | ⟨hx, hy, e0⟩
      · rw [e0]
        refine r_iconstZ hX dX4_orderClock_27 ?_
        refine r_goto (tgt := 41) hX dX4_orderClock_28 (by decide) ?_
        exact r_iret hX hE dX4_orderClock_41 (Nat.le_of_ble_eq_true rfl) (Nat.le_of_ble_eq_true rfl) ⟨_, rfl, Or.inr (Or.inl ⟨by omega, rfl⟩)⟩
      · exact absurd hx (by decide)
  · have c2 := of_decide_eq_false c2
    refine r_iload_n hX dX4_orderClock_8 rfl rfl ?_
    refine r_callS hX (z_X4_isNoClock _ _ _ (by omega)) ks_X4_205 rfl rfl (Nat.le_of_ble_eq_true rfl) ⟨(Nat.le_of_ble_eq_true rfl), (Nat.le_of_ble_eq_true rfl)⟩ ⟨(Nat.le_of_ble_eq_true rfl), (Nat.le_of_ble_eq_true rfl)⟩ dX4_orderClock_9 (fun _ _ z => False.elim z) (fun v9 ws9 h5 => ?_)
    obtain ⟨rfl, hw9⟩ := h5
    subst ws9
    dsimp only [mPush]
    refine r_if_eqB (tgt := 19) hX dX4_orderClock_12 (by decide) (fun c6 => ?_) (fun c6 => ?_)
    · have c6 := of_decide_eq_false c6
      refine r_iconst (v := b2i false) hX dX4_orderClock_19 (by decide) ?_
      refine r_iconst (v := b2i false) hX dX4_orderClock_20 (by decide) ?_
      refine r_callV hX (z_X4_isStopped ad ae cs K S th rest false false) kv_X4_68 14 rfl rfl rfl rfl (Nat.le_of_ble_eq_true rfl) ⟨(Nat.le_of_ble_eq_true rfl), (Nat.le_of_ble_eq_true rfl)⟩ ⟨(Nat.le_of_ble_eq_true rfl), (Nat.le_of_ble_eq_true rfl)⟩ dX4_orderClock_21 (fun _ _ z => False.elim z) (fun v9 ws9 h7 => ?_)
      obtain ⟨rfl, hw9⟩ := h7
      subst ws9
      dsimp only [mPush]
      refine r_if_eqB (tgt := 31) hX dX4_orderClock_24 (by decide) (fun c8 => ?_) (fun c8 => ?_)
      · obtain ⟨⟨hx, hy⟩, e0⟩ := zst0 c8
        rw [e0]
        refine r_aload_n hX dX4_orderClock_31 rfl rfl ?_
        refine r_iconstZ hX dX4_orderClock_32 ?_
        refine r_iload_n hX dX4_orderClock_33 rfl rfl ?_
        refine r_iaddZ hX dX4_orderClock_34 ?_
        refine r_iconstZ hX dX4_orderClock_35 ?_
        refine r_iload_n hX dX4_orderClock_36 rfl rfl ?_
        refine r_iaddZ hX dX4_orderClock_37 ?_
        refine r_callV hX (z_X4_ordered ad ae cs K S 0 rest hS _ (a0.toNat + 4) (by omega) (by omega) _ (a1.toNat + 4) (by omega) (by omega)) kv_X4_196 14 rfl rfl rfl rfl (Nat.le_of_ble_eq_true rfl) ⟨(Nat.le_of_ble_eq_true rfl), (Nat.le_of_ble_eq_true rfl)⟩ ⟨(Nat.le_of_ble_eq_true rfl), (Nat.le_of_ble_eq_true rfl)⟩ dX4_orderClock_38 (fun _ _ z => False.elim z) (fun v9 ws9 h9 => ?_)
        obtain ⟨rfl, hw9⟩ := h9
        subst ws9
        dsimp only [mPush]
        have hto9 := zTo_b (sse S (a0.toNat + 4)) (sna S (a0.toNat + 4)) (sow S (a0.toNat + 4)) (sse S (a1.toNat + 4)) (sna S (a1.toNat + 4)) (sow S (a1.toNat + 4))
        refine r_iret hX hE dX4_orderClock_41 (Nat.le_of_ble_eq_true rfl) (Nat.le_of_ble_eq_true rfl) ⟨_, rfl, Or.inl ⟨by omega, congrArg iZ ?_, rfl⟩⟩
        rfl
      · rcases zst1 c8 with ⟨hx, e0⟩ | ⟨hx, hy, e0⟩
        · exact absurd hx (by decide)
        · exact absurd hy (by decide)
    · have c6 := of_decide_eq_true c6
      refine r_iconst (v := b2i true) hX dX4_orderClock_15 (by decide) ?_
      refine r_goto (tgt := 20) hX dX4_orderClock_16 (by decide) ?_
      refine r_iconst (v := b2i false) hX dX4_orderClock_20 (by decide) ?_
      refine r_callV hX (z_X4_isStopped ad ae cs K S th rest true false) kv_X4_68 14 rfl rfl rfl rfl (Nat.le_of_ble_eq_true rfl) ⟨(Nat.le_of_ble_eq_true rfl), (Nat.le_of_ble_eq_true rfl)⟩ ⟨(Nat.le_of_ble_eq_true rfl), (Nat.le_of_ble_eq_true rfl)⟩ dX4_orderClock_21 (fun _ _ z => False.elim z) (fun v9 ws9 h10 => ?_)
      obtain ⟨rfl, hw9⟩ := h10
      subst ws9
      dsimp only [mPush]
      refine r_if_eqB (tgt := 31) hX dX4_orderClock_24 (by decide) (fun c11 => ?_) (fun c11 => ?_)
      · exact absurd c11 (by simp)
      · rcases zst1 c11 with ⟨hx, e0⟩ | ⟨hx, hy, e0⟩
        · rw [e0]
          refine r_iconstZ hX dX4_orderClock_27 ?_
          refine r_goto (tgt := 41) hX dX4_orderClock_28 (by decide) ?_
          exact r_iret hX hE dX4_orderClock_41 (Nat.le_of_ble_eq_true rfl) (Nat.le_of_ble_eq_true rfl) ⟨_, rfl, Or.inr (Or.inl ⟨by omega, rfl⟩)⟩
        · exact absurd hx (by decide)
set_option maxHeartbeats 4000000 in
set_option maxRecDepth 20000 in
theorem z_X4_isClock (ad ae : Nat → Nat) (cs : ClassId × ClassId × ClassId) (K : mK) (S : mS) (th : Int32) (rest : va_W) (hS : sWF S) (a0 : Int) (h0 : rJ a0) (a1 : Int) (h1 : rJ a1) (a2 : Int) (h2 : rJ a2)  : mCt (mTy cs) yX4_isClock cX4_isClock 4 (some .boolean) ⟨3, 0, 0, 66⟩ [.ref (ae 0), .int (iZ a0), .int (iZ a1), .int (iZ a2)] (mRw ad ae cs K (mJof S th) rest) (fun v ws' => ∃ r : Int32, v = some (.int r) ∧ (((((0 ≤ a0 ∧ a0 < 3) ∧ (0 ≤ a1 ∧ a1 < 3)) ∧ (0 ≤ a2 ∧ a2 ≤ 3)) ∧ r = b2i (zSo (sse S (a0.toNat + 4)) (sna S (a0.toNat + 4)) (sow S (a0.toNat + 4)) (sse S (a1.toNat + 4)) (sna S (a1.toNat + 4)) (sow S (a1.toNat + 4)) a2) ∧ ws' = mRw ad ae cs K (mJof S 0) rest) ∨ (¬ ((0 ≤ a0 ∧ a0 < 3) ∧ (0 ≤ a1 ∧ a1 < 3)) ∧ ws' = mRw ad ae cs K (mJof S 1) rest) ∨ (((0 ≤ a0 ∧ a0 < 3) ∧ (0 ≤ a1 ∧ a1 < 3)) ∧ ¬ (0 ≤ a2 ∧ a2 ≤ 3) ∧ ws' = mRw ad ae cs K (mJof S 2) rest))) mNo := by
  refine mCt.of (by decide +kernel) (Nat.le_of_ble_eq_true rfl) (fun X hX hE => ?_)
  replace hX : mOK X RX4 cX4_isClock 4 ⟨3, 0, 0, 66⟩ [] (mTy cs) := hX
  refine r_aload_n hX dX4_isClock_0 rfl rfl ?_
  refine r_iload_n hX dX4_isClock_1 rfl rfl ?_
  refine r_callS hX (z_X4_isNoClock _ _ _ (by omega)) ks_X4_205 rfl rfl (Nat.le_of_ble_eq_true rfl) ⟨(Nat.le_of_ble_eq_true rfl), (Nat.le_of_ble_eq_true rfl)⟩ ⟨(Nat.le_of_ble_eq_true rfl), (Nat.le_of_ble_eq_true rfl)⟩ dX4_isClock_2 (fun _ _ z => False.elim z) (fun v9 ws9 h1 => ?_)
  obtain ⟨rfl, hw9⟩ := h1
  subst ws9
  dsimp only [mPush]
  refine r_if_neB (tgt := 15) hX dX4_isClock_5 (by decide) (fun c2 => ?_) (fun c2 => ?_)
  · have c2 := of_decide_eq_true c2
    refine r_iconst (v := b2i true) hX dX4_isClock_15 (by decide) ?_
    refine r_goto (tgt := 20) hX dX4_isClock_16 (by decide) ?_
    refine r_iload_n hX dX4_isClock_20 rfl rfl ?_
    refine r_i2lZ hX dX4_isClock_21 (by omega) ?_
    refine r_lconstZ (v := 0) hX dX4_isClock_22 rfl ?_
    refine r_ldc2Z (z := 3) hX kc_X4_36 (by decide) dX4_isClock_23 ?_
    refine r_callS hX (z_X4_isIn _ _ _ _ _ (by omega) (by omega) (by omega)) ks_X4_38 rfl rfl (Nat.le_of_ble_eq_true rfl) ⟨(Nat.le_of_ble_eq_true rfl), (Nat.le_of_ble_eq_true rfl)⟩ ⟨(Nat.le_of_ble_eq_true rfl), (Nat.le_of_ble_eq_true rfl)⟩ dX4_isClock_26 (fun _ _ z => False.elim z) (fun v9 ws9 h3 => ?_)
    obtain ⟨rfl, hw9⟩ := h3
    subst ws9
    dsimp only [mPush]
    refine r_if_neB (tgt := 36) hX dX4_isClock_29 (by decide) (fun c4 => ?_) (fun c4 => ?_)
    · have c4 := of_decide_eq_true c4
      refine r_iconst (v := b2i false) hX dX4_isClock_36 (by decide) ?_
      refine r_callV hX (z_X4_isStopped ad ae cs K S th rest true false) kv_X4_68 14 rfl rfl rfl rfl (Nat.le_of_ble_eq_true rfl) ⟨(Nat.le_of_ble_eq_true rfl), (Nat.le_of_ble_eq_true rfl)⟩ ⟨(Nat.le_of_ble_eq_true rfl), (Nat.le_of_ble_eq_true rfl)⟩ dX4_isClock_37 (fun _ _ z => False.elim z) (fun v9 ws9 h5 => ?_)
      obtain ⟨rfl, hw9⟩ := h5
      subst ws9
      dsimp only [mPush]
      refine r_if_neB (tgt := 61) hX dX4_isClock_40 (by decide) (fun c6 => ?_) (fun c6 => ?_)
      · rcases zst1 c6 with ⟨hx, e0⟩ | ⟨hx, hy, e0⟩
        · rw [e0]
          refine r_iconstZ hX dX4_isClock_61 ?_
          exact r_zret hX hE dX4_isClock_62 (by decide) (Nat.le_of_ble_eq_true rfl) (Nat.le_of_ble_eq_true rfl) ⟨_, rfl, Or.inr (Or.inl ⟨by omega, rfl⟩)⟩
        · exact absurd hx (by decide)
      · exact absurd c6 (by simp)
    · have c4 := of_decide_eq_false c4
      refine r_iconst (v := b2i true) hX dX4_isClock_32 (by decide) ?_
      refine r_goto (tgt := 37) hX dX4_isClock_33 (by decide) ?_
      refine r_callV hX (z_X4_isStopped ad ae cs K S th rest true true) kv_X4_68 14 rfl rfl rfl rfl (Nat.le_of_ble_eq_true rfl) ⟨(Nat.le_of_ble_eq_true rfl), (Nat.le_of_ble_eq_true rfl)⟩ ⟨(Nat.le_of_ble_eq_true rfl), (Nat.le_of_ble_eq_true rfl)⟩ dX4_isClock_37 (fun _ _ z => False.elim z) (fun v9 ws9 h7 => ?_)
      obtain ⟨rfl, hw9⟩ := h7
      subst ws9
      dsimp only [mPush]
      refine r_if_neB (tgt := 61) hX dX4_isClock_40 (by decide) (fun c8 => ?_) (fun c8 => ?_)
      · rcases zst1 c8 with ⟨hx, e0⟩ | ⟨hx, hy, e0⟩
        · rw [e0]
          refine r_iconstZ hX dX4_isClock_61 ?_
          exact r_zret hX hE dX4_isClock_62 (by decide) (Nat.le_of_ble_eq_true rfl) (Nat.le_of_ble_eq_true rfl) ⟨_, rfl, Or.inr (Or.inl ⟨by omega, rfl⟩)⟩
        · exact absurd hx (by decide)
      · exact absurd c8 (by simp)
  · have c2 := of_decide_eq_false c2
    refine r_iload_n hX dX4_isClock_8 rfl rfl ?_
    refine r_callS hX (z_X4_isNoClock _ _ _ (by omega)) ks_X4_205 rfl rfl (Nat.le_of_ble_eq_true rfl) ⟨(Nat.le_of_ble_eq_true rfl), (Nat.le_of_ble_eq_true rfl)⟩ ⟨(Nat.le_of_ble_eq_true rfl), (Nat.le_of_ble_eq_true rfl)⟩ dX4_isClock_9 (fun _ _ z => False.elim z) (fun v9 ws9 h9 => ?_)
    obtain ⟨rfl, hw9⟩ := h9
    subst ws9
    dsimp only [mPush]
    refine r_if_eqB (tgt := 19) hX dX4_isClock_12 (by decide) (fun c10 => ?_) (fun c10 => ?_)
    · have c10 := of_decide_eq_false c10
      refine r_iconst (v := b2i false) hX dX4_isClock_19 (by decide) ?_
      refine r_iload_n hX dX4_isClock_20 rfl rfl ?_
      refine r_i2lZ hX dX4_isClock_21 (by omega) ?_
      refine r_lconstZ (v := 0) hX dX4_isClock_22 rfl ?_
      refine r_ldc2Z (z := 3) hX kc_X4_36 (by decide) dX4_isClock_23 ?_
      refine r_callS hX (z_X4_isIn _ _ _ _ _ (by omega) (by omega) (by omega)) ks_X4_38 rfl rfl (Nat.le_of_ble_eq_true rfl) ⟨(Nat.le_of_ble_eq_true rfl), (Nat.le_of_ble_eq_true rfl)⟩ ⟨(Nat.le_of_ble_eq_true rfl), (Nat.le_of_ble_eq_true rfl)⟩ dX4_isClock_26 (fun _ _ z => False.elim z) (fun v9 ws9 h11 => ?_)
      obtain ⟨rfl, hw9⟩ := h11
      subst ws9
      dsimp only [mPush]
      refine r_if_neB (tgt := 36) hX dX4_isClock_29 (by decide) (fun c12 => ?_) (fun c12 => ?_)
      · have c12 := of_decide_eq_true c12
        refine r_iconst (v := b2i false) hX dX4_isClock_36 (by decide) ?_
        refine r_callV hX (z_X4_isStopped ad ae cs K S th rest false false) kv_X4_68 14 rfl rfl rfl rfl (Nat.le_of_ble_eq_true rfl) ⟨(Nat.le_of_ble_eq_true rfl), (Nat.le_of_ble_eq_true rfl)⟩ ⟨(Nat.le_of_ble_eq_true rfl), (Nat.le_of_ble_eq_true rfl)⟩ dX4_isClock_37 (fun _ _ z => False.elim z) (fun v9 ws9 h13 => ?_)
        obtain ⟨rfl, hw9⟩ := h13
        subst ws9
        dsimp only [mPush]
        refine r_if_neB (tgt := 61) hX dX4_isClock_40 (by decide) (fun c14 => ?_) (fun c14 => ?_)
        · rcases zst1 c14 with ⟨hx, e0⟩ | ⟨hx, hy, e0⟩
          · exact absurd hx (by decide)
          · exact absurd hy (by decide)
        · obtain ⟨⟨hx, hy⟩, e0⟩ := zst0 c14
          rw [e0]
          refine r_aload_n hX dX4_isClock_43 rfl rfl ?_
          refine r_iconstZ hX dX4_isClock_44 ?_
          refine r_iload_n hX dX4_isClock_45 rfl rfl ?_
          refine r_iaddZ hX dX4_isClock_46 ?_
          refine r_iconstZ hX dX4_isClock_47 ?_
          refine r_iload_n hX dX4_isClock_48 rfl rfl ?_
          refine r_iaddZ hX dX4_isClock_49 ?_
          refine r_iload_n hX dX4_isClock_50 rfl rfl ?_
          refine r_callV hX (z_X4_is ad ae cs K S 0 rest hS _ (a0.toNat + 4) (by omega) (by omega) _ (a1.toNat + 4) (by omega) (by omega) _ (by omega)) kv_X4_199 14 rfl rfl rfl rfl (Nat.le_of_ble_eq_true rfl) ⟨(Nat.le_of_ble_eq_true rfl), (Nat.le_of_ble_eq_true rfl)⟩ ⟨(Nat.le_of_ble_eq_true rfl), (Nat.le_of_ble_eq_true rfl)⟩ dX4_isClock_51 (fun _ _ z => False.elim z) (fun v9 ws9 h15 => ?_)
          obtain ⟨rfl, hw9⟩ := h15
          subst ws9
          dsimp only [mPush]
          refine r_if_eqB (tgt := 61) hX dX4_isClock_54 (by decide) (fun c16 => ?_) (fun c16 => ?_)
          · have c16 := id c16
            refine r_iconstZ hX dX4_isClock_61 ?_
            refine r_zret hX hE dX4_isClock_62 (by decide) (Nat.le_of_ble_eq_true rfl) (Nat.le_of_ble_eq_true rfl) ⟨_, rfl, Or.inl ⟨by omega, ?_, rfl⟩⟩
            exact (b2i_f (by assumption)).symm
          · have c16 := id c16
            refine r_iconstZ hX dX4_isClock_57 ?_
            refine r_goto (tgt := 62) hX dX4_isClock_58 (by decide) ?_
            refine r_zret hX hE dX4_isClock_62 (by decide) (Nat.le_of_ble_eq_true rfl) (Nat.le_of_ble_eq_true rfl) ⟨_, rfl, Or.inl ⟨by omega, ?_, rfl⟩⟩
            exact (b2i_t (by assumption)).symm
      · have c12 := of_decide_eq_false c12
        refine r_iconst (v := b2i true) hX dX4_isClock_32 (by decide) ?_
        refine r_goto (tgt := 37) hX dX4_isClock_33 (by decide) ?_
        refine r_callV hX (z_X4_isStopped ad ae cs K S th rest false true) kv_X4_68 14 rfl rfl rfl rfl (Nat.le_of_ble_eq_true rfl) ⟨(Nat.le_of_ble_eq_true rfl), (Nat.le_of_ble_eq_true rfl)⟩ ⟨(Nat.le_of_ble_eq_true rfl), (Nat.le_of_ble_eq_true rfl)⟩ dX4_isClock_37 (fun _ _ z => False.elim z) (fun v9 ws9 h17 => ?_)
        obtain ⟨rfl, hw9⟩ := h17
        subst ws9
        dsimp only [mPush]
        refine r_if_neB (tgt := 61) hX dX4_isClock_40 (by decide) (fun c18 => ?_) (fun c18 => ?_)
        · rcases zst1 c18 with ⟨hx, e0⟩ | ⟨hx, hy, e0⟩
          · exact absurd hx (by decide)
          · rw [e0]
            refine r_iconstZ hX dX4_isClock_61 ?_
            exact r_zret hX hE dX4_isClock_62 (by decide) (Nat.le_of_ble_eq_true rfl) (Nat.le_of_ble_eq_true rfl) ⟨_, rfl, Or.inr (Or.inr ⟨by omega, by omega, rfl⟩)⟩
        · exact absurd c18 (by simp)
    · have c10 := of_decide_eq_true c10
      refine r_iconst (v := b2i true) hX dX4_isClock_15 (by decide) ?_
      refine r_goto (tgt := 20) hX dX4_isClock_16 (by decide) ?_
      refine r_iload_n hX dX4_isClock_20 rfl rfl ?_
      refine r_i2lZ hX dX4_isClock_21 (by omega) ?_
      refine r_lconstZ (v := 0) hX dX4_isClock_22 rfl ?_
      refine r_ldc2Z (z := 3) hX kc_X4_36 (by decide) dX4_isClock_23 ?_
      refine r_callS hX (z_X4_isIn _ _ _ _ _ (by omega) (by omega) (by omega)) ks_X4_38 rfl rfl (Nat.le_of_ble_eq_true rfl) ⟨(Nat.le_of_ble_eq_true rfl), (Nat.le_of_ble_eq_true rfl)⟩ ⟨(Nat.le_of_ble_eq_true rfl), (Nat.le_of_ble_eq_true rfl)⟩ dX4_isClock_26 (fun _ _ z => False.elim z) (fun v9 ws9 h19 => ?_)
      obtain ⟨rfl, hw9⟩ := h19
      subst ws9
      dsimp only [mPush]
      refine r_if_neB (tgt := 36) hX dX4_isClock_29 (by decide) (fun c20 => ?_) (fun c20 => ?_)
      · have c20 := of_decide_eq_true c20
        refine r_iconst (v := b2i false) hX dX4_isClock_36 (by decide) ?_
        refine r_callV hX (z_X4_isStopped ad ae cs K S th rest true false) kv_X4_68 14 rfl rfl rfl rfl (Nat.le_of_ble_eq_true rfl) ⟨(Nat.le_of_ble_eq_true rfl), (Nat.le_of_ble_eq_true rfl)⟩ ⟨(Nat.le_of_ble_eq_true rfl), (Nat.le_of_ble_eq_true rfl)⟩ dX4_isClock_37 (fun _ _ z => False.elim z) (fun v9 ws9 h21 => ?_)
        obtain ⟨rfl, hw9⟩ := h21
        subst ws9
        dsimp only [mPush]
        refine r_if_neB (tgt := 61) hX dX4_isClock_40 (by decide) (fun c22 => ?_) (fun c22 => ?_)
        · rcases zst1 c22 with ⟨hx, e0⟩ | ⟨hx, hy, e0⟩
          · rw [e0]
            refine r_iconstZ hX dX4_isClock_61 ?_
            exact r_zret hX hE dX4_isClock_62 (by decide) (Nat.le_of_ble_eq_true rfl) (Nat.le_of_ble_eq_true rfl) ⟨_, rfl, Or.inr (Or.inl ⟨by omega, rfl⟩)⟩
          · exact absurd hx (by decide)
        · exact absurd c22 (by simp)
      · have c20 := of_decide_eq_false c20
        refine r_iconst (v := b2i true) hX dX4_isClock_32 (by decide) ?_
        refine r_goto (tgt := 37) hX dX4_isClock_33 (by decide) ?_
        refine r_callV hX (z_X4_isStopped ad ae cs K S th rest true true) kv_X4_68 14 rfl rfl rfl rfl (Nat.le_of_ble_eq_true rfl) ⟨(Nat.le_of_ble_eq_true rfl), (Nat.le_of_ble_eq_true rfl)⟩ ⟨(Nat.le_of_ble_eq_true rfl), (Nat.le_of_ble_eq_true rfl)⟩ dX4_isClock_37 (fun _ _ z => False.elim z) (fun v9 ws9 h23 => ?_)
        obtain ⟨rfl, hw9⟩ := h23
        subst ws9
        dsimp only [mPush]
        refine r_if_neB (tgt := 61) hX dX4_isClock_40 (by decide) (fun c24 => ?_) (fun c24 => ?_)
        · rcases zst1 c24 with ⟨hx, e0⟩ | ⟨hx, hy, e0⟩
          · rw [e0]
            refine r_iconstZ hX dX4_isClock_61 ?_
            exact r_zret hX hE dX4_isClock_62 (by decide) (Nat.le_of_ble_eq_true rfl) (Nat.le_of_ble_eq_true rfl) ⟨_, rfl, Or.inr (Or.inl ⟨by omega, rfl⟩)⟩
          · exact absurd hx (by decide)
        · exact absurd c24 (by simp)

