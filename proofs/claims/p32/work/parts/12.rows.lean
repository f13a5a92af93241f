-- 76 zrclk
section
/-! The reference, exact (rows by a program of this repository). -/
set_option maxHeartbeats 4000000 in
set_option maxRecDepth 20000 in
theorem z_X4_clock (ad ae : Nat → Nat) (cs : ClassId × ClassId × ClassId) (K : mK) (S : mS) (th : Int32) (rest : va_W) (hS : sWF S) (a0 : Int) (h0 : rJ a0) (a1 : Int) (h1 : rJ a1) (a2 : Int) (h2 : rJ a2) (a3 : Int) (h3 : rJ a3)  : mCt (mTy cs) yX4_clock cX4_clock 5 (some .int) ⟨3, 0, 0, 71⟩ [.ref (ae 0), .int (iZ a0), .int (iZ a1), .int (iZ a2), .int (iZ a3)] (mRw ad ae cs K (mJof S th) rest) (fun v ws' => ∃ r : Int32, v = some (.int r) ∧ (((((0 ≤ a0 ∧ a0 < 3) ∧ (0 ≤ a3 ∧ a3 < 4)) ∧ ((0 ≤ a1 ∧ a1 ≤ 86399) ∧ (0 ≤ a2 ∧ a2 ≤ 999999999))) ∧ r = iZ (oClk S a0.toNat a1 a2 (sof S a3.toNat)).1 ∧ ws' = mRw ad ae cs K (mJof (oClk S a0.toNat a1 a2 (sof S a3.toNat)).2 0) rest) ∨ (¬ ((0 ≤ a0 ∧ a0 < 3) ∧ (0 ≤ a3 ∧ a3 < 4)) ∧ ws' = mRw ad ae cs K (mJof S 1) rest) ∨ (((0 ≤ a0 ∧ a0 < 3) ∧ (0 ≤ a3 ∧ a3 < 4)) ∧ ¬ ((0 ≤ a1 ∧ a1 ≤ 86399) ∧ (0 ≤ a2 ∧ a2 ≤ 999999999)) ∧ ws' = mRw ad ae cs K (mJof S 2) rest))) mNo := by
  refine mCt.of (by decide +kernel) (Nat.le_of_ble_eq_true rfl) (fun X hX hE => ?_)
  replace hX : mOK X RX4 cX4_clock 5 ⟨3, 0, 0, 71⟩ [] (mTy cs) := hX
  refine r_aload_n hX dX4_clock_0 rfl rfl (r_iload_n hX dX4_clock_1 rfl rfl (r_callS hX (z_X4_isNoClock _ _ _ (by first | with_reducible assumption | decide | omega)) ks_X4_205 rfl rfl (Nat.le_of_ble_eq_true rfl) ⟨(Nat.le_of_ble_eq_true rfl), (Nat.le_of_ble_eq_true rfl)⟩ ⟨(Nat.le_of_ble_eq_true rfl), (Nat.le_of_ble_eq_true rfl)⟩ dX4_clock_2 (fun _ _ z => False.elim z) (fun v9 ws9 h1 => ?_)))
  obtain ⟨rfl, hw9⟩ := h1
  subst ws9
  dsimp only [mPush]
  refine r_if_neB (tgt := 16) hX dX4_clock_5 (by decide) (fun c2 => ?_) (fun c2 => ?_)
  · have c2 := of_decide_eq_true c2
    refine r_iconst (v := b2i true) hX dX4_clock_16 (by decide) (r_goto (tgt := 21) hX dX4_clock_17 (by decide) (r_iload_n hX dX4_clock_21 rfl rfl (r_iload_n hX dX4_clock_22 rfl rfl (r_callS hX (z_X4_isTime _ _ _ _ (by first | with_reducible assumption | decide | omega) (by first | with_reducible assumption | decide | omega)) ks_X4_155 rfl rfl (Nat.le_of_ble_eq_true rfl) ⟨(Nat.le_of_ble_eq_true rfl), (Nat.le_of_ble_eq_true rfl)⟩ ⟨(Nat.le_of_ble_eq_true rfl), (Nat.le_of_ble_eq_true rfl)⟩ dX4_clock_23 (fun _ _ z => False.elim z) (fun v9 ws9 h3 => ?_)))))
    obtain ⟨rfl, hw9⟩ := h3
    subst ws9
    dsimp only [mPush]
    refine r_if_neB (tgt := 33) hX dX4_clock_26 (by decide) (fun c4 => ?_) (fun c4 => ?_)
    · have c4 := of_decide_eq_true c4
      refine r_iconst (v := b2i false) hX dX4_clock_33 (by decide) (r_callV hX (z_X4_isStopped ad ae cs K S th rest true false) kv_X4_68 14 rfl rfl rfl rfl (Nat.le_of_ble_eq_true rfl) ⟨(Nat.le_of_ble_eq_true rfl), (Nat.le_of_ble_eq_true rfl)⟩ ⟨(Nat.le_of_ble_eq_true rfl), (Nat.le_of_ble_eq_true rfl)⟩ dX4_clock_34 (fun _ _ z => False.elim z) (fun v9 ws9 h5 => ?_))
      obtain ⟨rfl, hw9⟩ := h5
      subst ws9
      dsimp only [mPush]
      refine r_if_eqB (tgt := 44) hX dX4_clock_37 (by decide) (fun c6 => ?_) (fun c6 => ?_)
      · exact absurd c6 (by simp)
      · rcases zst1 c6 with ⟨hx, e0⟩ | ⟨hx, hy, e0⟩
        · rw [e0]
          refine r_iconstZ hX dX4_clock_40 (r_goto (tgt := 59) hX dX4_clock_41 (by decide) ?_)
          exact r_iret hX hE dX4_clock_59 (Nat.le_of_ble_eq_true rfl) (Nat.le_of_ble_eq_true rfl) ⟨_, rfl, Or.inr (Or.inl ⟨by omega, rfl⟩)⟩
        · exact absurd hx (by decide)
    · have c4 := of_decide_eq_false c4
      refine r_iconst (v := b2i true) hX dX4_clock_29 (by decide) (r_goto (tgt := 34) hX dX4_clock_30 (by decide) (r_callV hX (z_X4_isStopped ad ae cs K S th rest true true) kv_X4_68 14 rfl rfl rfl rfl (Nat.le_of_ble_eq_true rfl) ⟨(Nat.le_of_ble_eq_true rfl), (Nat.le_of_ble_eq_true rfl)⟩ ⟨(Nat.le_of_ble_eq_true rfl), (Nat.le_of_ble_eq_true rfl)⟩ dX4_clock_34 (fun _ _ z => False.elim z) (fun v9 ws9 h7 => ?_)))
      obtain ⟨rfl, hw9⟩ := h7
      subst ws9
      dsimp only [mPush]
      refine r_if_eqB (tgt := 44) hX dX4_clock_37 (by decide) (fun c8 => ?_) (fun c8 => ?_)
      · exact absurd c8 (by simp)
      · rcases zst1 c8 with ⟨hx, e0⟩ | ⟨hx, hy, e0⟩
        · rw [e0]
          refine r_iconstZ hX dX4_clock_40 (r_goto (tgt := 59) hX dX4_clock_41 (by decide) ?_)
          exact r_iret hX hE dX4_clock_59 (Nat.le_of_ble_eq_true rfl) (Nat.le_of_ble_eq_true rfl) ⟨_, rfl, Or.inr (Or.inl ⟨by omega, rfl⟩)⟩
        · exact absurd hx (by decide)
  · have c2 := of_decide_eq_false c2
    refine r_iload hX dX4_clock_8 rfl (r_callS hX (z_X4_isNone _ _ _ (by first | with_reducible assumption | decide | omega)) ks_X4_61 rfl rfl (Nat.le_of_ble_eq_true rfl) ⟨(Nat.le_of_ble_eq_true rfl), (Nat.le_of_ble_eq_true rfl)⟩ ⟨(Nat.le_of_ble_eq_true rfl), (Nat.le_of_ble_eq_true rfl)⟩ dX4_clock_10 (fun _ _ z => False.elim z) (fun v9 ws9 h9 => ?_))
    obtain ⟨rfl, hw9⟩ := h9
    subst ws9
    dsimp only [mPush]
    refine r_if_eqB (tgt := 20) hX dX4_clock_13 (by decide) (fun c10 => ?_) (fun c10 => ?_)
    · have c10 := of_decide_eq_false c10
      refine r_iconst (v := b2i false) hX dX4_clock_20 (by decide) (r_iload_n hX dX4_clock_21 rfl rfl (r_iload_n hX dX4_clock_22 rfl rfl (r_callS hX (z_X4_isTime _ _ _ _ (by first | with_reducible assumption | decide | omega) (by first | with_reducible assumption | decide | omega)) ks_X4_155 rfl rfl (Nat.le_of_ble_eq_true rfl) ⟨(Nat.le_of_ble_eq_true rfl), (Nat.le_of_ble_eq_true rfl)⟩ ⟨(Nat.le_of_ble_eq_true rfl), (Nat.le_of_ble_eq_true rfl)⟩ dX4_clock_23 (fun _ _ z => False.elim z) (fun v9 ws9 h11 => ?_))))
      obtain ⟨rfl, hw9⟩ := h11
      subst ws9
      dsimp only [mPush]
      refine r_if_neB (tgt := 33) hX dX4_clock_26 (by decide) (fun c12 => ?_) (fun c12 => ?_)
      · have c12 := of_decide_eq_true c12
        refine r_iconst (v := b2i false) hX dX4_clock_33 (by decide) (r_callV hX (z_X4_isStopped ad ae cs K S th rest false false) kv_X4_68 14 rfl rfl rfl rfl (Nat.le_of_ble_eq_true rfl) ⟨(Nat.le_of_ble_eq_true rfl), (Nat.le_of_ble_eq_true rfl)⟩ ⟨(Nat.le_of_ble_eq_true rfl), (Nat.le_of_ble_eq_true rfl)⟩ dX4_clock_34 (fun _ _ z => False.elim z) (fun v9 ws9 h13 => ?_))
        obtain ⟨rfl, hw9⟩ := h13
        subst ws9
        dsimp only [mPush]
        refine r_if_eqB (tgt := 44) hX dX4_clock_37 (by decide) (fun c14 => ?_) (fun c14 => ?_)
        · obtain ⟨⟨hx, hy⟩, e0⟩ := zst0 c14
          rw [e0]
          have hof := hS.1 a3.toNat (by omega)
          refine r_aload_n hX dX4_clock_44 rfl rfl (r_iload_n hX dX4_clock_45 rfl rfl (r_iload_n hX dX4_clock_46 rfl rfl (r_i2lZ hX dX4_clock_47 (by first | with_reducible assumption | decide | omega) (r_iload_n hX dX4_clock_48 rfl rfl (r_aload_n hX dX4_clock_49 rfl rfl (r_get hX kf_X4_7 14 rfl rfl dX4_clock_50 (r_iload hX dX4_clock_53 rfl ?_)))))))
          refine r_ialdZ hX 15 0 rfl rfl (a3).toNat (by first | with_reducible assumption | decide | omega) (by first | with_reducible assumption | decide | omega) (by decide) dX4_clock_55 (r_callV hX (z_X4_turn ad ae cs K S 0 rest hS _ (a0).toNat (by first | with_reducible assumption | decide | omega) (by first | with_reducible assumption | decide | omega) _ _ _ (by first | with_reducible assumption | decide | omega)) kv_X4_208 14 rfl rfl rfl rfl (Nat.le_of_ble_eq_true rfl) ⟨(Nat.le_of_ble_eq_true rfl), (Nat.le_of_ble_eq_true rfl)⟩ ⟨(Nat.le_of_ble_eq_true rfl), (Nat.le_of_ble_eq_true rfl)⟩ dX4_clock_56 (fun _ _ z => False.elim z) (fun v9 ws9 h15 => ?_))
          obtain ⟨rfl, hw9⟩ := h15
          subst ws9
          dsimp only [mPush]
          refine r_iret hX hE dX4_clock_59 (Nat.le_of_ble_eq_true rfl) (Nat.le_of_ble_eq_true rfl) ⟨_, rfl, Or.inl ⟨by omega, ?_⟩⟩
          exact oeR (oClk_c (by omega) (by omega) (by omega))
        · rcases zst1 c14 with ⟨hx, e0⟩ | ⟨hx, hy, e0⟩
          · exact absurd hx (by decide)
          · exact absurd hy (by decide)
      · have c12 := of_decide_eq_false c12
        refine r_iconst (v := b2i true) hX dX4_clock_29 (by decide) (r_goto (tgt := 34) hX dX4_clock_30 (by decide) (r_callV hX (z_X4_isStopped ad ae cs K S th rest false true) kv_X4_68 14 rfl rfl rfl rfl (Nat.le_of_ble_eq_true rfl) ⟨(Nat.le_of_ble_eq_true rfl), (Nat.le_of_ble_eq_true rfl)⟩ ⟨(Nat.le_of_ble_eq_true rfl), (Nat.le_of_ble_eq_true rfl)⟩ dX4_clock_34 (fun _ _ z => False.elim z) (fun v9 ws9 h16 => ?_)))
        obtain ⟨rfl, hw9⟩ := h16
        subst ws9
        dsimp only [mPush]
        refine r_if_eqB (tgt := 44) hX dX4_clock_37 (by decide) (fun c17 => ?_) (fun c17 => ?_)
        · exact absurd c17 (by simp)
        · rcases zst1 c17 with ⟨hx, e0⟩ | ⟨hx, hy, e0⟩
          · exact absurd hx (by decide)
          · rw [e0]
            refine r_iconstZ hX dX4_clock_40 (r_goto (tgt := 59) hX dX4_clock_41 (by decide) ?_)
            exact r_iret hX hE dX4_clock_59 (Nat.le_of_ble_eq_true rfl) (Nat.le_of_ble_eq_true rfl) ⟨_, rfl, Or.inr (Or.inr ⟨by omega, by omega, rfl⟩)⟩
    · have c10 := of_decide_eq_true c10
      refine r_iconst (v := b2i true) hX dX4_clock_16 (by decide) (r_goto (tgt := 21) hX dX4_clock_17 (by decide) (r_iload_n hX dX4_clock_21 rfl rfl (r_iload_n hX dX4_clock_22 rfl rfl (r_callS hX (z_X4_isTime _ _ _ _ (by first | with_reducible assumption | decide | omega) (by first | with_reducible assumption | decide | omega)) ks_X4_155 rfl rfl (Nat.le_of_ble_eq_true rfl) ⟨(Nat.le_of_ble_eq_true rfl), (Nat.le_of_ble_eq_true rfl)⟩ ⟨(Nat.le_of_ble_eq_true rfl), (Nat.le_of_ble_eq_true rfl)⟩ dX4_clock_23 (fun _ _ z => False.elim z) (fun v9 ws9 h18 => ?_)))))
      obtain ⟨rfl, hw9⟩ := h18
      subst ws9
      dsimp only [mPush]
      refine r_if_neB (tgt := 33) hX dX4_clock_26 (by decide) (fun c19 => ?_) (fun c19 => ?_)
      · have c19 := of_decide_eq_true c19
        refine r_iconst (v := b2i false) hX dX4_clock_33 (by decide) (r_callV hX (z_X4_isStopped ad ae cs K S th rest true false) kv_X4_68 14 rfl rfl rfl rfl (Nat.le_of_ble_eq_true rfl) ⟨(Nat.le_of_ble_eq_true rfl), (Nat.le_of_ble_eq_true rfl)⟩ ⟨(Nat.le_of_ble_eq_true rfl), (Nat.le_of_ble_eq_true rfl)⟩ dX4_clock_34 (fun _ _ z => False.elim z) (fun v9 ws9 h20 => ?_))
        obtain ⟨rfl, hw9⟩ := h20
        subst ws9
        dsimp only [mPush]
        refine r_if_eqB (tgt := 44) hX dX4_clock_37 (by decide) (fun c21 => ?_) (fun c21 => ?_)
        · exact absurd c21 (by simp)
        · rcases zst1 c21 with ⟨hx, e0⟩ | ⟨hx, hy, e0⟩
          · rw [e0]
            refine r_iconstZ hX dX4_clock_40 (r_goto (tgt := 59) hX dX4_clock_41 (by decide) ?_)
            exact r_iret hX hE dX4_clock_59 (Nat.le_of_ble_eq_true rfl) (Nat.le_of_ble_eq_true rfl) ⟨_, rfl, Or.inr (Or.inl ⟨by omega, rfl⟩)⟩
          · exact absurd hx (by decide)
      · have c19 := of_decide_eq_false c19
        refine r_iconst (v := b2i true) hX dX4_clock_29 (by decide) (r_goto (tgt := 34) hX dX4_clock_30 (by decide) (r_callV hX (z_X4_isStopped ad ae cs K S th rest true true) kv_X4_68 14 rfl rfl rfl rfl (Nat.le_of_ble_eq_true rfl) ⟨(Nat.le_of_ble_eq_true rfl), (Nat.le_of_ble_eq_true rfl)⟩ ⟨(Nat.le_of_ble_eq_true rfl), (Nat.le_of_ble_eq_true rfl)⟩ dX4_clock_34 (fun _ _ z => False.elim z) (fun v9 ws9 h22 => ?_)))
        obtain ⟨rfl, hw9⟩ := h22
        subst ws9
        dsimp only [mPush]
        refine r_if_eqB (tgt := 44) hX dX4_clock_37 (by decide) (fun c23 => ?_) (fun c23 => ?_)
        · exact absurd c23 (by simp)
        · rcases zst1 c23 with ⟨hx, e0⟩ | ⟨hx, hy, e0⟩
          · rw [e0]
            refine r_iconstZ hX dX4_clock_40 (r_goto (tgt := 59) hX dX4_clock_41 (by decide) ?_)
            exact r_iret hX hE dX4_clock_59 (Nat.le_of_ble_eq_true rfl) (Nat.le_of_ble_eq_true rfl) ⟨_, rfl, Or.inr (Or.inl ⟨by omega, rfl⟩)⟩
          · exact absurd hx (by decide)
set_option maxHeartbeats 4000000 in
set_option maxRecDepth 20000 in
theorem z_X4_clockOf (ad ae : Nat → Nat) (cs : ClassId × ClassId × ClassId) (K : mK) (S : mS) (th : Int32) (rest : va_W) (hS : sWF S) (a0 : Int) (h0 : rJ a0) (a1 : Int) (h1 : rJ a1)  : mCt (mTy cs) yX4_clockOf cX4_clockOf 3 (some .int) ⟨3, 0, 0, 71⟩ [.ref (ae 0), .int (iZ a0), .int (iZ a1)] (mRw ad ae cs K (mJof S th) rest) (fun v ws' => ∃ r : Int32, v = some (.int r) ∧ (((((0 ≤ a0 ∧ a0 < 3) ∧ (0 ≤ a1 ∧ a1 < 4)) ∧ (0 ≤ (0 : Int))) ∧ r = iZ (oClk S a0.toNat (sse S a1.toNat) (sna S a1.toNat) (sow S a1.toNat)).1 ∧ ws' = mRw ad ae cs K (mJof (oClk S a0.toNat (sse S a1.toNat) (sna S a1.toNat) (sow S a1.toNat)).2 0) rest) ∨ (¬ ((0 ≤ a0 ∧ a0 < 3) ∧ (0 ≤ a1 ∧ a1 < 4)) ∧ ws' = mRw ad ae cs K (mJof S 1) rest) ∨ (((0 ≤ a0 ∧ a0 < 3) ∧ (0 ≤ a1 ∧ a1 < 4)) ∧ ¬ (0 ≤ (0 : Int)) ∧ ws' = mRw ad ae cs K (mJof S 2) rest))) mNo := by
  refine mCt.of (by decide +kernel) (Nat.le_of_ble_eq_true rfl) (fun X hX hE => ?_)
  replace hX : mOK X RX4 cX4_clockOf 3 ⟨3, 0, 0, 71⟩ [] (mTy cs) := hX
  refine r_aload_n hX dX4_clockOf_0 rfl rfl (r_iload_n hX dX4_clockOf_1 rfl rfl (r_callS hX (z_X4_isNoClock _ _ _ (by first | with_reducible assumption | decide | omega)) ks_X4_205 rfl rfl (Nat.le_of_ble_eq_true rfl) ⟨(Nat.le_of_ble_eq_true rfl), (Nat.le_of_ble_eq_true rfl)⟩ ⟨(Nat.le_of_ble_eq_true rfl), (Nat.le_of_ble_eq_true rfl)⟩ dX4_clockOf_2 (fun _ _ z => False.elim z) (fun v9 ws9 h1 => ?_)))
  obtain ⟨rfl, hw9⟩ := h1
  subst ws9
  dsimp only [mPush]
  refine r_if_neB (tgt := 15) hX dX4_clockOf_5 (by decide) (fun c2 => ?_) (fun c2 => ?_)
  · have c2 := of_decide_eq_true c2
    refine r_iconst (v := b2i true) hX dX4_clockOf_15 (by decide) (r_goto (tgt := 20) hX dX4_clockOf_16 (by decide) (r_iconst (v := b2i false) hX dX4_clockOf_20 (by decide) (r_callV hX (z_X4_isStopped ad ae cs K S th rest true false) kv_X4_68 14 rfl rfl rfl rfl (Nat.le_of_ble_eq_true rfl) ⟨(Nat.le_of_ble_eq_true rfl), (Nat.le_of_ble_eq_true rfl)⟩ ⟨(Nat.le_of_ble_eq_true rfl), (Nat.le_of_ble_eq_true rfl)⟩ dX4_clockOf_21 (fun _ _ z => False.elim z) (fun v9 ws9 h3 => ?_))))
    obtain ⟨rfl, hw9⟩ := h3
    subst ws9
    dsimp only [mPush]
    refine r_if_eqB (tgt := 31) hX dX4_clockOf_24 (by decide) (fun c4 => ?_) (fun c4 => ?_)
    · exact absurd c4 (by simp)
    · rcases zst1 c4 with ⟨hx, e0⟩ | ⟨hx, hy, e0⟩
      · rw [e0]
        refine r_iconstZ hX dX4_clockOf_27 (r_goto (tgt := 55) hX dX4_clockOf_28 (by decide) ?_)
        exact r_iret hX hE dX4_clockOf_55 (Nat.le_of_ble_eq_true rfl) (Nat.le_of_ble_eq_true rfl) ⟨_, rfl, Or.inr (Or.inl ⟨by omega, rfl⟩)⟩
      · exact absurd hx (by decide)
  · have c2 := of_decide_eq_false c2
    refine r_iload_n hX dX4_clockOf_8 rfl rfl (r_callS hX (z_X4_isNone _ _ _ (by first | with_reducible assumption | decide | omega)) ks_X4_61 rfl rfl (Nat.le_of_ble_eq_true rfl) ⟨(Nat.le_of_ble_eq_true rfl), (Nat.le_of_ble_eq_true rfl)⟩ ⟨(Nat.le_of_ble_eq_true rfl), (Nat.le_of_ble_eq_true rfl)⟩ dX4_clockOf_9 (fun _ _ z => False.elim z) (fun v9 ws9 h5 => ?_))
    obtain ⟨rfl, hw9⟩ := h5
    subst ws9
    dsimp only [mPush]
    refine r_if_eqB (tgt := 19) hX dX4_clockOf_12 (by decide) (fun c6 => ?_) (fun c6 => ?_)
    · have c6 := of_decide_eq_false c6
      refine r_iconst (v := b2i false) hX dX4_clockOf_19 (by decide) (r_iconst (v := b2i false) hX dX4_clockOf_20 (by decide) (r_callV hX (z_X4_isStopped ad ae cs K S th rest false false) kv_X4_68 14 rfl rfl rfl rfl (Nat.le_of_ble_eq_true rfl) ⟨(Nat.le_of_ble_eq_true rfl), (Nat.le_of_ble_eq_true rfl)⟩ ⟨(Nat.le_of_ble_eq_true rfl), (Nat.le_of_ble_eq_true rfl)⟩ dX4_clockOf_21 (fun _ _ z => False.elim z) (fun v9 ws9 h7 => ?_)))
      obtain ⟨rfl, hw9⟩ := h7
      subst ws9
      dsimp only [mPush]
      refine r_if_eqB (tgt := 31) hX dX4_clockOf_24 (by decide) (fun c8 => ?_) (fun c8 => ?_)
      · obtain ⟨⟨hx, hy⟩, e0⟩ := zst0 c8
        rw [e0]
        have hr1 := zrg hS (d := a1.toNat) (by omega)
        have hse := hS.2.2.2.1 a1.toNat (by omega)
        refine r_aload_n hX dX4_clockOf_31 rfl rfl (r_iload_n hX dX4_clockOf_32 rfl rfl (r_aload_n hX dX4_clockOf_33 rfl rfl (r_get hX kf_X4_20 14 rfl rfl dX4_clockOf_34 (r_iload_n hX dX4_clockOf_37 rfl rfl (r_ialdZ hX 18 0 rfl rfl (a1).toNat (by first | with_reducible assumption | decide | omega) (by first | with_reducible assumption | decide | omega) (by decide) dX4_clockOf_38 (r_i2lZ hX dX4_clockOf_39 (by first | with_reducible assumption | decide | omega) (r_aload_n hX dX4_clockOf_40 rfl rfl ?_)))))))
        refine r_get hX kf_X4_23 14 rfl rfl dX4_clockOf_41 (r_iload_n hX dX4_clockOf_44 rfl rfl (r_ialdZ hX 19 0 rfl rfl (a1).toNat (by first | with_reducible assumption | decide | omega) (by first | with_reducible assumption | decide | omega) (by decide) dX4_clockOf_45 (r_aload_n hX dX4_clockOf_46 rfl rfl (r_get hX kf_X4_26 14 rfl rfl dX4_clockOf_47 (r_iload_n hX dX4_clockOf_50 rfl rfl (r_ialdZ hX 20 0 rfl rfl (a1).toNat (by first | with_reducible assumption | decide | omega) (by first | with_reducible assumption | decide | omega) (by decide) dX4_clockOf_51 (r_callV hX (z_X4_turn ad ae cs K S 0 rest hS _ (a0).toNat (by first | with_reducible assumption | decide | omega) (by first | with_reducible assumption | decide | omega) _ _ _ (by first | with_reducible assumption | decide | omega)) kv_X4_208 14 rfl rfl rfl rfl (Nat.le_of_ble_eq_true rfl) ⟨(Nat.le_of_ble_eq_true rfl), (Nat.le_of_ble_eq_true rfl)⟩ ⟨(Nat.le_of_ble_eq_true rfl), (Nat.le_of_ble_eq_true rfl)⟩ dX4_clockOf_52 (fun _ _ z => False.elim z) (fun v9 ws9 h9 => ?_))))))))
        obtain ⟨rfl, hw9⟩ := h9
        subst ws9
        dsimp only [mPush]
        refine r_iret hX hE dX4_clockOf_55 (Nat.le_of_ble_eq_true rfl) (Nat.le_of_ble_eq_true rfl) ⟨_, rfl, Or.inl ⟨by omega, ?_⟩⟩
        have e : oClk S a0.toNat (sse S a1.toNat) (sna S a1.toNat) (sow S a1.toNat) = oClk S a0.toNat (sse S a1.toNat % 86400) (sna S a1.toNat) (sow S a1.toNat) := by
          unfold oClk
          rw [show sse S a1.toNat % 86400 % 86400 = sse S a1.toNat % 86400 by omega]
        rw [e]
        exact oeR (oClk_c (by omega) (by omega) (by omega))
      · rcases zst1 c8 with ⟨hx, e0⟩ | ⟨hx, hy, e0⟩
        · exact absurd hx (by decide)
        · exact absurd hy (by decide)
    · have c6 := of_decide_eq_true c6
      refine r_iconst (v := b2i true) hX dX4_clockOf_15 (by decide) (r_goto (tgt := 20) hX dX4_clockOf_16 (by decide) (r_iconst (v := b2i false) hX dX4_clockOf_20 (by decide) (r_callV hX (z_X4_isStopped ad ae cs K S th rest true false) kv_X4_68 14 rfl rfl rfl rfl (Nat.le_of_ble_eq_true rfl) ⟨(Nat.le_of_ble_eq_true rfl), (Nat.le_of_ble_eq_true rfl)⟩ ⟨(Nat.le_of_ble_eq_true rfl), (Nat.le_of_ble_eq_true rfl)⟩ dX4_clockOf_21 (fun _ _ z => False.elim z) (fun v9 ws9 h10 => ?_))))
      obtain ⟨rfl, hw9⟩ := h10
      subst ws9
      dsimp only [mPush]
      refine r_if_eqB (tgt := 31) hX dX4_clockOf_24 (by decide) (fun c11 => ?_) (fun c11 => ?_)
      · exact absurd c11 (by simp)
      · rcases zst1 c11 with ⟨hx, e0⟩ | ⟨hx, hy, e0⟩
        · rw [e0]
          refine r_iconstZ hX dX4_clockOf_27 (r_goto (tgt := 55) hX dX4_clockOf_28 (by decide) ?_)
          exact r_iret hX hE dX4_clockOf_55 (Nat.le_of_ble_eq_true rfl) (Nat.le_of_ble_eq_true rfl) ⟨_, rfl, Or.inr (Or.inl ⟨by omega, rfl⟩)⟩
        · exact absurd hx (by decide)
set_option maxHeartbeats 4000000 in
set_option maxRecDepth 20000 in
theorem z_X4_copyClock (ad ae : Nat → Nat) (cs : ClassId × ClassId × ClassId) (K : mK) (S : mS) (th : Int32) (rest : va_W) (hS : sWF S) (a0 : Int) (h0 : rJ a0) (a1 : Int) (h1 : rJ a1)  : mCt (mTy cs) yX4_copyClock cX4_copyClock 3 (some .int) ⟨3, 0, 0, 71⟩ [.ref (ae 0), .int (iZ a0), .int (iZ a1)] (mRw ad ae cs K (mJof S th) rest) (fun v ws' => ∃ r : Int32, v = some (.int r) ∧ (((((0 ≤ a0 ∧ a0 < 3) ∧ (0 ≤ a1 ∧ a1 < 3)) ∧ (0 ≤ (0 : Int))) ∧ r = iZ (oClk S a0.toNat (sse S (a1.toNat + 4)) (sna S (a1.toNat + 4)) (sow S (a1.toNat + 4))).1 ∧ ws' = mRw ad ae cs K (mJof (oClk S a0.toNat (sse S (a1.toNat + 4)) (sna S (a1.toNat + 4)) (sow S (a1.toNat + 4))).2 0) rest) ∨ (¬ ((0 ≤ a0 ∧ a0 < 3) ∧ (0 ≤ a1 ∧ a1 < 3)) ∧ ws' = mRw ad ae cs K (mJof S 1) rest) ∨ (((0 ≤ a0 ∧ a0 < 3) ∧ (0 ≤ a1 ∧ a1 < 3)) ∧ ¬ (0 ≤ (0 : Int)) ∧ ws' = mRw ad ae cs K (mJof S 2) rest))) mNo := by
  refine mCt.of (by decide +kernel) (Nat.le_of_ble_eq_true rfl) (fun X hX hE => ?_)
  replace hX : mOK X RX4 cX4_copyClock 3 ⟨3, 0, 0, 71⟩ [] (mTy cs) := hX
  refine r_aload_n hX dX4_copyClock_0 rfl rfl (r_iload_n hX dX4_copyClock_1 rfl rfl (r_callS hX (z_X4_isNoClock _ _ _ (by first | with_reducible assumption | decide | omega)) ks_X4_205 rfl rfl (Nat.le_of_ble_eq_true rfl) ⟨(Nat.le_of_ble_eq_true rfl), (Nat.le_of_ble_eq_true rfl)⟩ ⟨(Nat.le_of_ble_eq_true rfl), (Nat.le_of_ble_eq_true rfl)⟩ dX4_copyClock_2 (fun _ _ z => False.elim z) (fun v9 ws9 h1 => ?_)))
  obtain ⟨rfl, hw9⟩ := h1
  subst ws9
  dsimp only [mPush]
  refine r_if_neB (tgt := 15) hX dX4_copyClock_5 (by decide) (fun c2 => ?_) (fun c2 => ?_)
  · have c2 := of_decide_eq_true c2
    refine r_iconst (v := b2i true) hX dX4_copyClock_15 (by decide) (r_goto (tgt := 20) hX dX4_copyClock_16 (by decide) (r_iconst (v := b2i false) hX dX4_copyClock_20 (by decide) (r_callV hX (z_X4_isStopped ad ae cs K S th rest true false) kv_X4_68 14 rfl rfl rfl rfl (Nat.le_of_ble_eq_true rfl) ⟨(Nat.le_of_ble_eq_true rfl), (Nat.le_of_ble_eq_true rfl)⟩ ⟨(Nat.le_of_ble_eq_true rfl), (Nat.le_of_ble_eq_true rfl)⟩ dX4_copyClock_21 (fun _ _ z => False.elim z) (fun v9 ws9 h3 => ?_))))
    obtain ⟨rfl, hw9⟩ := h3
    subst ws9
    dsimp only [mPush]
    refine r_if_eqB (tgt := 31) hX dX4_copyClock_24 (by decide) (fun c4 => ?_) (fun c4 => ?_)
    · exact absurd c4 (by simp)
    · rcases zst1 c4 with ⟨hx, e0⟩ | ⟨hx, hy, e0⟩
      · rw [e0]
        refine r_iconstZ hX dX4_copyClock_27 (r_goto (tgt := 61) hX dX4_copyClock_28 (by decide) ?_)
        exact r_iret hX hE dX4_copyClock_61 (Nat.le_of_ble_eq_true rfl) (Nat.le_of_ble_eq_true rfl) ⟨_, rfl, Or.inr (Or.inl ⟨by omega, rfl⟩)⟩
      · exact absurd hx (by decide)
  · have c2 := of_decide_eq_false c2
    refine r_iload_n hX dX4_copyClock_8 rfl rfl (r_callS hX (z_X4_isNoClock _ _ _ (by first | with_reducible assumption | decide | omega)) ks_X4_205 rfl rfl (Nat.le_of_ble_eq_true rfl) ⟨(Nat.le_of_ble_eq_true rfl), (Nat.le_of_ble_eq_true rfl)⟩ ⟨(Nat.le_of_ble_eq_true rfl), (Nat.le_of_ble_eq_true rfl)⟩ dX4_copyClock_9 (fun _ _ z => False.elim z) (fun v9 ws9 h5 => ?_))
    obtain ⟨rfl, hw9⟩ := h5
    subst ws9
    dsimp only [mPush]
    refine r_if_eqB (tgt := 19) hX dX4_copyClock_12 (by decide) (fun c6 => ?_) (fun c6 => ?_)
    · have c6 := of_decide_eq_false c6
      refine r_iconst (v := b2i false) hX dX4_copyClock_19 (by decide) (r_iconst (v := b2i false) hX dX4_copyClock_20 (by decide) (r_callV hX (z_X4_isStopped ad ae cs K S th rest false false) kv_X4_68 14 rfl rfl rfl rfl (Nat.le_of_ble_eq_true rfl) ⟨(Nat.le_of_ble_eq_true rfl), (Nat.le_of_ble_eq_true rfl)⟩ ⟨(Nat.le_of_ble_eq_true rfl), (Nat.le_of_ble_eq_true rfl)⟩ dX4_copyClock_21 (fun _ _ z => False.elim z) (fun v9 ws9 h7 => ?_)))
      obtain ⟨rfl, hw9⟩ := h7
      subst ws9
      dsimp only [mPush]
      refine r_if_eqB (tgt := 31) hX dX4_copyClock_24 (by decide) (fun c8 => ?_) (fun c8 => ?_)
      · obtain ⟨⟨hx, hy⟩, e0⟩ := zst0 c8
        rw [e0]
        have hrk0 := zrg hS (d := a0.toNat + 4) (by omega)
        have hsk0 := hS.2.2.2.2 (a0.toNat + 4) (by omega) (by omega)
        have hrk1 := zrg hS (d := a1.toNat + 4) (by omega)
        have hsk1 := hS.2.2.2.2 (a1.toNat + 4) (by omega) (by omega)
        refine r_aload_n hX dX4_copyClock_31 rfl rfl (r_iload_n hX dX4_copyClock_32 rfl rfl (r_aload_n hX dX4_copyClock_33 rfl rfl (r_get hX kf_X4_20 14 rfl rfl dX4_copyClock_34 (r_iconstZ hX dX4_copyClock_37 (r_iload_n hX dX4_copyClock_38 rfl rfl (r_iaddZ hX dX4_copyClock_39 (r_ialdZ hX 18 0 rfl rfl (a1.toNat + 4) (by first | with_reducible assumption | decide | omega) (by first | with_reducible assumption | decide | omega) (by decide) dX4_copyClock_40 ?_)))))))
        refine r_i2lZ hX dX4_copyClock_41 (by first | with_reducible assumption | decide | omega) (r_aload_n hX dX4_copyClock_42 rfl rfl (r_get hX kf_X4_23 14 rfl rfl dX4_copyClock_43 (r_iconstZ hX dX4_copyClock_46 (r_iload_n hX dX4_copyClock_47 rfl rfl (r_iaddZ hX dX4_copyClock_48 (r_ialdZ hX 19 0 rfl rfl (a1.toNat + 4) (by first | with_reducible assumption | decide | omega) (by first | with_reducible assumption | decide | omega) (by decide) dX4_copyClock_49 (r_aload_n hX dX4_copyClock_50 rfl rfl ?_)))))))
        refine r_get hX kf_X4_26 14 rfl rfl dX4_copyClock_51 (r_iconstZ hX dX4_copyClock_54 (r_iload_n hX dX4_copyClock_55 rfl rfl (r_iaddZ hX dX4_copyClock_56 (r_ialdZ hX 20 0 rfl rfl (a1.toNat + 4) (by first | with_reducible assumption | decide | omega) (by first | with_reducible assumption | decide | omega) (by decide) dX4_copyClock_57 (r_callV hX (z_X4_turn ad ae cs K S 0 rest hS _ (a0).toNat (by first | with_reducible assumption | decide | omega) (by first | with_reducible assumption | decide | omega) _ _ _ (by first | with_reducible assumption | decide | omega)) kv_X4_208 14 rfl rfl rfl rfl (Nat.le_of_ble_eq_true rfl) ⟨(Nat.le_of_ble_eq_true rfl), (Nat.le_of_ble_eq_true rfl)⟩ ⟨(Nat.le_of_ble_eq_true rfl), (Nat.le_of_ble_eq_true rfl)⟩ dX4_copyClock_58 (fun _ _ z => False.elim z) (fun v9 ws9 h9 => ?_))))))
        obtain ⟨rfl, hw9⟩ := h9
        subst ws9
        dsimp only [mPush]
        refine r_iret hX hE dX4_copyClock_61 (Nat.le_of_ble_eq_true rfl) (Nat.le_of_ble_eq_true rfl) ⟨_, rfl, Or.inl ⟨by omega, ?_⟩⟩
        exact oeR (oClk_c (by omega) (by omega) (by omega))
      · rcases zst1 c8 with ⟨hx, e0⟩ | ⟨hx, hy, e0⟩
        · exact absurd hx (by decide)
        · exact absurd hy (by decide)
    · have c6 := of_decide_eq_true c6
      refine r_iconst (v := b2i true) hX dX4_copyClock_15 (by decide) (r_goto (tgt := 20) hX dX4_copyClock_16 (by decide) (r_iconst (v := b2i false) hX dX4_copyClock_20 (by decide) (r_callV hX (z_X4_isStopped ad ae cs K S th rest true false) kv_X4_68 14 rfl rfl rfl rfl (Nat.le_of_ble_eq_true rfl) ⟨(Nat.le_of_ble_eq_true rfl), (Nat.le_of_ble_eq_true rfl)⟩ ⟨(Nat.le_of_ble_eq_true rfl), (Nat.le_of_ble_eq_true rfl)⟩ dX4_copyClock_21 (fun _ _ z => False.elim z) (fun v9 ws9 h10 => ?_))))
      obtain ⟨rfl, hw9⟩ := h10
      subst ws9
      dsimp only [mPush]
      refine r_if_eqB (tgt := 31) hX dX4_copyClock_24 (by decide) (fun c11 => ?_) (fun c11 => ?_)
      · exact absurd c11 (by simp)
      · rcases zst1 c11 with ⟨hx, e0⟩ | ⟨hx, hy, e0⟩
        · rw [e0]
          refine r_iconstZ hX dX4_copyClock_27 (r_goto (tgt := 61) hX dX4_copyClock_28 (by decide) ?_)
          exact r_iret hX hE dX4_copyClock_61 (Nat.le_of_ble_eq_true rfl) (Nat.le_of_ble_eq_true rfl) ⟨_, rfl, Or.inr (Or.inl ⟨by omega, rfl⟩)⟩
        · exact absurd hx (by decide)
set_option maxHeartbeats 4000000 in
set_option maxRecDepth 20000 in
theorem z_X4_strike (ad ae : Nat → Nat) (cs : ClassId × ClassId × ClassId) (K : mK) (S : mS) (th : Int32) (rest : va_W) (hS : sWF S) (a0 : Int) (h0 : rJ a0) (a1 : Int) (h1 : rJ a1)  : mCt (mTy cs) yX4_strike cX4_strike 3 (some .int) ⟨2, 0, 0, 45⟩ [.ref (ae 0), .int (iZ a0), .int (iZ a1)] (mRw ad ae cs K (mJof S th) rest) (fun v ws' => ∃ r : Int32, v = some (.int r) ∧ (((((0 ≤ a0 ∧ a0 < 4) ∧ (0 ≤ a1 ∧ a1 < 3)) ∧ (0 ≤ (0 : Int))) ∧ r = iZ (oLoc S a0.toNat (sse S a0.toNat / 86400 * 86400 + sse S (a1.toNat + 4)) (sna S (a1.toNat + 4)) (sow S (a1.toNat + 4))).1 ∧ ws' = mRw ad ae cs K (mJof (oLoc S a0.toNat (sse S a0.toNat / 86400 * 86400 + sse S (a1.toNat + 4)) (sna S (a1.toNat + 4)) (sow S (a1.toNat + 4))).2 0) rest) ∨ (¬ ((0 ≤ a0 ∧ a0 < 4) ∧ (0 ≤ a1 ∧ a1 < 3)) ∧ ws' = mRw ad ae cs K (mJof S 1) rest) ∨ (((0 ≤ a0 ∧ a0 < 4) ∧ (0 ≤ a1 ∧ a1 < 3)) ∧ ¬ (0 ≤ (0 : Int)) ∧ ws' = mRw ad ae cs K (mJof S 2) rest))) mNo := by
  refine mCt.of (by decide +kernel) (Nat.le_of_ble_eq_true rfl) (fun X hX hE => ?_)
  replace hX : mOK X RX4 cX4_strike 3 ⟨2, 0, 0, 45⟩ [] (mTy cs) := hX
  refine r_aload_n hX dX4_strike_0 rfl rfl (r_iload_n hX dX4_strike_1 rfl rfl (r_callS hX (z_X4_isNone _ _ _ (by first | with_reducible assumption | decide | omega)) ks_X4_61 rfl rfl (Nat.le_of_ble_eq_true rfl) ⟨(Nat.le_of_ble_eq_true rfl), (Nat.le_of_ble_eq_true rfl)⟩ ⟨(Nat.le_of_ble_eq_true rfl), (Nat.le_of_ble_eq_true rfl)⟩ dX4_strike_2 (fun _ _ z => False.elim z) (fun v9 ws9 h1 => ?_)))
  obtain ⟨rfl, hw9⟩ := h1
  subst ws9
  dsimp only [mPush]
  refine r_if_neB (tgt := 15) hX dX4_strike_5 (by decide) (fun c2 => ?_) (fun c2 => ?_)
  · have c2 := of_decide_eq_true c2
    refine r_iconst (v := b2i true) hX dX4_strike_15 (by decide) (r_goto (tgt := 20) hX dX4_strike_16 (by decide) (r_iconst (v := b2i false) hX dX4_strike_20 (by decide) (r_callV hX (z_X4_isStopped ad ae cs K S th rest true false) kv_X4_68 14 rfl rfl rfl rfl (Nat.le_of_ble_eq_true rfl) ⟨(Nat.le_of_ble_eq_true rfl), (Nat.le_of_ble_eq_true rfl)⟩ ⟨(Nat.le_of_ble_eq_true rfl), (Nat.le_of_ble_eq_true rfl)⟩ dX4_strike_21 (fun _ _ z => False.elim z) (fun v9 ws9 h3 => ?_))))
    obtain ⟨rfl, hw9⟩ := h3
    subst ws9
    dsimp only [mPush]
    refine r_if_eqB (tgt := 31) hX dX4_strike_24 (by decide) (fun c4 => ?_) (fun c4 => ?_)
    · exact absurd c4 (by simp)
    · rcases zst1 c4 with ⟨hx, e0⟩ | ⟨hx, hy, e0⟩
      · rw [e0]
        refine r_iconstZ hX dX4_strike_27 (r_goto (tgt := 66) hX dX4_strike_28 (by decide) ?_)
        exact r_iret hX hE dX4_strike_66 (Nat.le_of_ble_eq_true rfl) (Nat.le_of_ble_eq_true rfl) ⟨_, rfl, Or.inr (Or.inl ⟨by omega, rfl⟩)⟩
      · exact absurd hx (by decide)
  · have c2 := of_decide_eq_false c2
    refine r_iload_n hX dX4_strike_8 rfl rfl (r_callS hX (z_X4_isNoClock _ _ _ (by first | with_reducible assumption | decide | omega)) ks_X4_205 rfl rfl (Nat.le_of_ble_eq_true rfl) ⟨(Nat.le_of_ble_eq_true rfl), (Nat.le_of_ble_eq_true rfl)⟩ ⟨(Nat.le_of_ble_eq_true rfl), (Nat.le_of_ble_eq_true rfl)⟩ dX4_strike_9 (fun _ _ z => False.elim z) (fun v9 ws9 h5 => ?_))
    obtain ⟨rfl, hw9⟩ := h5
    subst ws9
    dsimp only [mPush]
    refine r_if_eqB (tgt := 19) hX dX4_strike_12 (by decide) (fun c6 => ?_) (fun c6 => ?_)
    · have c6 := of_decide_eq_false c6
      refine r_iconst (v := b2i false) hX dX4_strike_19 (by decide) (r_iconst (v := b2i false) hX dX4_strike_20 (by decide) (r_callV hX (z_X4_isStopped ad ae cs K S th rest false false) kv_X4_68 14 rfl rfl rfl rfl (Nat.le_of_ble_eq_true rfl) ⟨(Nat.le_of_ble_eq_true rfl), (Nat.le_of_ble_eq_true rfl)⟩ ⟨(Nat.le_of_ble_eq_true rfl), (Nat.le_of_ble_eq_true rfl)⟩ dX4_strike_21 (fun _ _ z => False.elim z) (fun v9 ws9 h7 => ?_)))
      obtain ⟨rfl, hw9⟩ := h7
      subst ws9
      dsimp only [mPush]
      refine r_if_eqB (tgt := 31) hX dX4_strike_24 (by decide) (fun c8 => ?_) (fun c8 => ?_)
      · obtain ⟨⟨hx, hy⟩, e0⟩ := zst0 c8
        rw [e0]
        have hrk1 := zrg hS (d := a1.toNat + 4) (by omega)
        have hsk1 := hS.2.2.2.2 (a1.toNat + 4) (by omega) (by omega)
        have hse := hS.2.2.2.1 a0.toNat (by omega)
        refine r_aload_n hX dX4_strike_31 rfl rfl (r_iload_n hX dX4_strike_32 rfl rfl (r_aload_n hX dX4_strike_33 rfl rfl (r_get hX kf_X4_17 14 rfl rfl dX4_strike_34 (r_iload_n hX dX4_strike_37 rfl rfl (r_ialdZ hX 17 0 rfl rfl (a0).toNat (by first | with_reducible assumption | decide | omega) (by first | with_reducible assumption | decide | omega) (by decide) dX4_strike_38 (r_aload_n hX dX4_strike_39 rfl rfl (r_get hX kf_X4_20 14 rfl rfl dX4_strike_40 ?_)))))))
        refine r_iconstZ hX dX4_strike_43 (r_iload_n hX dX4_strike_44 rfl rfl (r_iaddZ hX dX4_strike_45 (r_ialdZ hX 18 0 rfl rfl (a1.toNat + 4) (by first | with_reducible assumption | decide | omega) (by first | with_reducible assumption | decide | omega) (by decide) dX4_strike_46 (r_aload_n hX dX4_strike_47 rfl rfl (r_get hX kf_X4_23 14 rfl rfl dX4_strike_48 (r_iconstZ hX dX4_strike_51 (r_iload_n hX dX4_strike_52 rfl rfl ?_)))))))
        refine r_iaddZ hX dX4_strike_53 (r_ialdZ hX 19 0 rfl rfl (a1.toNat + 4) (by first | with_reducible assumption | decide | omega) (by first | with_reducible assumption | decide | omega) (by decide) dX4_strike_54 (r_aload_n hX dX4_strike_55 rfl rfl (r_get hX kf_X4_26 14 rfl rfl dX4_strike_56 (r_iconstZ hX dX4_strike_59 (r_iload_n hX dX4_strike_60 rfl rfl (r_iaddZ hX dX4_strike_61 (r_ialdZ hX 20 0 rfl rfl (a1.toNat + 4) (by first | with_reducible assumption | decide | omega) (by first | with_reducible assumption | decide | omega) (by decide) dX4_strike_62 ?_)))))))
        refine r_callV hX (z_X4_put ad ae cs K S 0 rest hS _ (a0).toNat (by first | with_reducible assumption | decide | omega) (by first | with_reducible assumption | decide | omega) _ _ _ _ (by first | with_reducible assumption | decide | omega)) kv_X4_139 14 rfl rfl rfl rfl (Nat.le_of_ble_eq_true rfl) ⟨(Nat.le_of_ble_eq_true rfl), (Nat.le_of_ble_eq_true rfl)⟩ ⟨(Nat.le_of_ble_eq_true rfl), (Nat.le_of_ble_eq_true rfl)⟩ dX4_strike_63 (fun _ _ z => False.elim z) (fun v9 ws9 h9 => ?_)
        obtain ⟨rfl, hw9⟩ := h9
        subst ws9
        dsimp only [mPush]
        refine r_iret hX hE dX4_strike_66 (Nat.le_of_ble_eq_true rfl) (Nat.le_of_ble_eq_true rfl) ⟨_, rfl, Or.inl ⟨by omega, ?_⟩⟩
        rw [oLoc_y (by omega)]
        exact ⟨congrArg iZ (by omega), by rw [show sse S a0.toNat / 86400 * 86400 + sse S (a1.toNat + 4) % 86400 = sse S a0.toNat / 86400 * 86400 + sse S (a1.toNat + 4) by omega]⟩
      · rcases zst1 c8 with ⟨hx, e0⟩ | ⟨hx, hy, e0⟩
        · exact absurd hx (by decide)
        · exact absurd hy (by decide)
    · have c6 := of_decide_eq_true c6
      refine r_iconst (v := b2i true) hX dX4_strike_15 (by decide) (r_goto (tgt := 20) hX dX4_strike_16 (by decide) (r_iconst (v := b2i false) hX dX4_strike_20 (by decide) (r_callV hX (z_X4_isStopped ad ae cs K S th rest true false) kv_X4_68 14 rfl rfl rfl rfl (Nat.le_of_ble_eq_true rfl) ⟨(Nat.le_of_ble_eq_true rfl), (Nat.le_of_ble_eq_true rfl)⟩ ⟨(Nat.le_of_ble_eq_true rfl), (Nat.le_of_ble_eq_true rfl)⟩ dX4_strike_21 (fun _ _ z => False.elim z) (fun v9 ws9 h10 => ?_))))
      obtain ⟨rfl, hw9⟩ := h10
      subst ws9
      dsimp only [mPush]
      refine r_if_eqB (tgt := 31) hX dX4_strike_24 (by decide) (fun c11 => ?_) (fun c11 => ?_)
      · exact absurd c11 (by simp)
      · rcases zst1 c11 with ⟨hx, e0⟩ | ⟨hx, hy, e0⟩
        · rw [e0]
          refine r_iconstZ hX dX4_strike_27 (r_goto (tgt := 66) hX dX4_strike_28 (by decide) ?_)
          exact r_iret hX hE dX4_strike_66 (Nat.le_of_ble_eq_true rfl) (Nat.le_of_ble_eq_true rfl) ⟨_, rfl, Or.inr (Or.inl ⟨by omega, rfl⟩)⟩
        · exact absurd hx (by decide)
set_option maxHeartbeats 4000000 in
set_option maxRecDepth 20000 in
theorem z_X4_anewClock (ad ae : Nat → Nat) (cs : ClassId × ClassId × ClassId) (K : mK) (S : mS) (th : Int32) (rest : va_W) (hS : sWF S) (a0 : Int) (h0 : rJ a0) (a1 : Int) (h1 : rJ a1) (b2 : Bool)  : mCt (mTy cs) yX4_anewClock cX4_anewClock 5 (some .int) ⟨3, 0, 0, 71⟩ [.ref (ae 0), .int (iZ a0), .int (iZ a1), .int (b2i b2)] (mRw ad ae cs K (mJof S th) rest) (fun v ws' => ∃ r : Int32, v = some (.int r) ∧ (((((0 ≤ a0 ∧ a0 < 3) ∧ (0 ≤ a1 ∧ a1 < 4)) ∧ (0 ≤ (0 : Int))) ∧ r = iZ (oClk S a0.toNat (cond b2 (sse S (a0.toNat + 4)) (sse S (a0.toNat + 4) - sow S (a0.toNat + 4) + sof S a1.toNat)) (sna S (a0.toNat + 4)) (sof S a1.toNat)).1 ∧ ws' = mRw ad ae cs K (mJof (oClk S a0.toNat (cond b2 (sse S (a0.toNat + 4)) (sse S (a0.toNat + 4) - sow S (a0.toNat + 4) + sof S a1.toNat)) (sna S (a0.toNat + 4)) (sof S a1.toNat)).2 0) rest) ∨ (¬ ((0 ≤ a0 ∧ a0 < 3) ∧ (0 ≤ a1 ∧ a1 < 4)) ∧ ws' = mRw ad ae cs K (mJof S 1) rest) ∨ (((0 ≤ a0 ∧ a0 < 3) ∧ (0 ≤ a1 ∧ a1 < 4)) ∧ ¬ (0 ≤ (0 : Int)) ∧ ws' = mRw ad ae cs K (mJof S 2) rest))) mNo := by
  refine mCt.of (by decide +kernel) (Nat.le_of_ble_eq_true rfl) (fun X hX hE => ?_)
  replace hX : mOK X RX4 cX4_anewClock 5 ⟨3, 0, 0, 71⟩ [] (mTy cs) := hX
  refine r_aload_n hX dX4_anewClock_0 rfl rfl (r_iload_n hX dX4_anewClock_1 rfl rfl (r_callS hX (z_X4_isNoClock _ _ _ (by first | with_reducible assumption | decide | omega)) ks_X4_205 rfl rfl (Nat.le_of_ble_eq_true rfl) ⟨(Nat.le_of_ble_eq_true rfl), (Nat.le_of_ble_eq_true rfl)⟩ ⟨(Nat.le_of_ble_eq_true rfl), (Nat.le_of_ble_eq_true rfl)⟩ dX4_anewClock_2 (fun _ _ z => False.elim z) (fun v9 ws9 h1 => ?_)))
  obtain ⟨rfl, hw9⟩ := h1
  subst ws9
  dsimp only [mPush]
  refine r_if_neB (tgt := 15) hX dX4_anewClock_5 (by decide) (fun c2 => ?_) (fun c2 => ?_)
  · have c2 := of_decide_eq_true c2
    refine r_iconst (v := b2i true) hX dX4_anewClock_15 (by decide) (r_goto (tgt := 20) hX dX4_anewClock_16 (by decide) (r_iconst (v := b2i false) hX dX4_anewClock_20 (by decide) (r_callV hX (z_X4_isStopped ad ae cs K S th rest true false) kv_X4_68 14 rfl rfl rfl rfl (Nat.le_of_ble_eq_true rfl) ⟨(Nat.le_of_ble_eq_true rfl), (Nat.le_of_ble_eq_true rfl)⟩ ⟨(Nat.le_of_ble_eq_true rfl), (Nat.le_of_ble_eq_true rfl)⟩ dX4_anewClock_21 (fun _ _ z => False.elim z) (fun v9 ws9 h3 => ?_))))
    obtain ⟨rfl, hw9⟩ := h3
    subst ws9
    dsimp only [mPush]
    refine r_if_eqB (tgt := 29) hX dX4_anewClock_24 (by decide) (fun c4 => ?_) (fun c4 => ?_)
    · exact absurd c4 (by simp)
    · rcases zst1 c4 with ⟨hx, e0⟩ | ⟨hx, hy, e0⟩
      · rw [e0]
        refine r_iconstZ hX dX4_anewClock_27 ?_
        exact r_iret hX hE dX4_anewClock_28 (Nat.le_of_ble_eq_true rfl) (Nat.le_of_ble_eq_true rfl) ⟨_, rfl, Or.inr (Or.inl ⟨by omega, rfl⟩)⟩
      · exact absurd hx (by decide)
  · have c2 := of_decide_eq_false c2
    refine r_iload_n hX dX4_anewClock_8 rfl rfl (r_callS hX (z_X4_isNone _ _ _ (by first | with_reducible assumption | decide | omega)) ks_X4_61 rfl rfl (Nat.le_of_ble_eq_true rfl) ⟨(Nat.le_of_ble_eq_true rfl), (Nat.le_of_ble_eq_true rfl)⟩ ⟨(Nat.le_of_ble_eq_true rfl), (Nat.le_of_ble_eq_true rfl)⟩ dX4_anewClock_9 (fun _ _ z => False.elim z) (fun v9 ws9 h5 => ?_))
    obtain ⟨rfl, hw9⟩ := h5
    subst ws9
    dsimp only [mPush]
    refine r_if_eqB (tgt := 19) hX dX4_anewClock_12 (by decide) (fun c6 => ?_) (fun c6 => ?_)
    · have c6 := of_decide_eq_false c6
      refine r_iconst (v := b2i false) hX dX4_anewClock_19 (by decide) (r_iconst (v := b2i false) hX dX4_anewClock_20 (by decide) (r_callV hX (z_X4_isStopped ad ae cs K S th rest false false) kv_X4_68 14 rfl rfl rfl rfl (Nat.le_of_ble_eq_true rfl) ⟨(Nat.le_of_ble_eq_true rfl), (Nat.le_of_ble_eq_true rfl)⟩ ⟨(Nat.le_of_ble_eq_true rfl), (Nat.le_of_ble_eq_true rfl)⟩ dX4_anewClock_21 (fun _ _ z => False.elim z) (fun v9 ws9 h7 => ?_)))
      obtain ⟨rfl, hw9⟩ := h7
      subst ws9
      dsimp only [mPush]
      refine r_if_eqB (tgt := 29) hX dX4_anewClock_24 (by decide) (fun c8 => ?_) (fun c8 => ?_)
      · obtain ⟨⟨hx, hy⟩, e0⟩ := zst0 c8
        rw [e0]
        have hrk0 := zrg hS (d := a0.toNat + 4) (by omega)
        have hsk0 := hS.2.2.2.2 (a0.toNat + 4) (by omega) (by omega)
        have hof := hS.1 a1.toNat (by omega)
        refine r_iload_n hX dX4_anewClock_29 rfl rfl (r_if_eqB (tgt := 37) hX dX4_anewClock_30 (by decide) (fun c9 => ?_) (fun c9 => ?_))
        · have c9 := id c9
          refine r_aload_n hX dX4_anewClock_37 rfl rfl (r_get hX kf_X4_7 14 rfl rfl dX4_anewClock_38 (r_iload_n hX dX4_anewClock_41 rfl rfl (r_ialdZ hX 15 0 rfl rfl (a1).toNat (by first | with_reducible assumption | decide | omega) (by first | with_reducible assumption | decide | omega) (by decide) dX4_anewClock_42 (r_aload_n hX dX4_anewClock_43 rfl rfl (r_get hX kf_X4_26 14 rfl rfl dX4_anewClock_44 (r_iconstZ hX dX4_anewClock_47 (r_iload_n hX dX4_anewClock_48 rfl rfl ?_)))))))
          refine r_iaddZ hX dX4_anewClock_49 (r_ialdZ hX 20 0 rfl rfl (a0.toNat + 4) (by first | with_reducible assumption | decide | omega) (by first | with_reducible assumption | decide | omega) (by decide) dX4_anewClock_50 (r_isubZ hX dX4_anewClock_51 (r_istore hX dX4_anewClock_52 (by decide) rfl (r_aload_n hX dX4_anewClock_54 rfl rfl (r_iload_n hX dX4_anewClock_55 rfl rfl (r_aload_n hX dX4_anewClock_56 rfl rfl (r_get hX kf_X4_20 14 rfl rfl dX4_anewClock_57 ?_)))))))
          refine r_iconstZ hX dX4_anewClock_60 (r_iload_n hX dX4_anewClock_61 rfl rfl (r_iaddZ hX dX4_anewClock_62 (r_ialdZ hX 18 0 rfl rfl (a0.toNat + 4) (by first | with_reducible assumption | decide | omega) (by first | with_reducible assumption | decide | omega) (by decide) dX4_anewClock_63 (r_iload hX dX4_anewClock_64 rfl (r_iaddZ hX dX4_anewClock_66 (r_i2lZ hX dX4_anewClock_67 (by first | with_reducible assumption | decide | omega) (r_aload_n hX dX4_anewClock_68 rfl rfl ?_)))))))
          refine r_get hX kf_X4_23 14 rfl rfl dX4_anewClock_69 (r_iconstZ hX dX4_anewClock_72 (r_iload_n hX dX4_anewClock_73 rfl rfl (r_iaddZ hX dX4_anewClock_74 (r_ialdZ hX 19 0 rfl rfl (a0.toNat + 4) (by first | with_reducible assumption | decide | omega) (by first | with_reducible assumption | decide | omega) (by decide) dX4_anewClock_75 (r_aload_n hX dX4_anewClock_76 rfl rfl (r_get hX kf_X4_7 14 rfl rfl dX4_anewClock_77 (r_iload_n hX dX4_anewClock_80 rfl rfl ?_)))))))
          refine r_ialdZ hX 15 0 rfl rfl (a1).toNat (by first | with_reducible assumption | decide | omega) (by first | with_reducible assumption | decide | omega) (by decide) dX4_anewClock_81 (r_callV hX (z_X4_turn ad ae cs K S 0 rest hS _ (a0).toNat (by first | with_reducible assumption | decide | omega) (by first | with_reducible assumption | decide | omega) _ _ _ (by first | with_reducible assumption | decide | omega)) kv_X4_208 14 rfl rfl rfl rfl (Nat.le_of_ble_eq_true rfl) ⟨(Nat.le_of_ble_eq_true rfl), (Nat.le_of_ble_eq_true rfl)⟩ ⟨(Nat.le_of_ble_eq_true rfl), (Nat.le_of_ble_eq_true rfl)⟩ dX4_anewClock_82 (fun _ _ z => False.elim z) (fun v9 ws9 h10 => ?_))
          obtain ⟨rfl, hw9⟩ := h10
          subst ws9
          dsimp only [mPush]
          refine r_iret hX hE dX4_anewClock_85 (Nat.le_of_ble_eq_true rfl) (Nat.le_of_ble_eq_true rfl) ⟨_, rfl, Or.inl ⟨by omega, ?_⟩⟩
          first | rw [show b2 = true by assumption] | rw [show b2 = false by assumption]
          simp only [cond]
          exact oeR (oClk_c (by omega) (by omega) (by omega))
        · have c9 := id c9
          refine r_iconstZ hX dX4_anewClock_33 (r_goto (tgt := 52) hX dX4_anewClock_34 (by decide) (r_istore hX dX4_anewClock_52 (by decide) rfl (r_aload_n hX dX4_anewClock_54 rfl rfl (r_iload_n hX dX4_anewClock_55 rfl rfl (r_aload_n hX dX4_anewClock_56 rfl rfl (r_get hX kf_X4_20 14 rfl rfl dX4_anewClock_57 (r_iconstZ hX dX4_anewClock_60 ?_)))))))
          refine r_iload_n hX dX4_anewClock_61 rfl rfl (r_iaddZ hX dX4_anewClock_62 (r_ialdZ hX 18 0 rfl rfl (a0.toNat + 4) (by first | with_reducible assumption | decide | omega) (by first | with_reducible assumption | decide | omega) (by decide) dX4_anewClock_63 (r_iload hX dX4_anewClock_64 rfl (r_iaddZ hX dX4_anewClock_66 (r_i2lZ hX dX4_anewClock_67 (by first | with_reducible assumption | decide | omega) (r_aload_n hX dX4_anewClock_68 rfl rfl (r_get hX kf_X4_23 14 rfl rfl dX4_anewClock_69 ?_)))))))
          refine r_iconstZ hX dX4_anewClock_72 (r_iload_n hX dX4_anewClock_73 rfl rfl (r_iaddZ hX dX4_anewClock_74 (r_ialdZ hX 19 0 rfl rfl (a0.toNat + 4) (by first | with_reducible assumption | decide | omega) (by first | with_reducible assumption | decide | omega) (by decide) dX4_anewClock_75 (r_aload_n hX dX4_anewClock_76 rfl rfl (r_get hX kf_X4_7 14 rfl rfl dX4_anewClock_77 (r_iload_n hX dX4_anewClock_80 rfl rfl (r_ialdZ hX 15 0 rfl rfl (a1).toNat (by first | with_reducible assumption | decide | omega) (by first | with_reducible assumption | decide | omega) (by decide) dX4_anewClock_81 ?_)))))))
          refine r_callV hX (z_X4_turn ad ae cs K S 0 rest hS _ (a0).toNat (by first | with_reducible assumption | decide | omega) (by first | with_reducible assumption | decide | omega) _ _ _ (by first | with_reducible assumption | decide | omega)) kv_X4_208 14 rfl rfl rfl rfl (Nat.le_of_ble_eq_true rfl) ⟨(Nat.le_of_ble_eq_true rfl), (Nat.le_of_ble_eq_true rfl)⟩ ⟨(Nat.le_of_ble_eq_true rfl), (Nat.le_of_ble_eq_true rfl)⟩ dX4_anewClock_82 (fun _ _ z => False.elim z) (fun v9 ws9 h11 => ?_)
          obtain ⟨rfl, hw9⟩ := h11
          subst ws9
          dsimp only [mPush]
          refine r_iret hX hE dX4_anewClock_85 (Nat.le_of_ble_eq_true rfl) (Nat.le_of_ble_eq_true rfl) ⟨_, rfl, Or.inl ⟨by omega, ?_⟩⟩
          first | rw [show b2 = true by assumption] | rw [show b2 = false by assumption]
          simp only [cond]
          exact oeR (oClk_c (by omega) (by omega) (by omega))
      · rcases zst1 c8 with ⟨hx, e0⟩ | ⟨hx, hy, e0⟩
        · exact absurd hx (by decide)
        · exact absurd hy (by decide)
    · have c6 := of_decide_eq_true c6
      refine r_iconst (v := b2i true) hX dX4_anewClock_15 (by decide) (r_goto (tgt := 20) hX dX4_anewClock_16 (by decide) (r_iconst (v := b2i false) hX dX4_anewClock_20 (by decide) (r_callV hX (z_X4_isStopped ad ae cs K S th rest true false) kv_X4_68 14 rfl rfl rfl rfl (Nat.le_of_ble_eq_true rfl) ⟨(Nat.le_of_ble_eq_true rfl), (Nat.le_of_ble_eq_true rfl)⟩ ⟨(Nat.le_of_ble_eq_true rfl), (Nat.le_of_ble_eq_true rfl)⟩ dX4_anewClock_21 (fun _ _ z => False.elim z) (fun v9 ws9 h12 => ?_))))
      obtain ⟨rfl, hw9⟩ := h12
      subst ws9
      dsimp only [mPush]
      refine r_if_eqB (tgt := 29) hX dX4_anewClock_24 (by decide) (fun c13 => ?_) (fun c13 => ?_)
      · exact absurd c13 (by simp)
      · rcases zst1 c13 with ⟨hx, e0⟩ | ⟨hx, hy, e0⟩
        · rw [e0]
          refine r_iconstZ hX dX4_anewClock_27 ?_
          exact r_iret hX hE dX4_anewClock_28 (Nat.le_of_ble_eq_true rfl) (Nat.le_of_ble_eq_true rfl) ⟨_, rfl, Or.inr (Or.inl ⟨by omega, rfl⟩)⟩
        · exact absurd hx (by decide)
set_option maxHeartbeats 4000000 in
set_option maxRecDepth 20000 in
theorem z_X4_ofClock (ad ae : Nat → Nat) (cs : ClassId × ClassId × ClassId) (K : mK) (S : mS) (th : Int32) (rest : va_W) (hS : sWF S) (a0 : Int) (h0 : rJ a0) (a1 : Int) (h1 : rJ a1)  : mCt (mTy cs) yX4_ofClock cX4_ofClock 3 (some .int) ⟨7, 1, 4, 164⟩ [.ref (ae 0), .int (iZ a0), .int (iZ a1)] (mRw ad ae cs K (mJof S th) rest) (fun v ws' => ∃ r : Int32, v = some (.int r) ∧ (((((0 ≤ a0 ∧ a0 < 3)) ∧ (0 ≤ a1 ∧ a1 ≤ 5)) ∧ r = iZ (zCP (sse S (a0.toNat + 4)) (sna S (a0.toNat + 4)) (sow S (a0.toNat + 4)) a1) ∧ ws' = mRw ad ae cs K (mJof S 0) rest) ∨ (¬ ((0 ≤ a0 ∧ a0 < 3)) ∧ ws' = mRw ad ae cs K (mJof S 1) rest) ∨ (((0 ≤ a0 ∧ a0 < 3)) ∧ ¬ (0 ≤ a1 ∧ a1 ≤ 5) ∧ ws' = mRw ad ae cs K (mJof S 2) rest))) mNo := by
  refine mCt.of (by decide +kernel) (Nat.le_of_ble_eq_true rfl) (fun X hX hE => ?_)
  replace hX : mOK X RX4 cX4_ofClock 3 ⟨7, 1, 4, 164⟩ [] (mTy cs) := hX
  refine r_aload_n hX dX4_ofClock_0 rfl rfl (r_iload_n hX dX4_ofClock_1 rfl rfl (r_callS hX (z_X4_isNoClock _ _ _ (by first | with_reducible assumption | decide | omega)) ks_X4_205 rfl rfl (Nat.le_of_ble_eq_true rfl) ⟨(Nat.le_of_ble_eq_true rfl), (Nat.le_of_ble_eq_true rfl)⟩ ⟨(Nat.le_of_ble_eq_true rfl), (Nat.le_of_ble_eq_true rfl)⟩ dX4_ofClock_2 (fun _ _ z => False.elim z) (fun v9 ws9 h1 => ?_)))
  obtain ⟨rfl, hw9⟩ := h1
  subst ws9
  dsimp only [mPush]
  refine r_iload_n hX dX4_ofClock_5 rfl rfl (r_i2lZ hX dX4_ofClock_6 (by first | with_reducible assumption | decide | omega) (r_lconstZ (v := 0) hX dX4_ofClock_7 rfl (r_ldc2Z (z := 5) hX kc_X4_214 (by decide +kernel) dX4_ofClock_8 (r_callS hX (z_X4_isIn _ _ _ _ _ (by first | with_reducible assumption | decide | omega) (by first | with_reducible assumption | decide | omega) (by first | with_reducible assumption | decide | omega)) ks_X4_38 rfl rfl (Nat.le_of_ble_eq_true rfl) ⟨(Nat.le_of_ble_eq_true rfl), (Nat.le_of_ble_eq_true rfl)⟩ ⟨(Nat.le_of_ble_eq_true rfl), (Nat.le_of_ble_eq_true rfl)⟩ dX4_ofClock_11 (fun _ _ z => False.elim z) (fun v9 ws9 h2 => ?_)))))
  obtain ⟨rfl, hw9⟩ := h2
  subst ws9
  dsimp only [mPush]
  refine r_if_neB (tgt := 21) hX dX4_ofClock_14 (by decide) (fun c3 => ?_) (fun c3 => ?_)
  · have c3 := of_decide_eq_true c3
    refine r_iconst (v := b2i false) hX dX4_ofClock_21 (by decide) (r_callV hX (z_X4_isStopped ad ae cs K S th rest (decide (¬ (0 ≤ a0 ∧ a0 < 3))) false) kv_X4_68 14 rfl rfl rfl rfl (Nat.le_of_ble_eq_true rfl) ⟨(Nat.le_of_ble_eq_true rfl), (Nat.le_of_ble_eq_true rfl)⟩ ⟨(Nat.le_of_ble_eq_true rfl), (Nat.le_of_ble_eq_true rfl)⟩ dX4_ofClock_22 (fun _ _ z => False.elim z) (fun v9 ws9 h4 => ?_))
    obtain ⟨rfl, hw9⟩ := h4
    subst ws9
    dsimp only [mPush]
    refine r_if_eqB (tgt := 32) hX dX4_ofClock_25 (by decide) (fun c5 => ?_) (fun c5 => ?_)
    · obtain ⟨⟨hx, hy⟩, e0⟩ := zst0 c5
      have hx := of_decide_eq_false hx
      rw [e0]
      refine r_aload_n hX dX4_ofClock_32 rfl rfl (r_iload_n hX dX4_ofClock_33 rfl rfl (r_iload_n hX dX4_ofClock_34 rfl rfl (r_callV hX (z_X4_clockTold ad ae cs K S 0 rest hS _ (a0).toNat (by first | with_reducible assumption | decide | omega) (by first | with_reducible assumption | decide | omega) _ (by first | with_reducible assumption | decide | omega)) kv_X4_216 14 rfl rfl rfl rfl (Nat.le_of_ble_eq_true rfl) ⟨(Nat.le_of_ble_eq_true rfl), (Nat.le_of_ble_eq_true rfl)⟩ ⟨(Nat.le_of_ble_eq_true rfl), (Nat.le_of_ble_eq_true rfl)⟩ dX4_ofClock_35 (fun _ _ z => False.elim z) (fun v9 ws9 h6 => ?_))))
      obtain ⟨rfl, hw9⟩ := h6
      subst ws9
      dsimp only [mPush]
      refine r_iret hX hE dX4_ofClock_38 (Nat.le_of_ble_eq_true rfl) (Nat.le_of_ble_eq_true rfl) ⟨_, rfl, Or.inl ⟨by omega, congrArg iZ ?_, rfl⟩⟩
      rfl
    · rcases zst1 c5 with ⟨hx, e0⟩ | ⟨hx, hy, e0⟩
      · rw [e0]
        have hx := of_decide_eq_true hx
        refine r_iconstZ hX dX4_ofClock_28 (r_goto (tgt := 38) hX dX4_ofClock_29 (by decide) ?_)
        exact r_iret hX hE dX4_ofClock_38 (Nat.le_of_ble_eq_true rfl) (Nat.le_of_ble_eq_true rfl) ⟨_, rfl, Or.inr (Or.inl ⟨by omega, rfl⟩)⟩
      · exact absurd hy (by decide)
  · have c3 := of_decide_eq_false c3
    refine r_iconst (v := b2i true) hX dX4_ofClock_17 (by decide) (r_goto (tgt := 22) hX dX4_ofClock_18 (by decide) (r_callV hX (z_X4_isStopped ad ae cs K S th rest (decide (¬ (0 ≤ a0 ∧ a0 < 3))) true) kv_X4_68 14 rfl rfl rfl rfl (Nat.le_of_ble_eq_true rfl) ⟨(Nat.le_of_ble_eq_true rfl), (Nat.le_of_ble_eq_true rfl)⟩ ⟨(Nat.le_of_ble_eq_true rfl), (Nat.le_of_ble_eq_true rfl)⟩ dX4_ofClock_22 (fun _ _ z => False.elim z) (fun v9 ws9 h7 => ?_)))
    obtain ⟨rfl, hw9⟩ := h7
    subst ws9
    dsimp only [mPush]
    refine r_if_eqB (tgt := 32) hX dX4_ofClock_25 (by decide) (fun c8 => ?_) (fun c8 => ?_)
    · exact absurd c8 (by simp)
    · rcases zst1 c8 with ⟨hx, e0⟩ | ⟨hx, hy, e0⟩
      · rw [e0]
        have hx := of_decide_eq_true hx
        refine r_iconstZ hX dX4_ofClock_28 (r_goto (tgt := 38) hX dX4_ofClock_29 (by decide) ?_)
        exact r_iret hX hE dX4_ofClock_38 (Nat.le_of_ble_eq_true rfl) (Nat.le_of_ble_eq_true rfl) ⟨_, rfl, Or.inr (Or.inl ⟨by omega, rfl⟩)⟩
      · rw [e0]
        have hx := of_decide_eq_false hx
        refine r_iconstZ hX dX4_ofClock_28 (r_goto (tgt := 38) hX dX4_ofClock_29 (by decide) ?_)
        exact r_iret hX hE dX4_ofClock_38 (Nat.le_of_ble_eq_true rfl) (Nat.le_of_ble_eq_true rfl) ⟨_, rfl, Or.inr (Or.inr ⟨by omega, by omega, rfl⟩)⟩
set_option maxHeartbeats 4000000 in
set_option maxRecDepth 20000 in
theorem z_X4_orderClock (ad ae : Nat → Nat) (cs : ClassId × ClassId × ClassId) (K : mK) (S : mS) (th : Int32) (rest : va_W) (hS : sWF S) (a0 : Int) (h0 : rJ a0) (a1 : Int) (h1 : rJ a1)  : mCt (mTy cs) yX4_orderClock cX4_orderClock 3 (some .int) ⟨3, 0, 0, 65⟩ [.ref (ae 0), .int (iZ a0), .int (iZ a1)] (mRw ad ae cs K (mJof S th) rest) (fun v ws' => ∃ r : Int32, v = some (.int r) ∧ (((((0 ≤ a0 ∧ a0 < 3) ∧ (0 ≤ a1 ∧ a1 < 3)) ∧ (0 ≤ (0 : Int))) ∧ r = iZ (zTo (sse S (a0.toNat + 4)) (sna S (a0.toNat + 4)) (sow S (a0.toNat + 4)) (sse S (a1.toNat + 4)) (sna S (a1.toNat + 4)) (sow S (a1.toNat + 4))) ∧ ws' = mRw ad ae cs K (mJof S 0) rest) ∨ (¬ ((0 ≤ a0 ∧ a0 < 3) ∧ (0 ≤ a1 ∧ a1 < 3)) ∧ ws' = mRw ad ae cs K (mJof S 1) rest) ∨ (((0 ≤ a0 ∧ a0 < 3) ∧ (0 ≤ a1 ∧ a1 < 3)) ∧ ¬ (0 ≤ (0 : Int)) ∧ ws' = mRw ad ae cs K (mJof S 2) rest))) mNo := by
  refine mCt.of (by decide +kernel) (Nat.le_of_ble_eq_true rfl) (fun X hX hE => ?_)
  replace hX : mOK X RX4 cX4_orderClock 3 ⟨3, 0, 0, 65⟩ [] (mTy cs) := hX
  refine r_aload_n hX dX4_orderClock_0 rfl rfl (r_iload_n hX dX4_orderClock_1 rfl rfl (r_callS hX (z_X4_isNoClock _ _ _ (by first | with_reducible assumption | decide | omega)) ks_X4_205 rfl rfl (Nat.le_of_ble_eq_true rfl) ⟨(Nat.le_of_ble_eq_true rfl), (Nat.le_of_ble_eq_true rfl)⟩ ⟨(Nat.le_of_ble_eq_true rfl), (Nat.le_of_ble_eq_true rfl)⟩ dX4_orderClock_2 (fun _ _ z => False.elim z) (fun v9 ws9 h1 => ?_)))
  obtain ⟨rfl, hw9⟩ := h1
  subst ws9
  dsimp only [mPush]
  refine r_if_neB (tgt := 15) hX dX4_orderClock_5 (by decide) (fun c2 => ?_) (fun c2 => ?_)
  · have c2 := of_decide_eq_true c2
    refine r_iconst (v := b2i true) hX dX4_orderClock_15 (by decide) (r_goto (tgt := 20) hX dX4_orderClock_16 (by decide) (r_iconst (v := b2i false) hX dX4_orderClock_20 (by decide) (r_callV hX (z_X4_isStopped ad ae cs K S th rest true false) kv_X4_68 14 rfl rfl rfl rfl (Nat.le_of_ble_eq_true rfl) ⟨(Nat.le_of_ble_eq_true rfl), (Nat.le_of_ble_eq_true rfl)⟩ ⟨(Nat.le_of_ble_eq_true rfl), (Nat.le_of_ble_eq_true rfl)⟩ dX4_orderClock_21 (fun _ _ z => False.elim z) (fun v9 ws9 h3 => ?_))))
    obtain ⟨rfl, hw9⟩ := h3
    subst ws9
    dsimp only [mPush]
    refine r_if_eqB (tgt := 31) hX dX4_orderClock_24 (by decide) (fun c4 => ?_) (fun c4 => ?_)
    · exact absurd c4 (by simp)
    · rcases zst1 c4 with ⟨hx, e0⟩ | ⟨hx, hy, e0⟩
      · rw [e0]
        refine r_iconstZ hX dX4_orderClock_27 (r_goto (tgt := 41) hX dX4_orderClock_28 (by decide) ?_)
        exact r_iret hX hE dX4_orderClock_41 (Nat.le_of_ble_eq_true rfl) (Nat.le_of_ble_eq_true rfl) ⟨_, rfl, Or.inr (Or.inl ⟨by omega, rfl⟩)⟩
      · exact absurd hx (by decide)
  · have c2 := of_decide_eq_false c2
    refine r_iload_n hX dX4_orderClock_8 rfl rfl (r_callS hX (z_X4_isNoClock _ _ _ (by first | with_reducible assumption | decide | omega)) ks_X4_205 rfl rfl (Nat.le_of_ble_eq_true rfl) ⟨(Nat.le_of_ble_eq_true rfl), (Nat.le_of_ble_eq_true rfl)⟩ ⟨(Nat.le_of_ble_eq_true rfl), (Nat.le_of_ble_eq_true rfl)⟩ dX4_orderClock_9 (fun _ _ z => False.elim z) (fun v9 ws9 h5 => ?_))
    obtain ⟨rfl, hw9⟩ := h5
    subst ws9
    dsimp only [mPush]
    refine r_if_eqB (tgt := 19) hX dX4_orderClock_12 (by decide) (fun c6 => ?_) (fun c6 => ?_)
    · have c6 := of_decide_eq_false c6
      refine r_iconst (v := b2i false) hX dX4_orderClock_19 (by decide) (r_iconst (v := b2i false) hX dX4_orderClock_20 (by decide) (r_callV hX (z_X4_isStopped ad ae cs K S th rest false false) kv_X4_68 14 rfl rfl rfl rfl (Nat.le_of_ble_eq_true rfl) ⟨(Nat.le_of_ble_eq_true rfl), (Nat.le_of_ble_eq_true rfl)⟩ ⟨(Nat.le_of_ble_eq_true rfl), (Nat.le_of_ble_eq_true rfl)⟩ dX4_orderClock_21 (fun _ _ z => False.elim z) (fun v9 ws9 h7 => ?_)))
      obtain ⟨rfl, hw9⟩ := h7
      subst ws9
      dsimp only [mPush]
      refine r_if_eqB (tgt := 31) hX dX4_orderClock_24 (by decide) (fun c8 => ?_) (fun c8 => ?_)
      · obtain ⟨⟨hx, hy⟩, e0⟩ := zst0 c8
        rw [e0]
        refine r_aload_n hX dX4_orderClock_31 rfl rfl (r_iconstZ hX dX4_orderClock_32 (r_iload_n hX dX4_orderClock_33 rfl rfl (r_iaddZ hX dX4_orderClock_34 (r_iconstZ hX dX4_orderClock_35 (r_iload_n hX dX4_orderClock_36 rfl rfl (r_iaddZ hX dX4_orderClock_37 (r_callV hX (z_X4_ordered ad ae cs K S 0 rest hS _ (a0.toNat + 4) (by first | with_reducible assumption | decide | omega) (by first | with_reducible assumption | decide | omega) _ (a1.toNat + 4) (by first | with_reducible assumption | decide | omega) (by first | with_reducible assumption | decide | omega)) kv_X4_196 14 rfl rfl rfl rfl (Nat.le_of_ble_eq_true rfl) ⟨(Nat.le_of_ble_eq_true rfl), (Nat.le_of_ble_eq_true rfl)⟩ ⟨(Nat.le_of_ble_eq_true rfl), (Nat.le_of_ble_eq_true rfl)⟩ dX4_orderClock_38 (fun _ _ z => False.elim z) (fun v9 ws9 h9 => ?_))))))))
        obtain ⟨rfl, hw9⟩ := h9
        subst ws9
        dsimp only [mPush]
        have hto9 := zTo_b (sse S (a0.toNat + 4)) (sna S (a0.toNat + 4)) (sow S (a0.toNat + 4)) (sse S (a1.toNat + 4)) (sna S (a1.toNat + 4)) (sow S (a1.toNat + 4))
        refine r_iret hX hE dX4_orderClock_41 (Nat.le_of_ble_eq_true rfl) (Nat.le_of_ble_eq_true rfl) ⟨_, rfl, Or.inl ⟨by omega, congrArg iZ ?_, rfl⟩⟩
        rfl
      · rcases zst1 c8 with ⟨hx, e0⟩ | ⟨hx, hy, e0⟩
        · exact absurd hx (by decide)
        · exact absurd hy (by decide)
    · have c6 := of_decide_eq_true c6
      refine r_iconst (v := b2i true) hX dX4_orderClock_15 (by decide) (r_goto (tgt := 20) hX dX4_orderClock_16 (by decide) (r_iconst (v := b2i false) hX dX4_orderClock_20 (by decide) (r_callV hX (z_X4_isStopped ad ae cs K S th rest true false) kv_X4_68 14 rfl rfl rfl rfl (Nat.le_of_ble_eq_true rfl) ⟨(Nat.le_of_ble_eq_true rfl), (Nat.le_of_ble_eq_true rfl)⟩ ⟨(Nat.le_of_ble_eq_true rfl), (Nat.le_of_ble_eq_true rfl)⟩ dX4_orderClock_21 (fun _ _ z => False.elim z) (fun v9 ws9 h10 => ?_))))
      obtain ⟨rfl, hw9⟩ := h10
      subst ws9
      dsimp only [mPush]
      refine r_if_eqB (tgt := 31) hX dX4_orderClock_24 (by decide) (fun c11 => ?_) (fun c11 => ?_)
      · exact absurd c11 (by simp)
      · rcases zst1 c11 with ⟨hx, e0⟩ | ⟨hx, hy, e0⟩
        · rw [e0]
          refine r_iconstZ hX dX4_orderClock_27 (r_goto (tgt := 41) hX dX4_orderClock_28 (by decide) ?_)
          exact r_iret hX hE dX4_orderClock_41 (Nat.le_of_ble_eq_true rfl) (Nat.le_of_ble_eq_true rfl) ⟨_, rfl, Or.inr (Or.inl ⟨by omega, rfl⟩)⟩
        · exact absurd hx (by decide)
set_option maxHeartbeats 4000000 in
set_option maxRecDepth 20000 in
theorem z_X4_isClock (ad ae : Nat → Nat) (cs : ClassId × ClassId × ClassId) (K : mK) (S : mS) (th : Int32) (rest : va_W) (hS : sWF S) (a0 : Int) (h0 : rJ a0) (a1 : Int) (h1 : rJ a1) (a2 : Int) (h2 : rJ a2)  : mCt (mTy cs) yX4_isClock cX4_isClock 4 (some .boolean) ⟨3, 0, 0, 66⟩ [.ref (ae 0), .int (iZ a0), .int (iZ a1), .int (iZ a2)] (mRw ad ae cs K (mJof S th) rest) (fun v ws' => ∃ r : Int32, v = some (.int r) ∧ (((((0 ≤ a0 ∧ a0 < 3) ∧ (0 ≤ a1 ∧ a1 < 3)) ∧ (0 ≤ a2 ∧ a2 ≤ 3)) ∧ r = b2i (zSo (sse S (a0.toNat + 4)) (sna S (a0.toNat + 4)) (sow S (a0.toNat + 4)) (sse S (a1.toNat + 4)) (sna S (a1.toNat + 4)) (sow S (a1.toNat + 4)) a2) ∧ ws' = mRw ad ae cs K (mJof S 0) rest) ∨ (¬ ((0 ≤ a0 ∧ a0 < 3) ∧ (0 ≤ a1 ∧ a1 < 3)) ∧ ws' = mRw ad ae cs K (mJof S 1) rest) ∨ (((0 ≤ a0 ∧ a0 < 3) ∧ (0 ≤ a1 ∧ a1 < 3)) ∧ ¬ (0 ≤ a2 ∧ a2 ≤ 3) ∧ ws' = mRw ad ae cs K (mJof S 2) rest))) mNo := by
  refine mCt.of (by decide +kernel) (Nat.le_of_ble_eq_true rfl) (fun X hX hE => ?_)
  replace hX : mOK X RX4 cX4_isClock 4 ⟨3, 0, 0, 66⟩ [] (mTy cs) := hX
  refine r_aload_n hX dX4_isClock_0 rfl rfl (r_iload_n hX dX4_isClock_1 rfl rfl (r_callS hX (z_X4_isNoClock _ _ _ (by first | with_reducible assumption | decide | omega)) ks_X4_205 rfl rfl (Nat.le_of_ble_eq_true rfl) ⟨(Nat.le_of_ble_eq_true rfl), (Nat.le_of_ble_eq_true rfl)⟩ ⟨(Nat.le_of_ble_eq_true rfl), (Nat.le_of_ble_eq_true rfl)⟩ dX4_isClock_2 (fun _ _ z => False.elim z) (fun v9 ws9 h1 => ?_)))
  obtain ⟨rfl, hw9⟩ := h1
  subst ws9
  dsimp only [mPush]
  refine r_if_neB (tgt := 15) hX dX4_isClock_5 (by decide) (fun c2 => ?_) (fun c2 => ?_)
  · have c2 := of_decide_eq_true c2
    refine r_iconst (v := b2i true) hX dX4_isClock_15 (by decide) (r_goto (tgt := 20) hX dX4_isClock_16 (by decide) (r_iload_n hX dX4_isClock_20 rfl rfl (r_i2lZ hX dX4_isClock_21 (by first | with_reducible assumption | decide | omega) (r_lconstZ (v := 0) hX dX4_isClock_22 rfl (r_ldc2Z (z := 3) hX kc_X4_36 (by decide +kernel) dX4_isClock_23 (r_callS hX (z_X4_isIn _ _ _ _ _ (by first | with_reducible assumption | decide | omega) (by first | with_reducible assumption | decide | omega) (by first | with_reducible assumption | decide | omega)) ks_X4_38 rfl rfl (Nat.le_of_ble_eq_true rfl) ⟨(Nat.le_of_ble_eq_true rfl), (Nat.le_of_ble_eq_true rfl)⟩ ⟨(Nat.le_of_ble_eq_true rfl), (Nat.le_of_ble_eq_true rfl)⟩ dX4_isClock_26 (fun _ _ z => False.elim z) (fun v9 ws9 h3 => ?_)))))))
    obtain ⟨rfl, hw9⟩ := h3
    subst ws9
    dsimp only [mPush]
    refine r_if_neB (tgt := 36) hX dX4_isClock_29 (by decide) (fun c4 => ?_) (fun c4 => ?_)
    · have c4 := of_decide_eq_true c4
      refine r_iconst (v := b2i false) hX dX4_isClock_36 (by decide) (r_callV hX (z_X4_isStopped ad ae cs K S th rest true false) kv_X4_68 14 rfl rfl rfl rfl (Nat.le_of_ble_eq_true rfl) ⟨(Nat.le_of_ble_eq_true rfl), (Nat.le_of_ble_eq_true rfl)⟩ ⟨(Nat.le_of_ble_eq_true rfl), (Nat.le_of_ble_eq_true rfl)⟩ dX4_isClock_37 (fun _ _ z => False.elim z) (fun v9 ws9 h5 => ?_))
      obtain ⟨rfl, hw9⟩ := h5
      subst ws9
      dsimp only [mPush]
      refine r_if_neB (tgt := 61) hX dX4_isClock_40 (by decide) (fun c6 => ?_) (fun c6 => ?_)
      · rcases zst1 c6 with ⟨hx, e0⟩ | ⟨hx, hy, e0⟩
        · rw [e0]
          refine r_iconstZ hX dX4_isClock_61 ?_
          exact r_zret hX hE dX4_isClock_62 (by decide) (Nat.le_of_ble_eq_true rfl) (Nat.le_of_ble_eq_true rfl) ⟨_, rfl, Or.inr (Or.inl ⟨by omega, rfl⟩)⟩
        · exact absurd hx (by decide)
      · exact absurd c6 (by simp)
    · have c4 := of_decide_eq_false c4
      refine r_iconst (v := b2i true) hX dX4_isClock_32 (by decide) (r_goto (tgt := 37) hX dX4_isClock_33 (by decide) (r_callV hX (z_X4_isStopped ad ae cs K S th rest true true) kv_X4_68 14 rfl rfl rfl rfl (Nat.le_of_ble_eq_true rfl) ⟨(Nat.le_of_ble_eq_true rfl), (Nat.le_of_ble_eq_true rfl)⟩ ⟨(Nat.le_of_ble_eq_true rfl), (Nat.le_of_ble_eq_true rfl)⟩ dX4_isClock_37 (fun _ _ z => False.elim z) (fun v9 ws9 h7 => ?_)))
      obtain ⟨rfl, hw9⟩ := h7
      subst ws9
      dsimp only [mPush]
      refine r_if_neB (tgt := 61) hX dX4_isClock_40 (by decide) (fun c8 => ?_) (fun c8 => ?_)
      · rcases zst1 c8 with ⟨hx, e0⟩ | ⟨hx, hy, e0⟩
        · rw [e0]
          refine r_iconstZ hX dX4_isClock_61 ?_
          exact r_zret hX hE dX4_isClock_62 (by decide) (Nat.le_of_ble_eq_true rfl) (Nat.le_of_ble_eq_true rfl) ⟨_, rfl, Or.inr (Or.inl ⟨by omega, rfl⟩)⟩
        · exact absurd hx (by decide)
      · exact absurd c8 (by simp)
  · have c2 := of_decide_eq_false c2
    refine r_iload_n hX dX4_isClock_8 rfl rfl (r_callS hX (z_X4_isNoClock _ _ _ (by first | with_reducible assumption | decide | omega)) ks_X4_205 rfl rfl (Nat.le_of_ble_eq_true rfl) ⟨(Nat.le_of_ble_eq_true rfl), (Nat.le_of_ble_eq_true rfl)⟩ ⟨(Nat.le_of_ble_eq_true rfl), (Nat.le_of_ble_eq_true rfl)⟩ dX4_isClock_9 (fun _ _ z => False.elim z) (fun v9 ws9 h9 => ?_))
    obtain ⟨rfl, hw9⟩ := h9
    subst ws9
    dsimp only [mPush]
    refine r_if_eqB (tgt := 19) hX dX4_isClock_12 (by decide) (fun c10 => ?_) (fun c10 => ?_)
    · have c10 := of_decide_eq_false c10
      refine r_iconst (v := b2i false) hX dX4_isClock_19 (by decide) (r_iload_n hX dX4_isClock_20 rfl rfl (r_i2lZ hX dX4_isClock_21 (by first | with_reducible assumption | decide | omega) (r_lconstZ (v := 0) hX dX4_isClock_22 rfl (r_ldc2Z (z := 3) hX kc_X4_36 (by decide +kernel) dX4_isClock_23 (r_callS hX (z_X4_isIn _ _ _ _ _ (by first | with_reducible assumption | decide | omega) (by first | with_reducible assumption | decide | omega) (by first | with_reducible assumption | decide | omega)) ks_X4_38 rfl rfl (Nat.le_of_ble_eq_true rfl) ⟨(Nat.le_of_ble_eq_true rfl), (Nat.le_of_ble_eq_true rfl)⟩ ⟨(Nat.le_of_ble_eq_true rfl), (Nat.le_of_ble_eq_true rfl)⟩ dX4_isClock_26 (fun _ _ z => False.elim z) (fun v9 ws9 h11 => ?_))))))
      obtain ⟨rfl, hw9⟩ := h11
      subst ws9
      dsimp only [mPush]
      refine r_if_neB (tgt := 36) hX dX4_isClock_29 (by decide) (fun c12 => ?_) (fun c12 => ?_)
      · have c12 := of_decide_eq_true c12
        refine r_iconst (v := b2i false) hX dX4_isClock_36 (by decide) (r_callV hX (z_X4_isStopped ad ae cs K S th rest false false) kv_X4_68 14 rfl rfl rfl rfl (Nat.le_of_ble_eq_true rfl) ⟨(Nat.le_of_ble_eq_true rfl), (Nat.le_of_ble_eq_true rfl)⟩ ⟨(Nat.le_of_ble_eq_true rfl), (Nat.le_of_ble_eq_true rfl)⟩ dX4_isClock_37 (fun _ _ z => False.elim z) (fun v9 ws9 h13 => ?_))
        obtain ⟨rfl, hw9⟩ := h13
        subst ws9
        dsimp only [mPush]
        refine r_if_neB (tgt := 61) hX dX4_isClock_40 (by decide) (fun c14 => ?_) (fun c14 => ?_)
        · rcases zst1 c14 with ⟨hx, e0⟩ | ⟨hx, hy, e0⟩
          · exact absurd hx (by decide)
          · exact absurd hy (by decide)
        · obtain ⟨⟨hx, hy⟩, e0⟩ := zst0 c14
          rw [e0]
          refine r_aload_n hX dX4_isClock_43 rfl rfl (r_iconstZ hX dX4_isClock_44 (r_iload_n hX dX4_isClock_45 rfl rfl (r_iaddZ hX dX4_isClock_46 (r_iconstZ hX dX4_isClock_47 (r_iload_n hX dX4_isClock_48 rfl rfl (r_iaddZ hX dX4_isClock_49 (r_iload_n hX dX4_isClock_50 rfl rfl ?_)))))))
          refine r_callV hX (z_X4_is ad ae cs K S 0 rest hS _ (a0.toNat + 4) (by first | with_reducible assumption | decide | omega) (by first | with_reducible assumption | decide | omega) _ (a1.toNat + 4) (by first | with_reducible assumption | decide | omega) (by first | with_reducible assumption | decide | omega) _ (by first | with_reducible assumption | decide | omega)) kv_X4_199 14 rfl rfl rfl rfl (Nat.le_of_ble_eq_true rfl) ⟨(Nat.le_of_ble_eq_true rfl), (Nat.le_of_ble_eq_true rfl)⟩ ⟨(Nat.le_of_ble_eq_true rfl), (Nat.le_of_ble_eq_true rfl)⟩ dX4_isClock_51 (fun _ _ z => False.elim z) (fun v9 ws9 h15 => ?_)
          obtain ⟨rfl, hw9⟩ := h15
          subst ws9
          dsimp only [mPush]
          refine r_if_eqB (tgt := 61) hX dX4_isClock_54 (by decide) (fun c16 => ?_) (fun c16 => ?_)
          · have c16 := id c16
            refine r_iconstZ hX dX4_isClock_61 (r_zret hX hE dX4_isClock_62 (by decide) (Nat.le_of_ble_eq_true rfl) (Nat.le_of_ble_eq_true rfl) ⟨_, rfl, Or.inl ⟨by omega, ?_, rfl⟩⟩)
            exact (b2i_f (by assumption)).symm
          · have c16 := id c16
            refine r_iconstZ hX dX4_isClock_57 (r_goto (tgt := 62) hX dX4_isClock_58 (by decide) (r_zret hX hE dX4_isClock_62 (by decide) (Nat.le_of_ble_eq_true rfl) (Nat.le_of_ble_eq_true rfl) ⟨_, rfl, Or.inl ⟨by omega, ?_, rfl⟩⟩))
            exact (b2i_t (by assumption)).symm
      · have c12 := of_decide_eq_false c12
        refine r_iconst (v := b2i true) hX dX4_isClock_32 (by decide) (r_goto (tgt := 37) hX dX4_isClock_33 (by decide) (r_callV hX (z_X4_isStopped ad ae cs K S th rest false true) kv_X4_68 14 rfl rfl rfl rfl (Nat.le_of_ble_eq_true rfl) ⟨(Nat.le_of_ble_eq_true rfl), (Nat.le_of_ble_eq_true rfl)⟩ ⟨(Nat.le_of_ble_eq_true rfl), (Nat.le_of_ble_eq_true rfl)⟩ dX4_isClock_37 (fun _ _ z => False.elim z) (fun v9 ws9 h17 => ?_)))
        obtain ⟨rfl, hw9⟩ := h17
        subst ws9
        dsimp only [mPush]
        refine r_if_neB (tgt := 61) hX dX4_isClock_40 (by decide) (fun c18 => ?_) (fun c18 => ?_)
        · rcases zst1 c18 with ⟨hx, e0⟩ | ⟨hx, hy, e0⟩
          · exact absurd hx (by decide)
          · rw [e0]
            refine r_iconstZ hX dX4_isClock_61 ?_
            exact r_zret hX hE dX4_isClock_62 (by decide) (Nat.le_of_ble_eq_true rfl) (Nat.le_of_ble_eq_true rfl) ⟨_, rfl, Or.inr (Or.inr ⟨by omega, by omega, rfl⟩)⟩
        · exact absurd c18 (by simp)
    · have c10 := of_decide_eq_true c10
      refine r_iconst (v := b2i true) hX dX4_isClock_15 (by decide) (r_goto (tgt := 20) hX dX4_isClock_16 (by decide) (r_iload_n hX dX4_isClock_20 rfl rfl (r_i2lZ hX dX4_isClock_21 (by first | with_reducible assumption | decide | omega) (r_lconstZ (v := 0) hX dX4_isClock_22 rfl (r_ldc2Z (z := 3) hX kc_X4_36 (by decide +kernel) dX4_isClock_23 (r_callS hX (z_X4_isIn _ _ _ _ _ (by first | with_reducible assumption | decide | omega) (by first | with_reducible assumption | decide | omega) (by first | with_reducible assumption | decide | omega)) ks_X4_38 rfl rfl (Nat.le_of_ble_eq_true rfl) ⟨(Nat.le_of_ble_eq_true rfl), (Nat.le_of_ble_eq_true rfl)⟩ ⟨(Nat.le_of_ble_eq_true rfl), (Nat.le_of_ble_eq_true rfl)⟩ dX4_isClock_26 (fun _ _ z => False.elim z) (fun v9 ws9 h19 => ?_)))))))
      obtain ⟨rfl, hw9⟩ := h19
      subst ws9
      dsimp only [mPush]
      refine r_if_neB (tgt := 36) hX dX4_isClock_29 (by decide) (fun c20 => ?_) (fun c20 => ?_)
      · have c20 := of_decide_eq_true c20
        refine r_iconst (v := b2i false) hX dX4_isClock_36 (by decide) (r_callV hX (z_X4_isStopped ad ae cs K S th rest true false) kv_X4_68 14 rfl rfl rfl rfl (Nat.le_of_ble_eq_true rfl) ⟨(Nat.le_of_ble_eq_true rfl), (Nat.le_of_ble_eq_true rfl)⟩ ⟨(Nat.le_of_ble_eq_true rfl), (Nat.le_of_ble_eq_true rfl)⟩ dX4_isClock_37 (fun _ _ z => False.elim z) (fun v9 ws9 h21 => ?_))
        obtain ⟨rfl, hw9⟩ := h21
        subst ws9
        dsimp only [mPush]
        refine r_if_neB (tgt := 61) hX dX4_isClock_40 (by decide) (fun c22 => ?_) (fun c22 => ?_)
        · rcases zst1 c22 with ⟨hx, e0⟩ | ⟨hx, hy, e0⟩
          · rw [e0]
            refine r_iconstZ hX dX4_isClock_61 ?_
            exact r_zret hX hE dX4_isClock_62 (by decide) (Nat.le_of_ble_eq_true rfl) (Nat.le_of_ble_eq_true rfl) ⟨_, rfl, Or.inr (Or.inl ⟨by omega, rfl⟩)⟩
          · exact absurd hx (by decide)
        · exact absurd c22 (by simp)
      · have c20 := of_decide_eq_false c20
        refine r_iconst (v := b2i true) hX dX4_isClock_32 (by decide) (r_goto (tgt := 37) hX dX4_isClock_33 (by decide) (r_callV hX (z_X4_isStopped ad ae cs K S th rest true true) kv_X4_68 14 rfl rfl rfl rfl (Nat.le_of_ble_eq_true rfl) ⟨(Nat.le_of_ble_eq_true rfl), (Nat.le_of_ble_eq_true rfl)⟩ ⟨(Nat.le_of_ble_eq_true rfl), (Nat.le_of_ble_eq_true rfl)⟩ dX4_isClock_37 (fun _ _ z => False.elim z) (fun v9 ws9 h23 => ?_)))
        obtain ⟨rfl, hw9⟩ := h23
        subst ws9
        dsimp only [mPush]
        refine r_if_neB (tgt := 61) hX dX4_isClock_40 (by decide) (fun c24 => ?_) (fun c24 => ?_)
        · rcases zst1 c24 with ⟨hx, e0⟩ | ⟨hx, hy, e0⟩
          · rw [e0]
            refine r_iconstZ hX dX4_isClock_61 ?_
            exact r_zret hX hE dX4_isClock_62 (by decide) (Nat.le_of_ble_eq_true rfl) (Nat.le_of_ble_eq_true rfl) ⟨_, rfl, Or.inr (Or.inl ⟨by omega, rfl⟩)⟩
          · exact absurd hx (by decide)
        · exact absurd c24 (by simp)
end
-- 77 zrmove
section
/-! The reference, exact (rows by a program of this repository). -/
set_option maxHeartbeats 4000000 in
set_option maxRecDepth 20000 in
theorem z_X4_moveDate (ad ae : Nat → Nat) (cs : ClassId × ClassId × ClassId) (K : mK) (S : mS) (th : Int32) (rest : va_W) (hS : sWF S) (a0 : Int) (h0 : rJ a0) (a1 : Int) (h1 : rJ a1) (a2 : Int) (h2 : rJ a2) (b3 : Bool)  : mCt (mTy cs) yX4_moveDate cX4_moveDate 9 (some .int) ⟨6, 1, 4, 147⟩ [.ref (ae 0), .int (iZ a0), .int (iZ a1), .int (iZ a2), .int (b2i b3)] (mRw ad ae cs K (mJof S th) rest) (fun v ws' => ∃ r : Int32, v = some (.int r) ∧ (((((0 ≤ a0 ∧ a0 < 4)) ∧ (0 ≤ a1 ∧ a1 ≤ 7)) ∧ r = iZ (oMv S a0.toNat a1 (zSg a2 b3)).1 ∧ ws' = mRw ad ae cs K (mJof (oMv S a0.toNat a1 (zSg a2 b3)).2 0) rest) ∨ (¬ ((0 ≤ a0 ∧ a0 < 4)) ∧ ws' = mRw ad ae cs K (mJof S 1) rest) ∨ (((0 ≤ a0 ∧ a0 < 4)) ∧ ¬ (0 ≤ a1 ∧ a1 ≤ 7) ∧ ws' = mRw ad ae cs K (mJof S 2) rest))) mNo := by
  refine mCt.of (by decide +kernel) (Nat.le_of_ble_eq_true rfl) (fun X hX hE => ?_)
  replace hX : mOK X RX4 cX4_moveDate 9 ⟨6, 1, 4, 147⟩ [] (mTy cs) := hX
  refine r_aload_n hX dX4_moveDate_0 rfl rfl (r_iload_n hX dX4_moveDate_1 rfl rfl (r_callS hX (z_X4_isNone _ _ _ (by first | with_reducible assumption | decide | omega)) ks_X4_61 rfl rfl (Nat.le_of_ble_eq_true rfl) ⟨(Nat.le_of_ble_eq_true rfl), (Nat.le_of_ble_eq_true rfl)⟩ ⟨(Nat.le_of_ble_eq_true rfl), (Nat.le_of_ble_eq_true rfl)⟩ dX4_moveDate_2 (fun _ _ z => False.elim z) (fun v9 ws9 h1 => ?_)))
  obtain ⟨rfl, hw9⟩ := h1
  subst ws9
  dsimp only [mPush]
  refine r_iload_n hX dX4_moveDate_5 rfl rfl (r_i2lZ hX dX4_moveDate_6 (by first | with_reducible assumption | decide | omega) (r_lconstZ (v := 0) hX dX4_moveDate_7 rfl (r_ldc2Z (z := 7) hX kc_X4_183 (by decide +kernel) dX4_moveDate_8 (r_callS hX (z_X4_isIn _ _ _ _ _ (by first | with_reducible assumption | decide | omega) (by first | with_reducible assumption | decide | omega) (by first | with_reducible assumption | decide | omega)) ks_X4_38 rfl rfl (Nat.le_of_ble_eq_true rfl) ⟨(Nat.le_of_ble_eq_true rfl), (Nat.le_of_ble_eq_true rfl)⟩ ⟨(Nat.le_of_ble_eq_true rfl), (Nat.le_of_ble_eq_true rfl)⟩ dX4_moveDate_11 (fun _ _ z => False.elim z) (fun v9 ws9 h2 => ?_)))))
  obtain ⟨rfl, hw9⟩ := h2
  subst ws9
  dsimp only [mPush]
  refine r_if_neB (tgt := 21) hX dX4_moveDate_14 (by decide) (fun c3 => ?_) (fun c3 => ?_)
  · have c3 := of_decide_eq_true c3
    refine r_iconst (v := b2i false) hX dX4_moveDate_21 (by decide) (r_callV hX (z_X4_isStopped ad ae cs K S th rest (decide (¬ (0 ≤ a0 ∧ a0 < 4))) false) kv_X4_68 14 rfl rfl rfl rfl (Nat.le_of_ble_eq_true rfl) ⟨(Nat.le_of_ble_eq_true rfl), (Nat.le_of_ble_eq_true rfl)⟩ ⟨(Nat.le_of_ble_eq_true rfl), (Nat.le_of_ble_eq_true rfl)⟩ dX4_moveDate_22 (fun _ _ z => False.elim z) (fun v9 ws9 h4 => ?_))
    obtain ⟨rfl, hw9⟩ := h4
    subst ws9
    dsimp only [mPush]
    refine r_if_eqB (tgt := 30) hX dX4_moveDate_25 (by decide) (fun c5 => ?_) (fun c5 => ?_)
    · obtain ⟨⟨hx, hy⟩, e0⟩ := zst0 c5
      have hx := of_decide_eq_false hx
      rw [e0]
      have hr0 := zrg hS (d := a0.toNat) (by omega)
      have hse := hS.2.2.2.1 a0.toNat (by omega)
      refine r_iload hX dX4_moveDate_30 rfl (r_if_eqB (tgt := 41) hX dX4_moveDate_32 (by decide) (fun c6 => ?_) (fun c6 => ?_))
      · have c6 := id c6
        refine r_iload_n hX dX4_moveDate_41 rfl rfl (r_i2lZ hX dX4_moveDate_42 (by first | with_reducible assumption | decide | omega) (r_lstore hX dX4_moveDate_43 (by decide) rfl (r_iload_n hX dX4_moveDate_45 rfl rfl (r_iconstZ hX dX4_moveDate_46 (r_icmp_geZ (tgt := 71) hX dX4_moveDate_47 (by decide) (by first | with_reducible assumption | decide | omega) (by decide) (fun c7 => ?_) (fun c7 => ?_))))))
        · refine r_iload_n hX dX4_moveDate_71 rfl rfl (r_iconstZ hX dX4_moveDate_72 (r_icmp_geZ (tgt := 124) hX dX4_moveDate_73 (by decide) (by first | with_reducible assumption | decide | omega) (by decide) (fun c8 => ?_) (fun c8 => ?_)))
          · refine r_aload_n hX dX4_moveDate_124 rfl rfl (r_get hX kf_X4_23 14 rfl rfl dX4_moveDate_125 (r_iload_n hX dX4_moveDate_128 rfl rfl (r_ialdZ hX 19 0 rfl rfl (a0).toNat (by first | with_reducible assumption | decide | omega) (by first | with_reducible assumption | decide | omega) (by decide) dX4_moveDate_129 (r_i2lZ hX dX4_moveDate_130 (by first | with_reducible assumption | decide | omega) (r_iload_n hX dX4_moveDate_131 rfl rfl (r_bipushZ hX dX4_moveDate_132 (by decide +kernel) (r_icmp_neZ (tgt := 142) hX dX4_moveDate_134 (by decide) (by first | with_reducible assumption | decide | omega) (by decide) (fun c9 => ?_) (fun c9 => ?_))))))))
            · refine r_lconstZ (v := 0) hX dX4_moveDate_142 rfl (r_laddZ hX dX4_moveDate_143 (r_lstore hX dX4_moveDate_144 (by decide) rfl (r_aload_n hX dX4_moveDate_146 rfl rfl (r_iload_n hX dX4_moveDate_147 rfl rfl (r_aload_n hX dX4_moveDate_148 rfl rfl (r_get hX kf_X4_17 14 rfl rfl dX4_moveDate_149 (r_iload_n hX dX4_moveDate_152 rfl rfl ?_)))))))
              refine r_ialdZ hX 17 0 rfl rfl (a0).toNat (by first | with_reducible assumption | decide | omega) (by first | with_reducible assumption | decide | omega) (by decide) dX4_moveDate_153 (r_i2lZ hX dX4_moveDate_154 (by first | with_reducible assumption | decide | omega) (r_aload_n hX dX4_moveDate_155 rfl rfl (r_get hX kf_X4_20 14 rfl rfl dX4_moveDate_156 (r_iload_n hX dX4_moveDate_159 rfl rfl (r_ialdZ hX 18 0 rfl rfl (a0).toNat (by first | with_reducible assumption | decide | omega) (by first | with_reducible assumption | decide | omega) (by decide) dX4_moveDate_160 (r_i2lZ hX dX4_moveDate_161 (by first | with_reducible assumption | decide | omega) (r_lload hX dX4_moveDate_162 rfl ?_)))))))
              refine r_iload_n hX dX4_moveDate_164 rfl rfl (r_callS hX (z_X4_secondsOf _ _ _ (by first | with_reducible assumption | decide | omega)) ks_X4_188 rfl rfl (Nat.le_of_ble_eq_true rfl) ⟨(Nat.le_of_ble_eq_true rfl), (Nat.le_of_ble_eq_true rfl)⟩ ⟨(Nat.le_of_ble_eq_true rfl), (Nat.le_of_ble_eq_true rfl)⟩ dX4_moveDate_165 (fun _ _ z => False.elim z) (fun v9 ws9 h10 => ?_))
              obtain ⟨rfl, hw9⟩ := h10
              subst ws9
              dsimp only [mPush]
              have hsf := zSf_m (u := a1) (b := a2) (by omega)
              have hsf2 : 0 ≤ zSf a1 ∧ zSf a1 ≤ 3600 := by unfold zSf; (repeat' split) <;> omega
              refine r_i2lZ hX dX4_moveDate_168 (by first | with_reducible assumption | decide | omega) (r_lmulZ hX dX4_moveDate_169 (r_laddZ hX dX4_moveDate_170 (r_lload hX dX4_moveDate_171 rfl (r_ldc2Z (z := 1000000000) hX kc_X4_96 (by decide +kernel) dX4_moveDate_173 (r_callS hX (c_X4_whole_x _ _ _ _ (by first | with_reducible assumption | decide | omega) (by first | with_reducible assumption | decide | omega) (by first | with_reducible assumption | decide | omega) (by first | with_reducible assumption | decide | omega)) ks_X4_92 rfl rfl (Nat.le_of_ble_eq_true rfl) ⟨(Nat.le_of_ble_eq_true rfl), (Nat.le_of_ble_eq_true rfl)⟩ ⟨(Nat.le_of_ble_eq_true rfl), (Nat.le_of_ble_eq_true rfl)⟩ dX4_moveDate_176 (fun _ _ z => False.elim z) (fun v9 ws9 h11 => ?_))))))
              obtain ⟨rfl, hw9⟩ := h11
              subst ws9
              dsimp only [mPush]
              refine r_laddZ hX dX4_moveDate_179 (r_lload hX dX4_moveDate_180 rfl (r_ldc2Z (z := 1000000000) hX kc_X4_96 (by decide +kernel) dX4_moveDate_182 (r_callS hX (c_X4_rest_x _ _ _ _ (by first | with_reducible assumption | decide | omega) (by first | with_reducible assumption | decide | omega) (by first | with_reducible assumption | decide | omega) (by first | with_reducible assumption | decide | omega)) ks_X4_102 rfl rfl (Nat.le_of_ble_eq_true rfl) ⟨(Nat.le_of_ble_eq_true rfl), (Nat.le_of_ble_eq_true rfl)⟩ ⟨(Nat.le_of_ble_eq_true rfl), (Nat.le_of_ble_eq_true rfl)⟩ dX4_moveDate_185 (fun _ _ z => False.elim z) (fun v9 ws9 h12 => ?_))))
              obtain ⟨rfl, hw9⟩ := h12
              subst ws9
              dsimp only [mPush]
              refine r_aload_n hX dX4_moveDate_188 rfl rfl (r_get hX kf_X4_26 14 rfl rfl dX4_moveDate_189 (r_iload_n hX dX4_moveDate_192 rfl rfl (r_ialdZ hX 20 0 rfl rfl (a0).toNat (by first | with_reducible assumption | decide | omega) (by first | with_reducible assumption | decide | omega) (by decide) dX4_moveDate_193 (r_callV hX (z_X4_put_ ad ae cs K S 0 rest hS _ (a0).toNat (by first | with_reducible assumption | decide | omega) (by first | with_reducible assumption | decide | omega) _ _ _ _ (by first | with_reducible assumption | decide | omega) (by first | with_reducible assumption | decide | omega)) kv_X4_167 14 rfl rfl rfl rfl (Nat.le_of_ble_eq_true rfl) ⟨(Nat.le_of_ble_eq_true rfl), (Nat.le_of_ble_eq_true rfl)⟩ ⟨(Nat.le_of_ble_eq_true rfl), (Nat.le_of_ble_eq_true rfl)⟩ dX4_moveDate_194 (fun _ _ z => False.elim z) (fun v9 ws9 h13 => ?_)))))
              obtain ⟨rfl, hw9⟩ := h13
              subst ws9
              dsimp only [mPush]
              refine r_iret hX hE dX4_moveDate_197 (Nat.le_of_ble_eq_true rfl) (Nat.le_of_ble_eq_true rfl) ⟨_, rfl, Or.inl ⟨by omega, ?_⟩⟩
              first | rw [show b3 = true by assumption] | rw [show b3 = false by assumption]
              simp only [zSg, cond]
              unfold oMv
              rw [if_neg (by omega), if_neg (by omega)]
              refine oeR (oLoc_c ?_ ?_ (by omega))
              · unfold zSn
                try unfold zSf at *
                repeat' split
                all_goals omega
              · unfold zNn
                split
                all_goals omega
            · refine r_lload hX dX4_moveDate_137 rfl (r_goto (tgt := 143) hX dX4_moveDate_139 (by decide) (r_laddZ hX dX4_moveDate_143 (r_lstore hX dX4_moveDate_144 (by decide) rfl (r_aload_n hX dX4_moveDate_146 rfl rfl (r_iload_n hX dX4_moveDate_147 rfl rfl (r_aload_n hX dX4_moveDate_148 rfl rfl (r_get hX kf_X4_17 14 rfl rfl dX4_moveDate_149 ?_)))))))
              refine r_iload_n hX dX4_moveDate_152 rfl rfl (r_ialdZ hX 17 0 rfl rfl (a0).toNat (by first | with_reducible assumption | decide | omega) (by first | with_reducible assumption | decide | omega) (by decide) dX4_moveDate_153 (r_i2lZ hX dX4_moveDate_154 (by first | with_reducible assumption | decide | omega) (r_aload_n hX dX4_moveDate_155 rfl rfl (r_get hX kf_X4_20 14 rfl rfl dX4_moveDate_156 (r_iload_n hX dX4_moveDate_159 rfl rfl (r_ialdZ hX 18 0 rfl rfl (a0).toNat (by first | with_reducible assumption | decide | omega) (by first | with_reducible assumption | decide | omega) (by decide) dX4_moveDate_160 (r_i2lZ hX dX4_moveDate_161 (by first | with_reducible assumption | decide | omega) ?_)))))))
              refine r_lload hX dX4_moveDate_162 rfl (r_iload_n hX dX4_moveDate_164 rfl rfl (r_callS hX (z_X4_secondsOf _ _ _ (by first | with_reducible assumption | decide | omega)) ks_X4_188 rfl rfl (Nat.le_of_ble_eq_true rfl) ⟨(Nat.le_of_ble_eq_true rfl), (Nat.le_of_ble_eq_true rfl)⟩ ⟨(Nat.le_of_ble_eq_true rfl), (Nat.le_of_ble_eq_true rfl)⟩ dX4_moveDate_165 (fun _ _ z => False.elim z) (fun v9 ws9 h14 => ?_)))
              obtain ⟨rfl, hw9⟩ := h14
              subst ws9
              dsimp only [mPush]
              have hsf := zSf_m (u := a1) (b := a2) (by omega)
              have hsf2 : 0 ≤ zSf a1 ∧ zSf a1 ≤ 3600 := by unfold zSf; (repeat' split) <;> omega
              refine r_i2lZ hX dX4_moveDate_168 (by first | with_reducible assumption | decide | omega) (r_lmulZ hX dX4_moveDate_169 (r_laddZ hX dX4_moveDate_170 (r_lload hX dX4_moveDate_171 rfl (r_ldc2Z (z := 1000000000) hX kc_X4_96 (by decide +kernel) dX4_moveDate_173 (r_callS hX (c_X4_whole_x _ _ _ _ (by first | with_reducible assumption | decide | omega) (by first | with_reducible assumption | decide | omega) (by first | with_reducible assumption | decide | omega) (by first | with_reducible assumption | decide | omega)) ks_X4_92 rfl rfl (Nat.le_of_ble_eq_true rfl) ⟨(Nat.le_of_ble_eq_true rfl), (Nat.le_of_ble_eq_true rfl)⟩ ⟨(Nat.le_of_ble_eq_true rfl), (Nat.le_of_ble_eq_true rfl)⟩ dX4_moveDate_176 (fun _ _ z => False.elim z) (fun v9 ws9 h15 => ?_))))))
              obtain ⟨rfl, hw9⟩ := h15
              subst ws9
              dsimp only [mPush]
              refine r_laddZ hX dX4_moveDate_179 (r_lload hX dX4_moveDate_180 rfl (r_ldc2Z (z := 1000000000) hX kc_X4_96 (by decide +kernel) dX4_moveDate_182 (r_callS hX (c_X4_rest_x _ _ _ _ (by first | with_reducible assumption | decide | omega) (by first | with_reducible assumption | decide | omega) (by first | with_reducible assumption | decide | omega) (by first | with_reducible assumption | decide | omega)) ks_X4_102 rfl rfl (Nat.le_of_ble_eq_true rfl) ⟨(Nat.le_of_ble_eq_true rfl), (Nat.le_of_ble_eq_true rfl)⟩ ⟨(Nat.le_of_ble_eq_true rfl), (Nat.le_of_ble_eq_true rfl)⟩ dX4_moveDate_185 (fun _ _ z => False.elim z) (fun v9 ws9 h16 => ?_))))
              obtain ⟨rfl, hw9⟩ := h16
              subst ws9
              dsimp only [mPush]
              refine r_aload_n hX dX4_moveDate_188 rfl rfl (r_get hX kf_X4_26 14 rfl rfl dX4_moveDate_189 (r_iload_n hX dX4_moveDate_192 rfl rfl (r_ialdZ hX 20 0 rfl rfl (a0).toNat (by first | with_reducible assumption | decide | omega) (by first | with_reducible assumption | decide | omega) (by decide) dX4_moveDate_193 (r_callV hX (z_X4_put_ ad ae cs K S 0 rest hS _ (a0).toNat (by first | with_reducible assumption | decide | omega) (by first | with_reducible assumption | decide | omega) _ _ _ _ (by first | with_reducible assumption | decide | omega) (by first | with_reducible assumption | decide | omega)) kv_X4_167 14 rfl rfl rfl rfl (Nat.le_of_ble_eq_true rfl) ⟨(Nat.le_of_ble_eq_true rfl), (Nat.le_of_ble_eq_true rfl)⟩ ⟨(Nat.le_of_ble_eq_true rfl), (Nat.le_of_ble_eq_true rfl)⟩ dX4_moveDate_194 (fun _ _ z => False.elim z) (fun v9 ws9 h17 => ?_)))))
              obtain ⟨rfl, hw9⟩ := h17
              subst ws9
              dsimp only [mPush]
              refine r_iret hX hE dX4_moveDate_197 (Nat.le_of_ble_eq_true rfl) (Nat.le_of_ble_eq_true rfl) ⟨_, rfl, Or.inl ⟨by omega, ?_⟩⟩
              first | rw [show b3 = true by assumption] | rw [show b3 = false by assumption]
              simp only [zSg, cond]
              unfold oMv
              rw [if_neg (by omega), if_neg (by omega)]
              refine oeR (oLoc_c ?_ ?_ (by omega))
              · unfold zSn
                try unfold zSf at *
                repeat' split
                all_goals omega
              · unfold zNn
                split
                all_goals omega
          · refine r_aload_n hX dX4_moveDate_76 rfl rfl (r_iload_n hX dX4_moveDate_77 rfl rfl (r_aload_n hX dX4_moveDate_78 rfl rfl (r_get hX kf_X4_17 14 rfl rfl dX4_moveDate_79 (r_iload_n hX dX4_moveDate_82 rfl rfl (r_ialdZ hX 17 0 rfl rfl (a0).toNat (by first | with_reducible assumption | decide | omega) (by first | with_reducible assumption | decide | omega) (by decide) dX4_moveDate_83 (r_i2lZ hX dX4_moveDate_84 (by first | with_reducible assumption | decide | omega) (r_lload hX dX4_moveDate_85 rfl ?_)))))))
            refine r_iload_n hX dX4_moveDate_87 rfl rfl (r_iconstZ hX dX4_moveDate_88 (r_icmp_neZ (tgt := 97) hX dX4_moveDate_89 (by decide) (by first | with_reducible assumption | decide | omega) (by decide) (fun c18 => ?_) (fun c18 => ?_)))
            · refine r_iconstZ hX dX4_moveDate_97 (r_i2lZ hX dX4_moveDate_98 (by decide) (r_lmulZ hX dX4_moveDate_99 (r_laddZ hX dX4_moveDate_100 (r_aload_n hX dX4_moveDate_101 rfl rfl (r_get hX kf_X4_20 14 rfl rfl dX4_moveDate_102 (r_iload_n hX dX4_moveDate_105 rfl rfl (r_ialdZ hX 18 0 rfl rfl (a0).toNat (by first | with_reducible assumption | decide | omega) (by first | with_reducible assumption | decide | omega) (by decide) dX4_moveDate_106 ?_)))))))
              refine r_i2lZ hX dX4_moveDate_107 (by first | with_reducible assumption | decide | omega) (r_aload_n hX dX4_moveDate_108 rfl rfl (r_get hX kf_X4_23 14 rfl rfl dX4_moveDate_109 (r_iload_n hX dX4_moveDate_112 rfl rfl (r_ialdZ hX 19 0 rfl rfl (a0).toNat (by first | with_reducible assumption | decide | omega) (by first | with_reducible assumption | decide | omega) (by decide) dX4_moveDate_113 (r_aload_n hX dX4_moveDate_114 rfl rfl (r_get hX kf_X4_26 14 rfl rfl dX4_moveDate_115 (r_iload_n hX dX4_moveDate_118 rfl rfl ?_)))))))
              refine r_ialdZ hX 20 0 rfl rfl (a0).toNat (by first | with_reducible assumption | decide | omega) (by first | with_reducible assumption | decide | omega) (by decide) dX4_moveDate_119 (r_callV hX (z_X4_put_ ad ae cs K S 0 rest hS _ (a0).toNat (by first | with_reducible assumption | decide | omega) (by first | with_reducible assumption | decide | omega) _ _ _ _ (by first | with_reducible assumption | decide | omega) (by first | with_reducible assumption | decide | omega)) kv_X4_167 14 rfl rfl rfl rfl (Nat.le_of_ble_eq_true rfl) ⟨(Nat.le_of_ble_eq_true rfl), (Nat.le_of_ble_eq_true rfl)⟩ ⟨(Nat.le_of_ble_eq_true rfl), (Nat.le_of_ble_eq_true rfl)⟩ dX4_moveDate_120 (fun _ _ z => False.elim z) (fun v9 ws9 h19 => ?_))
              obtain ⟨rfl, hw9⟩ := h19
              subst ws9
              dsimp only [mPush]
              refine r_iret hX hE dX4_moveDate_123 (Nat.le_of_ble_eq_true rfl) (Nat.le_of_ble_eq_true rfl) ⟨_, rfl, Or.inl ⟨by omega, ?_⟩⟩
              first | rw [show b3 = true by assumption] | rw [show b3 = false by assumption]
              simp only [zSg, cond]
              unfold oMv
              rw [if_neg (by omega), if_neg (by omega)]
              refine oeR (oLoc_c ?_ ?_ (by omega))
              · unfold zSn
                try unfold zSf at *
                repeat' split
                all_goals omega
              · unfold zNn
                split
                all_goals omega
            · refine r_bipushZ hX dX4_moveDate_92 (by decide +kernel) (r_goto (tgt := 98) hX dX4_moveDate_94 (by decide) (r_i2lZ hX dX4_moveDate_98 (by decide) (r_lmulZ hX dX4_moveDate_99 (r_laddZ hX dX4_moveDate_100 (r_aload_n hX dX4_moveDate_101 rfl rfl (r_get hX kf_X4_20 14 rfl rfl dX4_moveDate_102 (r_iload_n hX dX4_moveDate_105 rfl rfl ?_)))))))
              refine r_ialdZ hX 18 0 rfl rfl (a0).toNat (by first | with_reducible assumption | decide | omega) (by first | with_reducible assumption | decide | omega) (by decide) dX4_moveDate_106 (r_i2lZ hX dX4_moveDate_107 (by first | with_reducible assumption | decide | omega) (r_aload_n hX dX4_moveDate_108 rfl rfl (r_get hX kf_X4_23 14 rfl rfl dX4_moveDate_109 (r_iload_n hX dX4_moveDate_112 rfl rfl (r_ialdZ hX 19 0 rfl rfl (a0).toNat (by first | with_reducible assumption | decide | omega) (by first | with_reducible assumption | decide | omega) (by decide) dX4_moveDate_113 (r_aload_n hX dX4_moveDate_114 rfl rfl (r_get hX kf_X4_26 14 rfl rfl dX4_moveDate_115 ?_)))))))
              refine r_iload_n hX dX4_moveDate_118 rfl rfl (r_ialdZ hX 20 0 rfl rfl (a0).toNat (by first | with_reducible assumption | decide | omega) (by first | with_reducible assumption | decide | omega) (by decide) dX4_moveDate_119 (r_callV hX (z_X4_put_ ad ae cs K S 0 rest hS _ (a0).toNat (by first | with_reducible assumption | decide | omega) (by first | with_reducible assumption | decide | omega) _ _ _ _ (by first | with_reducible assumption | decide | omega) (by first | with_reducible assumption | decide | omega)) kv_X4_167 14 rfl rfl rfl rfl (Nat.le_of_ble_eq_true rfl) ⟨(Nat.le_of_ble_eq_true rfl), (Nat.le_of_ble_eq_true rfl)⟩ ⟨(Nat.le_of_ble_eq_true rfl), (Nat.le_of_ble_eq_true rfl)⟩ dX4_moveDate_120 (fun _ _ z => False.elim z) (fun v9 ws9 h20 => ?_)))
              obtain ⟨rfl, hw9⟩ := h20
              subst ws9
              dsimp only [mPush]
              refine r_iret hX hE dX4_moveDate_123 (Nat.le_of_ble_eq_true rfl) (Nat.le_of_ble_eq_true rfl) ⟨_, rfl, Or.inl ⟨by omega, ?_⟩⟩
              first | rw [show b3 = true by assumption] | rw [show b3 = false by assumption]
              simp only [zSg, cond]
              unfold oMv
              rw [if_neg (by omega), if_neg (by omega)]
              refine oeR (oLoc_c ?_ ?_ (by omega))
              · unfold zSn
                try unfold zSf at *
                repeat' split
                all_goals omega
              · unfold zNn
                split
                all_goals omega
        · refine r_aload_n hX dX4_moveDate_50 rfl rfl (r_iload_n hX dX4_moveDate_51 rfl rfl (r_iload_n hX dX4_moveDate_52 rfl rfl (r_if_neZ (tgt := 65) hX dX4_moveDate_53 (by decide) (by first | with_reducible assumption | decide | omega) (fun c21 => ?_) (fun c21 => ?_))))
          · refine r_lload hX dX4_moveDate_65 rfl (r_callV hX (z_X4_moveMonths ad ae cs K S 0 rest hS _ (a0).toNat (by first | with_reducible assumption | decide | omega) (by first | with_reducible assumption | decide | omega) _ (by first | with_reducible assumption | decide | omega)) kv_X4_185 14 rfl rfl rfl rfl (Nat.le_of_ble_eq_true rfl) ⟨(Nat.le_of_ble_eq_true rfl), (Nat.le_of_ble_eq_true rfl)⟩ ⟨(Nat.le_of_ble_eq_true rfl), (Nat.le_of_ble_eq_true rfl)⟩ dX4_moveDate_67 (fun _ _ z => False.elim z) (fun v9 ws9 h22 => ?_))
            obtain ⟨rfl, hw9⟩ := h22
            subst ws9
            dsimp only [mPush]
            refine r_iret hX hE dX4_moveDate_70 (Nat.le_of_ble_eq_true rfl) (Nat.le_of_ble_eq_true rfl) ⟨_, rfl, Or.inl ⟨by omega, ?_⟩⟩
            first | rw [show b3 = true by assumption] | rw [show b3 = false by assumption]
            simp only [zSg, cond]
            unfold oMv
            first | rw [if_pos (by omega)] | rw [if_neg (by omega), if_pos (by omega)]
            unfold zMs
            exact oeR (oMon_c (by omega))
          · refine r_ldc2Z (z := 12) hX kc_X4_151 (by decide +kernel) dX4_moveDate_56 (r_lload hX dX4_moveDate_59 rfl (r_lmulZ hX dX4_moveDate_61 (r_goto (tgt := 67) hX dX4_moveDate_62 (by decide) (r_callV hX (z_X4_moveMonths ad ae cs K S 0 rest hS _ (a0).toNat (by first | with_reducible assumption | decide | omega) (by first | with_reducible assumption | decide | omega) _ (by first | with_reducible assumption | decide | omega)) kv_X4_185 14 rfl rfl rfl rfl (Nat.le_of_ble_eq_true rfl) ⟨(Nat.le_of_ble_eq_true rfl), (Nat.le_of_ble_eq_true rfl)⟩ ⟨(Nat.le_of_ble_eq_true rfl), (Nat.le_of_ble_eq_true rfl)⟩ dX4_moveDate_67 (fun _ _ z => False.elim z) (fun v9 ws9 h23 => ?_)))))
            obtain ⟨rfl, hw9⟩ := h23
            subst ws9
            dsimp only [mPush]
            refine r_iret hX hE dX4_moveDate_70 (Nat.le_of_ble_eq_true rfl) (Nat.le_of_ble_eq_true rfl) ⟨_, rfl, Or.inl ⟨by omega, ?_⟩⟩
            first | rw [show b3 = true by assumption] | rw [show b3 = false by assumption]
            simp only [zSg, cond]
            unfold oMv
            first | rw [if_pos (by omega)] | rw [if_neg (by omega), if_pos (by omega)]
            unfold zMs
            exact oeR (oMon_c (by omega))
      · have c6 := id c6
        refine r_iload_n hX dX4_moveDate_35 rfl rfl (r_i2lZ hX dX4_moveDate_36 (by first | with_reducible assumption | decide | omega) (r_lnegZ hX dX4_moveDate_37 (r_goto (tgt := 43) hX dX4_moveDate_38 (by decide) (r_lstore hX dX4_moveDate_43 (by decide) rfl (r_iload_n hX dX4_moveDate_45 rfl rfl (r_iconstZ hX dX4_moveDate_46 (r_icmp_geZ (tgt := 71) hX dX4_moveDate_47 (by decide) (by first | with_reducible assumption | decide | omega) (by decide) (fun c24 => ?_) (fun c24 => ?_))))))))
        · refine r_iload_n hX dX4_moveDate_71 rfl rfl (r_iconstZ hX dX4_moveDate_72 (r_icmp_geZ (tgt := 124) hX dX4_moveDate_73 (by decide) (by first | with_reducible assumption | decide | omega) (by decide) (fun c25 => ?_) (fun c25 => ?_)))
          · refine r_aload_n hX dX4_moveDate_124 rfl rfl (r_get hX kf_X4_23 14 rfl rfl dX4_moveDate_125 (r_iload_n hX dX4_moveDate_128 rfl rfl (r_ialdZ hX 19 0 rfl rfl (a0).toNat (by first | with_reducible assumption | decide | omega) (by first | with_reducible assumption | decide | omega) (by decide) dX4_moveDate_129 (r_i2lZ hX dX4_moveDate_130 (by first | with_reducible assumption | decide | omega) (r_iload_n hX dX4_moveDate_131 rfl rfl (r_bipushZ hX dX4_moveDate_132 (by decide +kernel) (r_icmp_neZ (tgt := 142) hX dX4_moveDate_134 (by decide) (by first | with_reducible assumption | decide | omega) (by decide) (fun c26 => ?_) (fun c26 => ?_))))))))
            · refine r_lconstZ (v := 0) hX dX4_moveDate_142 rfl (r_laddZ hX dX4_moveDate_143 (r_lstore hX dX4_moveDate_144 (by decide) rfl (r_aload_n hX dX4_moveDate_146 rfl rfl (r_iload_n hX dX4_moveDate_147 rfl rfl (r_aload_n hX dX4_moveDate_148 rfl rfl (r_get hX kf_X4_17 14 rfl rfl dX4_moveDate_149 (r_iload_n hX dX4_moveDate_152 rfl rfl ?_)))))))
              refine r_ialdZ hX 17 0 rfl rfl (a0).toNat (by first | with_reducible assumption | decide | omega) (by first | with_reducible assumption | decide | omega) (by decide) dX4_moveDate_153 (r_i2lZ hX dX4_moveDate_154 (by first | with_reducible assumption | decide | omega) (r_aload_n hX dX4_moveDate_155 rfl rfl (r_get hX kf_X4_20 14 rfl rfl dX4_moveDate_156 (r_iload_n hX dX4_moveDate_159 rfl rfl (r_ialdZ hX 18 0 rfl rfl (a0).toNat (by first | with_reducible assumption | decide | omega) (by first | with_reducible assumption | decide | omega) (by decide) dX4_moveDate_160 (r_i2lZ hX dX4_moveDate_161 (by first | with_reducible assumption | decide | omega) (r_lload hX dX4_moveDate_162 rfl ?_)))))))
              refine r_iload_n hX dX4_moveDate_164 rfl rfl (r_callS hX (z_X4_secondsOf _ _ _ (by first | with_reducible assumption | decide | omega)) ks_X4_188 rfl rfl (Nat.le_of_ble_eq_true rfl) ⟨(Nat.le_of_ble_eq_true rfl), (Nat.le_of_ble_eq_true rfl)⟩ ⟨(Nat.le_of_ble_eq_true rfl), (Nat.le_of_ble_eq_true rfl)⟩ dX4_moveDate_165 (fun _ _ z => False.elim z) (fun v9 ws9 h27 => ?_))
              obtain ⟨rfl, hw9⟩ := h27
              subst ws9
              dsimp only [mPush]
              have hsf := zSf_m (u := a1) (b := -a2) (by omega)
              have hsf2 : 0 ≤ zSf a1 ∧ zSf a1 ≤ 3600 := by unfold zSf; (repeat' split) <;> omega
              refine r_i2lZ hX dX4_moveDate_168 (by first | with_reducible assumption | decide | omega) (r_lmulZ hX dX4_moveDate_169 (r_laddZ hX dX4_moveDate_170 (r_lload hX dX4_moveDate_171 rfl (r_ldc2Z (z := 1000000000) hX kc_X4_96 (by decide +kernel) dX4_moveDate_173 (r_callS hX (c_X4_whole_x _ _ _ _ (by first | with_reducible assumption | decide | omega) (by first | with_reducible assumption | decide | omega) (by first | with_reducible assumption | decide | omega) (by first | with_reducible assumption | decide | omega)) ks_X4_92 rfl rfl (Nat.le_of_ble_eq_true rfl) ⟨(Nat.le_of_ble_eq_true rfl), (Nat.le_of_ble_eq_true rfl)⟩ ⟨(Nat.le_of_ble_eq_true rfl), (Nat.le_of_ble_eq_true rfl)⟩ dX4_moveDate_176 (fun _ _ z => False.elim z) (fun v9 ws9 h28 => ?_))))))
              obtain ⟨rfl, hw9⟩ := h28
              subst ws9
              dsimp only [mPush]
              refine r_laddZ hX dX4_moveDate_179 (r_lload hX dX4_moveDate_180 rfl (r_ldc2Z (z := 1000000000) hX kc_X4_96 (by decide +kernel) dX4_moveDate_182 (r_callS hX (c_X4_rest_x _ _ _ _ (by first | with_reducible assumption | decide | omega) (by first | with_reducible assumption | decide | omega) (by first | with_reducible assumption | decide | omega) (by first | with_reducible assumption | decide | omega)) ks_X4_102 rfl rfl (Nat.le_of_ble_eq_true rfl) ⟨(Nat.le_of_ble_eq_true rfl), (Nat.le_of_ble_eq_true rfl)⟩ ⟨(Nat.le_of_ble_eq_true rfl), (Nat.le_of_ble_eq_true rfl)⟩ dX4_moveDate_185 (fun _ _ z => False.elim z) (fun v9 ws9 h29 => ?_))))
              obtain ⟨rfl, hw9⟩ := h29
              subst ws9
              dsimp only [mPush]
              refine r_aload_n hX dX4_moveDate_188 rfl rfl (r_get hX kf_X4_26 14 rfl rfl dX4_moveDate_189 (r_iload_n hX dX4_moveDate_192 rfl rfl (r_ialdZ hX 20 0 rfl rfl (a0).toNat (by first | with_reducible assumption | decide | omega) (by first | with_reducible assumption | decide | omega) (by decide) dX4_moveDate_193 (r_callV hX (z_X4_put_ ad ae cs K S 0 rest hS _ (a0).toNat (by first | with_reducible assumption | decide | omega) (by first | with_reducible assumption | decide | omega) _ _ _ _ (by first | with_reducible assumption | decide | omega) (by first | with_reducible assumption | decide | omega)) kv_X4_167 14 rfl rfl rfl rfl (Nat.le_of_ble_eq_true rfl) ⟨(Nat.le_of_ble_eq_true rfl), (Nat.le_of_ble_eq_true rfl)⟩ ⟨(Nat.le_of_ble_eq_true rfl), (Nat.le_of_ble_eq_true rfl)⟩ dX4_moveDate_194 (fun _ _ z => False.elim z) (fun v9 ws9 h30 => ?_)))))
              obtain ⟨rfl, hw9⟩ := h30
              subst ws9
              dsimp only [mPush]
              refine r_iret hX hE dX4_moveDate_197 (Nat.le_of_ble_eq_true rfl) (Nat.le_of_ble_eq_true rfl) ⟨_, rfl, Or.inl ⟨by omega, ?_⟩⟩
              first | rw [show b3 = true by assumption] | rw [show b3 = false by assumption]
              simp only [zSg, cond]
              unfold oMv
              rw [if_neg (by omega), if_neg (by omega)]
              refine oeR (oLoc_c ?_ ?_ (by omega))
              · unfold zSn
                try unfold zSf at *
                repeat' split
                all_goals omega
              · unfold zNn
                split
                all_goals omega
            · refine r_lload hX dX4_moveDate_137 rfl (r_goto (tgt := 143) hX dX4_moveDate_139 (by decide) (r_laddZ hX dX4_moveDate_143 (r_lstore hX dX4_moveDate_144 (by decide) rfl (r_aload_n hX dX4_moveDate_146 rfl rfl (r_iload_n hX dX4_moveDate_147 rfl rfl (r_aload_n hX dX4_moveDate_148 rfl rfl (r_get hX kf_X4_17 14 rfl rfl dX4_moveDate_149 ?_)))))))
              refine r_iload_n hX dX4_moveDate_152 rfl rfl (r_ialdZ hX 17 0 rfl rfl (a0).toNat (by first | with_reducible assumption | decide | omega) (by first | with_reducible assumption | decide | omega) (by decide) dX4_moveDate_153 (r_i2lZ hX dX4_moveDate_154 (by first | with_reducible assumption | decide | omega) (r_aload_n hX dX4_moveDate_155 rfl rfl (r_get hX kf_X4_20 14 rfl rfl dX4_moveDate_156 (r_iload_n hX dX4_moveDate_159 rfl rfl (r_ialdZ hX 18 0 rfl rfl (a0).toNat (by first | with_reducible assumption | decide | omega) (by first | with_reducible assumption | decide | omega) (by decide) dX4_moveDate_160 (r_i2lZ hX dX4_moveDate_161 (by first | with_reducible assumption | decide | omega) ?_)))))))
              refine r_lload hX dX4_moveDate_162 rfl (r_iload_n hX dX4_moveDate_164 rfl rfl (r_callS hX (z_X4_secondsOf _ _ _ (by first | with_reducible assumption | decide | omega)) ks_X4_188 rfl rfl (Nat.le_of_ble_eq_true rfl) ⟨(Nat.le_of_ble_eq_true rfl), (Nat.le_of_ble_eq_true rfl)⟩ ⟨(Nat.le_of_ble_eq_true rfl), (Nat.le_of_ble_eq_true rfl)⟩ dX4_moveDate_165 (fun _ _ z => False.elim z) (fun v9 ws9 h31 => ?_)))
              obtain ⟨rfl, hw9⟩ := h31
              subst ws9
              dsimp only [mPush]
              have hsf := zSf_m (u := a1) (b := -a2) (by omega)
              have hsf2 : 0 ≤ zSf a1 ∧ zSf a1 ≤ 3600 := by unfold zSf; (repeat' split) <;> omega
              refine r_i2lZ hX dX4_moveDate_168 (by first | with_reducible assumption | decide | omega) (r_lmulZ hX dX4_moveDate_169 (r_laddZ hX dX4_moveDate_170 (r_lload hX dX4_moveDate_171 rfl (r_ldc2Z (z := 1000000000) hX kc_X4_96 (by decide +kernel) dX4_moveDate_173 (r_callS hX (c_X4_whole_x _ _ _ _ (by first | with_reducible assumption | decide | omega) (by first | with_reducible assumption | decide | omega) (by first | with_reducible assumption | decide | omega) (by first | with_reducible assumption | decide | omega)) ks_X4_92 rfl rfl (Nat.le_of_ble_eq_true rfl) ⟨(Nat.le_of_ble_eq_true rfl), (Nat.le_of_ble_eq_true rfl)⟩ ⟨(Nat.le_of_ble_eq_true rfl), (Nat.le_of_ble_eq_true rfl)⟩ dX4_moveDate_176 (fun _ _ z => False.elim z) (fun v9 ws9 h32 => ?_))))))
              obtain ⟨rfl, hw9⟩ := h32
              subst ws9
              dsimp only [mPush]
              refine r_laddZ hX dX4_moveDate_179 (r_lload hX dX4_moveDate_180 rfl (r_ldc2Z (z := 1000000000) hX kc_X4_96 (by decide +kernel) dX4_moveDate_182 (r_callS hX (c_X4_rest_x _ _ _ _ (by first | with_reducible assumption | decide | omega) (by first | with_reducible assumption | decide | omega) (by first | with_reducible assumption | decide | omega) (by first | with_reducible assumption | decide | omega)) ks_X4_102 rfl rfl (Nat.le_of_ble_eq_true rfl) ⟨(Nat.le_of_ble_eq_true rfl), (Nat.le_of_ble_eq_true rfl)⟩ ⟨(Nat.le_of_ble_eq_true rfl), (Nat.le_of_ble_eq_true rfl)⟩ dX4_moveDate_185 (fun _ _ z => False.elim z) (fun v9 ws9 h33 => ?_))))
              obtain ⟨rfl, hw9⟩ := h33
              subst ws9
              dsimp only [mPush]
              refine r_aload_n hX dX4_moveDate_188 rfl rfl (r_get hX kf_X4_26 14 rfl rfl dX4_moveDate_189 (r_iload_n hX dX4_moveDate_192 rfl rfl (r_ialdZ hX 20 0 rfl rfl (a0).toNat (by first | with_reducible assumption | decide | omega) (by first | with_reducible assumption | decide | omega) (by decide) dX4_moveDate_193 (r_callV hX (z_X4_put_ ad ae cs K S 0 rest hS _ (a0).toNat (by first | with_reducible assumption | decide | omega) (by first | with_reducible assumption | decide | omega) _ _ _ _ (by first | with_reducible assumption | decide | omega) (by first | with_reducible assumption | decide | omega)) kv_X4_167 14 rfl rfl rfl rfl (Nat.le_of_ble_eq_true rfl) ⟨(Nat.le_of_ble_eq_true rfl), (Nat.le_of_ble_eq_true rfl)⟩ ⟨(Nat.le_of_ble_eq_true rfl), (Nat.le_of_ble_eq_true rfl)⟩ dX4_moveDate_194 (fun _ _ z => False.elim z) (fun v9 ws9 h34 => ?_)))))
              obtain ⟨rfl, hw9⟩ := h34
              subst ws9
              dsimp only [mPush]
              refine r_iret hX hE dX4_moveDate_197 (Nat.le_of_ble_eq_true rfl) (Nat.le_of_ble_eq_true rfl) ⟨_, rfl, Or.inl ⟨by omega, ?_⟩⟩
              first | rw [show b3 = true by assumption] | rw [show b3 = false by assumption]
              simp only [zSg, cond]
              unfold oMv
              rw [if_neg (by omega), if_neg (by omega)]
              refine oeR (oLoc_c ?_ ?_ (by omega))
              · unfold zSn
                try unfold zSf at *
                repeat' split
                all_goals omega
              · unfold zNn
                split
                all_goals omega
          · refine r_aload_n hX dX4_moveDate_76 rfl rfl (r_iload_n hX dX4_moveDate_77 rfl rfl (r_aload_n hX dX4_moveDate_78 rfl rfl (r_get hX kf_X4_17 14 rfl rfl dX4_moveDate_79 (r_iload_n hX dX4_moveDate_82 rfl rfl (r_ialdZ hX 17 0 rfl rfl (a0).toNat (by first | with_reducible assumption | decide | omega) (by first | with_reducible assumption | decide | omega) (by decide) dX4_moveDate_83 (r_i2lZ hX dX4_moveDate_84 (by first | with_reducible assumption | decide | omega) (r_lload hX dX4_moveDate_85 rfl ?_)))))))
            refine r_iload_n hX dX4_moveDate_87 rfl rfl (r_iconstZ hX dX4_moveDate_88 (r_icmp_neZ (tgt := 97) hX dX4_moveDate_89 (by decide) (by first | with_reducible assumption | decide | omega) (by decide) (fun c35 => ?_) (fun c35 => ?_)))
            · refine r_iconstZ hX dX4_moveDate_97 (r_i2lZ hX dX4_moveDate_98 (by decide) (r_lmulZ hX dX4_moveDate_99 (r_laddZ hX dX4_moveDate_100 (r_aload_n hX dX4_moveDate_101 rfl rfl (r_get hX kf_X4_20 14 rfl rfl dX4_moveDate_102 (r_iload_n hX dX4_moveDate_105 rfl rfl (r_ialdZ hX 18 0 rfl rfl (a0).toNat (by first | with_reducible assumption | decide | omega) (by first | with_reducible assumption | decide | omega) (by decide) dX4_moveDate_106 ?_)))))))
              refine r_i2lZ hX dX4_moveDate_107 (by first | with_reducible assumption | decide | omega) (r_aload_n hX dX4_moveDate_108 rfl rfl (r_get hX kf_X4_23 14 rfl rfl dX4_moveDate_109 (r_iload_n hX dX4_moveDate_112 rfl rfl (r_ialdZ hX 19 0 rfl rfl (a0).toNat (by first | with_reducible assumption | decide | omega) (by first | with_reducible assumption | decide | omega) (by decide) dX4_moveDate_113 (r_aload_n hX dX4_moveDate_114 rfl rfl (r_get hX kf_X4_26 14 rfl rfl dX4_moveDate_115 (r_iload_n hX dX4_moveDate_118 rfl rfl ?_)))))))
              refine r_ialdZ hX 20 0 rfl rfl (a0).toNat (by first | with_reducible assumption | decide | omega) (by first | with_reducible assumption | decide | omega) (by decide) dX4_moveDate_119 (r_callV hX (z_X4_put_ ad ae cs K S 0 rest hS _ (a0).toNat (by first | with_reducible assumption | decide | omega) (by first | with_reducible assumption | decide | omega) _ _ _ _ (by first | with_reducible assumption | decide | omega) (by first | with_reducible assumption | decide | omega)) kv_X4_167 14 rfl rfl rfl rfl (Nat.le_of_ble_eq_true rfl) ⟨(Nat.le_of_ble_eq_true rfl), (Nat.le_of_ble_eq_true rfl)⟩ ⟨(Nat.le_of_ble_eq_true rfl), (Nat.le_of_ble_eq_true rfl)⟩ dX4_moveDate_120 (fun _ _ z => False.elim z) (fun v9 ws9 h36 => ?_))
              obtain ⟨rfl, hw9⟩ := h36
              subst ws9
              dsimp only [mPush]
              refine r_iret hX hE dX4_moveDate_123 (Nat.le_of_ble_eq_true rfl) (Nat.le_of_ble_eq_true rfl) ⟨_, rfl, Or.inl ⟨by omega, ?_⟩⟩
              first | rw [show b3 = true by assumption] | rw [show b3 = false by assumption]
              simp only [zSg, cond]
              unfold oMv
              rw [if_neg (by omega), if_neg (by omega)]
              refine oeR (oLoc_c ?_ ?_ (by omega))
              · unfold zSn
                try unfold zSf at *
                repeat' split
                all_goals omega
              · unfold zNn
                split
                all_goals omega
            · refine r_bipushZ hX dX4_moveDate_92 (by decide +kernel) (r_goto (tgt := 98) hX dX4_moveDate_94 (by decide) (r_i2lZ hX dX4_moveDate_98 (by decide) (r_lmulZ hX dX4_moveDate_99 (r_laddZ hX dX4_moveDate_100 (r_aload_n hX dX4_moveDate_101 rfl rfl (r_get hX kf_X4_20 14 rfl rfl dX4_moveDate_102 (r_iload_n hX dX4_moveDate_105 rfl rfl ?_)))))))
              refine r_ialdZ hX 18 0 rfl rfl (a0).toNat (by first | with_reducible assumption | decide | omega) (by first | with_reducible assumption | decide | omega) (by decide) dX4_moveDate_106 (r_i2lZ hX dX4_moveDate_107 (by first | with_reducible assumption | decide | omega) (r_aload_n hX dX4_moveDate_108 rfl rfl (r_get hX kf_X4_23 14 rfl rfl dX4_moveDate_109 (r_iload_n hX dX4_moveDate_112 rfl rfl (r_ialdZ hX 19 0 rfl rfl (a0).toNat (by first | with_reducible assumption | decide | omega) (by first | with_reducible assumption | decide | omega) (by decide) dX4_moveDate_113 (r_aload_n hX dX4_moveDate_114 rfl rfl (r_get hX kf_X4_26 14 rfl rfl dX4_moveDate_115 ?_)))))))
              refine r_iload_n hX dX4_moveDate_118 rfl rfl (r_ialdZ hX 20 0 rfl rfl (a0).toNat (by first | with_reducible assumption | decide | omega) (by first | with_reducible assumption | decide | omega) (by decide) dX4_moveDate_119 (r_callV hX (z_X4_put_ ad ae cs K S 0 rest hS _ (a0).toNat (by first | with_reducible assumption | decide | omega) (by first | with_reducible assumption | decide | omega) _ _ _ _ (by first | with_reducible assumption | decide | omega) (by first | with_reducible assumption | decide | omega)) kv_X4_167 14 rfl rfl rfl rfl (Nat.le_of_ble_eq_true rfl) ⟨(Nat.le_of_ble_eq_true rfl), (Nat.le_of_ble_eq_true rfl)⟩ ⟨(Nat.le_of_ble_eq_true rfl), (Nat.le_of_ble_eq_true rfl)⟩ dX4_moveDate_120 (fun _ _ z => False.elim z) (fun v9 ws9 h37 => ?_)))
              obtain ⟨rfl, hw9⟩ := h37
              subst ws9
              dsimp only [mPush]
              refine r_iret hX hE dX4_moveDate_123 (Nat.le_of_ble_eq_true rfl) (Nat.le_of_ble_eq_true rfl) ⟨_, rfl, Or.inl ⟨by omega, ?_⟩⟩
              first | rw [show b3 = true by assumption] | rw [show b3 = false by assumption]
              simp only [zSg, cond]
              unfold oMv
              rw [if_neg (by omega), if_neg (by omega)]
              refine oeR (oLoc_c ?_ ?_ (by omega))
              · unfold zSn
                try unfold zSf at *
                repeat' split
                all_goals omega
              · unfold zNn
                split
                all_goals omega
        · refine r_aload_n hX dX4_moveDate_50 rfl rfl (r_iload_n hX dX4_moveDate_51 rfl rfl (r_iload_n hX dX4_moveDate_52 rfl rfl (r_if_neZ (tgt := 65) hX dX4_moveDate_53 (by decide) (by first | with_reducible assumption | decide | omega) (fun c38 => ?_) (fun c38 => ?_))))
          · refine r_lload hX dX4_moveDate_65 rfl (r_callV hX (z_X4_moveMonths ad ae cs K S 0 rest hS _ (a0).toNat (by first | with_reducible assumption | decide | omega) (by first | with_reducible assumption | decide | omega) _ (by first | with_reducible assumption | decide | omega)) kv_X4_185 14 rfl rfl rfl rfl (Nat.le_of_ble_eq_true rfl) ⟨(Nat.le_of_ble_eq_true rfl), (Nat.le_of_ble_eq_true rfl)⟩ ⟨(Nat.le_of_ble_eq_true rfl), (Nat.le_of_ble_eq_true rfl)⟩ dX4_moveDate_67 (fun _ _ z => False.elim z) (fun v9 ws9 h39 => ?_))
            obtain ⟨rfl, hw9⟩ := h39
            subst ws9
            dsimp only [mPush]
            refine r_iret hX hE dX4_moveDate_70 (Nat.le_of_ble_eq_true rfl) (Nat.le_of_ble_eq_true rfl) ⟨_, rfl, Or.inl ⟨by omega, ?_⟩⟩
            first | rw [show b3 = true by assumption] | rw [show b3 = false by assumption]
            simp only [zSg, cond]
            unfold oMv
            first | rw [if_pos (by omega)] | rw [if_neg (by omega), if_pos (by omega)]
            unfold zMs
            exact oeR (oMon_c (by omega))
          · refine r_ldc2Z (z := 12) hX kc_X4_151 (by decide +kernel) dX4_moveDate_56 (r_lload hX dX4_moveDate_59 rfl (r_lmulZ hX dX4_moveDate_61 (r_goto (tgt := 67) hX dX4_moveDate_62 (by decide) (r_callV hX (z_X4_moveMonths ad ae cs K S 0 rest hS _ (a0).toNat (by first | with_reducible assumption | decide | omega) (by first | with_reducible assumption | decide | omega) _ (by first | with_reducible assumption | decide | omega)) kv_X4_185 14 rfl rfl rfl rfl (Nat.le_of_ble_eq_true rfl) ⟨(Nat.le_of_ble_eq_true rfl), (Nat.le_of_ble_eq_true rfl)⟩ ⟨(Nat.le_of_ble_eq_true rfl), (Nat.le_of_ble_eq_true rfl)⟩ dX4_moveDate_67 (fun _ _ z => False.elim z) (fun v9 ws9 h40 => ?_)))))
            obtain ⟨rfl, hw9⟩ := h40
            subst ws9
            dsimp only [mPush]
            refine r_iret hX hE dX4_moveDate_70 (Nat.le_of_ble_eq_true rfl) (Nat.le_of_ble_eq_true rfl) ⟨_, rfl, Or.inl ⟨by omega, ?_⟩⟩
            first | rw [show b3 = true by assumption] | rw [show b3 = false by assumption]
            simp only [zSg, cond]
            unfold oMv
            first | rw [if_pos (by omega)] | rw [if_neg (by omega), if_pos (by omega)]
            unfold zMs
            exact oeR (oMon_c (by omega))
    · rcases zst1 c5 with ⟨hx, e0⟩ | ⟨hx, hy, e0⟩
      · rw [e0]
        have hx := of_decide_eq_true hx
        refine r_iconstZ hX dX4_moveDate_28 ?_
        exact r_iret hX hE dX4_moveDate_29 (Nat.le_of_ble_eq_true rfl) (Nat.le_of_ble_eq_true rfl) ⟨_, rfl, Or.inr (Or.inl ⟨by omega, rfl⟩)⟩
      · exact absurd hy (by decide)
  · have c3 := of_decide_eq_false c3
    refine r_iconst (v := b2i true) hX dX4_moveDate_17 (by decide) (r_goto (tgt := 22) hX dX4_moveDate_18 (by decide) (r_callV hX (z_X4_isStopped ad ae cs K S th rest (decide (¬ (0 ≤ a0 ∧ a0 < 4))) true) kv_X4_68 14 rfl rfl rfl rfl (Nat.le_of_ble_eq_true rfl) ⟨(Nat.le_of_ble_eq_true rfl), (Nat.le_of_ble_eq_true rfl)⟩ ⟨(Nat.le_of_ble_eq_true rfl), (Nat.le_of_ble_eq_true rfl)⟩ dX4_moveDate_22 (fun _ _ z => False.elim z) (fun v9 ws9 h41 => ?_)))
    obtain ⟨rfl, hw9⟩ := h41
    subst ws9
    dsimp only [mPush]
    refine r_if_eqB (tgt := 30) hX dX4_moveDate_25 (by decide) (fun c42 => ?_) (fun c42 => ?_)
    · exact absurd c42 (by simp)
    · rcases zst1 c42 with ⟨hx, e0⟩ | ⟨hx, hy, e0⟩
      · rw [e0]
        have hx := of_decide_eq_true hx
        refine r_iconstZ hX dX4_moveDate_28 ?_
        exact r_iret hX hE dX4_moveDate_29 (Nat.le_of_ble_eq_true rfl) (Nat.le_of_ble_eq_true rfl) ⟨_, rfl, Or.inr (Or.inl ⟨by omega, rfl⟩)⟩
      · rw [e0]
        have hx := of_decide_eq_false hx
        refine r_iconstZ hX dX4_moveDate_28 ?_
        exact r_iret hX hE dX4_moveDate_29 (Nat.le_of_ble_eq_true rfl) (Nat.le_of_ble_eq_true rfl) ⟨_, rfl, Or.inr (Or.inr ⟨by omega, by omega, rfl⟩)⟩
set_option maxHeartbeats 4000000 in
set_option maxRecDepth 20000 in
theorem z_X4_moveClock (ad ae : Nat → Nat) (cs : ClassId × ClassId × ClassId) (K : mK) (S : mS) (th : Int32) (rest : va_W) (hS : sWF S) (a0 : Int) (h0 : rJ a0) (a1 : Int) (h1 : rJ a1) (a2 : Int) (h2 : rJ a2) (b3 : Bool)  : mCt (mTy cs) yX4_moveClock cX4_moveClock 9 (some .int) ⟨3, 0, 0, 71⟩ [.ref (ae 0), .int (iZ a0), .int (iZ a1), .int (iZ a2), .int (b2i b3)] (mRw ad ae cs K (mJof S th) rest) (fun v ws' => ∃ r : Int32, v = some (.int r) ∧ (((((0 ≤ a0 ∧ a0 < 3)) ∧ (4 ≤ a1 ∧ a1 ≤ 7)) ∧ r = iZ (oClk S a0.toNat (sse S (a0.toNat + 4) + zSn (sna S (a0.toNat + 4)) a1 (zSg a2 b3)) (zNn (sna S (a0.toNat + 4)) a1 (zSg a2 b3)) (sow S (a0.toNat + 4))).1 ∧ ws' = mRw ad ae cs K (mJof (oClk S a0.toNat (sse S (a0.toNat + 4) + zSn (sna S (a0.toNat + 4)) a1 (zSg a2 b3)) (zNn (sna S (a0.toNat + 4)) a1 (zSg a2 b3)) (sow S (a0.toNat + 4))).2 0) rest) ∨ (¬ ((0 ≤ a0 ∧ a0 < 3)) ∧ ws' = mRw ad ae cs K (mJof S 1) rest) ∨ (((0 ≤ a0 ∧ a0 < 3)) ∧ ¬ (4 ≤ a1 ∧ a1 ≤ 7) ∧ ws' = mRw ad ae cs K (mJof S 2) rest))) mNo := by
  refine mCt.of (by decide +kernel) (Nat.le_of_ble_eq_true rfl) (fun X hX hE => ?_)
  replace hX : mOK X RX4 cX4_moveClock 9 ⟨3, 0, 0, 71⟩ [] (mTy cs) := hX
  refine r_aload_n hX dX4_moveClock_0 rfl rfl (r_iload_n hX dX4_moveClock_1 rfl rfl (r_callS hX (z_X4_isNoClock _ _ _ (by first | with_reducible assumption | decide | omega)) ks_X4_205 rfl rfl (Nat.le_of_ble_eq_true rfl) ⟨(Nat.le_of_ble_eq_true rfl), (Nat.le_of_ble_eq_true rfl)⟩ ⟨(Nat.le_of_ble_eq_true rfl), (Nat.le_of_ble_eq_true rfl)⟩ dX4_moveClock_2 (fun _ _ z => False.elim z) (fun v9 ws9 h1 => ?_)))
  obtain ⟨rfl, hw9⟩ := h1
  subst ws9
  dsimp only [mPush]
  refine r_iload_n hX dX4_moveClock_5 rfl rfl (r_i2lZ hX dX4_moveClock_6 (by first | with_reducible assumption | decide | omega) (r_ldc2Z (z := 4) hX kc_X4_212 (by decide +kernel) dX4_moveClock_7 (r_ldc2Z (z := 7) hX kc_X4_183 (by decide +kernel) dX4_moveClock_10 (r_callS hX (z_X4_isIn _ _ _ _ _ (by first | with_reducible assumption | decide | omega) (by first | with_reducible assumption | decide | omega) (by first | with_reducible assumption | decide | omega)) ks_X4_38 rfl rfl (Nat.le_of_ble_eq_true rfl) ⟨(Nat.le_of_ble_eq_true rfl), (Nat.le_of_ble_eq_true rfl)⟩ ⟨(Nat.le_of_ble_eq_true rfl), (Nat.le_of_ble_eq_true rfl)⟩ dX4_moveClock_13 (fun _ _ z => False.elim z) (fun v9 ws9 h2 => ?_)))))
  obtain ⟨rfl, hw9⟩ := h2
  subst ws9
  dsimp only [mPush]
  refine r_if_neB (tgt := 23) hX dX4_moveClock_16 (by decide) (fun c3 => ?_) (fun c3 => ?_)
  · have c3 := of_decide_eq_true c3
    refine r_iconst (v := b2i false) hX dX4_moveClock_23 (by decide) (r_callV hX (z_X4_isStopped ad ae cs K S th rest (decide (¬ (0 ≤ a0 ∧ a0 < 3))) false) kv_X4_68 14 rfl rfl rfl rfl (Nat.le_of_ble_eq_true rfl) ⟨(Nat.le_of_ble_eq_true rfl), (Nat.le_of_ble_eq_true rfl)⟩ ⟨(Nat.le_of_ble_eq_true rfl), (Nat.le_of_ble_eq_true rfl)⟩ dX4_moveClock_24 (fun _ _ z => False.elim z) (fun v9 ws9 h4 => ?_))
    obtain ⟨rfl, hw9⟩ := h4
    subst ws9
    dsimp only [mPush]
    refine r_if_eqB (tgt := 32) hX dX4_moveClock_27 (by decide) (fun c5 => ?_) (fun c5 => ?_)
    · obtain ⟨⟨hx, hy⟩, e0⟩ := zst0 c5
      have hx := of_decide_eq_false hx
      rw [e0]
      have hrk0 := zrg hS (d := a0.toNat + 4) (by omega)
      have hsk0 := hS.2.2.2.2 (a0.toNat + 4) (by omega) (by omega)
      refine r_iload hX dX4_moveClock_32 rfl (r_if_eqB (tgt := 43) hX dX4_moveClock_34 (by decide) (fun c6 => ?_) (fun c6 => ?_))
      · have c6 := id c6
        refine r_iload_n hX dX4_moveClock_43 rfl rfl (r_i2lZ hX dX4_moveClock_44 (by first | with_reducible assumption | decide | omega) (r_lstore hX dX4_moveClock_45 (by decide) rfl (r_aload_n hX dX4_moveClock_47 rfl rfl (r_get hX kf_X4_23 14 rfl rfl dX4_moveClock_48 (r_iconstZ hX dX4_moveClock_51 (r_iload_n hX dX4_moveClock_52 rfl rfl (r_iaddZ hX dX4_moveClock_53 ?_)))))))
        refine r_ialdZ hX 19 0 rfl rfl (a0.toNat + 4) (by first | with_reducible assumption | decide | omega) (by first | with_reducible assumption | decide | omega) (by decide) dX4_moveClock_54 (r_i2lZ hX dX4_moveClock_55 (by first | with_reducible assumption | decide | omega) (r_iload_n hX dX4_moveClock_56 rfl rfl (r_bipushZ hX dX4_moveClock_57 (by decide +kernel) (r_icmp_neZ (tgt := 67) hX dX4_moveClock_59 (by decide) (by first | with_reducible assumption | decide | omega) (by decide) (fun c7 => ?_) (fun c7 => ?_)))))
        · refine r_lconstZ (v := 0) hX dX4_moveClock_67 rfl (r_laddZ hX dX4_moveClock_68 (r_lstore hX dX4_moveClock_69 (by decide) rfl (r_aload_n hX dX4_moveClock_71 rfl rfl (r_iload_n hX dX4_moveClock_72 rfl rfl (r_aload_n hX dX4_moveClock_73 rfl rfl (r_get hX kf_X4_20 14 rfl rfl dX4_moveClock_74 (r_iconstZ hX dX4_moveClock_77 ?_)))))))
          refine r_iload_n hX dX4_moveClock_78 rfl rfl (r_iaddZ hX dX4_moveClock_79 (r_ialdZ hX 18 0 rfl rfl (a0.toNat + 4) (by first | with_reducible assumption | decide | omega) (by first | with_reducible assumption | decide | omega) (by decide) dX4_moveClock_80 (r_i2lZ hX dX4_moveClock_81 (by first | with_reducible assumption | decide | omega) (r_lload hX dX4_moveClock_82 rfl (r_iload_n hX dX4_moveClock_84 rfl rfl (r_callS hX (z_X4_secondsOf _ _ _ (by first | with_reducible assumption | decide | omega)) ks_X4_188 rfl rfl (Nat.le_of_ble_eq_true rfl) ⟨(Nat.le_of_ble_eq_true rfl), (Nat.le_of_ble_eq_true rfl)⟩ ⟨(Nat.le_of_ble_eq_true rfl), (Nat.le_of_ble_eq_true rfl)⟩ dX4_moveClock_85 (fun _ _ z => False.elim z) (fun v9 ws9 h8 => ?_)))))))
          obtain ⟨rfl, hw9⟩ := h8
          subst ws9
          dsimp only [mPush]
          have hsf := zSf_m (u := a1) (b := a2) (by omega)
          have hsf2 : 0 ≤ zSf a1 ∧ zSf a1 ≤ 3600 := by unfold zSf; (repeat' split) <;> omega
          refine r_i2lZ hX dX4_moveClock_88 (by first | with_reducible assumption | decide | omega) (r_lmulZ hX dX4_moveClock_89 (r_laddZ hX dX4_moveClock_90 (r_lload hX dX4_moveClock_91 rfl (r_ldc2Z (z := 1000000000) hX kc_X4_96 (by decide +kernel) dX4_moveClock_93 (r_callS hX (c_X4_whole_x _ _ _ _ (by first | with_reducible assumption | decide | omega) (by first | with_reducible assumption | decide | omega) (by first | with_reducible assumption | decide | omega) (by first | with_reducible assumption | decide | omega)) ks_X4_92 rfl rfl (Nat.le_of_ble_eq_true rfl) ⟨(Nat.le_of_ble_eq_true rfl), (Nat.le_of_ble_eq_true rfl)⟩ ⟨(Nat.le_of_ble_eq_true rfl), (Nat.le_of_ble_eq_true rfl)⟩ dX4_moveClock_96 (fun _ _ z => False.elim z) (fun v9 ws9 h9 => ?_))))))
          obtain ⟨rfl, hw9⟩ := h9
          subst ws9
          dsimp only [mPush]
          refine r_laddZ hX dX4_moveClock_99 (r_lload hX dX4_moveClock_100 rfl (r_ldc2Z (z := 1000000000) hX kc_X4_96 (by decide +kernel) dX4_moveClock_102 (r_callS hX (c_X4_rest_x _ _ _ _ (by first | with_reducible assumption | decide | omega) (by first | with_reducible assumption | decide | omega) (by first | with_reducible assumption | decide | omega) (by first | with_reducible assumption | decide | omega)) ks_X4_102 rfl rfl (Nat.le_of_ble_eq_true rfl) ⟨(Nat.le_of_ble_eq_true rfl), (Nat.le_of_ble_eq_true rfl)⟩ ⟨(Nat.le_of_ble_eq_true rfl), (Nat.le_of_ble_eq_true rfl)⟩ dX4_moveClock_105 (fun _ _ z => False.elim z) (fun v9 ws9 h10 => ?_))))
          obtain ⟨rfl, hw9⟩ := h10
          subst ws9
          dsimp only [mPush]
          refine r_aload_n hX dX4_moveClock_108 rfl rfl (r_get hX kf_X4_26 14 rfl rfl dX4_moveClock_109 (r_iconstZ hX dX4_moveClock_112 (r_iload_n hX dX4_moveClock_113 rfl rfl (r_iaddZ hX dX4_moveClock_114 (r_ialdZ hX 20 0 rfl rfl (a0.toNat + 4) (by first | with_reducible assumption | decide | omega) (by first | with_reducible assumption | decide | omega) (by decide) dX4_moveClock_115 (r_callV hX (z_X4_turn ad ae cs K S 0 rest hS _ (a0).toNat (by first | with_reducible assumption | decide | omega) (by first | with_reducible assumption | decide | omega) _ _ _ (by first | with_reducible assumption | decide | omega)) kv_X4_208 14 rfl rfl rfl rfl (Nat.le_of_ble_eq_true rfl) ⟨(Nat.le_of_ble_eq_true rfl), (Nat.le_of_ble_eq_true rfl)⟩ ⟨(Nat.le_of_ble_eq_true rfl), (Nat.le_of_ble_eq_true rfl)⟩ dX4_moveClock_116 (fun _ _ z => False.elim z) (fun v9 ws9 h11 => ?_)))))))
          obtain ⟨rfl, hw9⟩ := h11
          subst ws9
          dsimp only [mPush]
          refine r_iret hX hE dX4_moveClock_119 (Nat.le_of_ble_eq_true rfl) (Nat.le_of_ble_eq_true rfl) ⟨_, rfl, Or.inl ⟨by omega, ?_⟩⟩
          first | rw [show b3 = true by assumption] | rw [show b3 = false by assumption]
          simp only [zSg, cond]
          refine oeR (oClk_c ?_ ?_ (by omega))
          · unfold zSn
            try unfold zSf at *
            repeat' split
            all_goals omega
          · unfold zNn
            split
            all_goals omega
        · refine r_lload hX dX4_moveClock_62 rfl (r_goto (tgt := 68) hX dX4_moveClock_64 (by decide) (r_laddZ hX dX4_moveClock_68 (r_lstore hX dX4_moveClock_69 (by decide) rfl (r_aload_n hX dX4_moveClock_71 rfl rfl (r_iload_n hX dX4_moveClock_72 rfl rfl (r_aload_n hX dX4_moveClock_73 rfl rfl (r_get hX kf_X4_20 14 rfl rfl dX4_moveClock_74 ?_)))))))
          refine r_iconstZ hX dX4_moveClock_77 (r_iload_n hX dX4_moveClock_78 rfl rfl (r_iaddZ hX dX4_moveClock_79 (r_ialdZ hX 18 0 rfl rfl (a0.toNat + 4) (by first | with_reducible assumption | decide | omega) (by first | with_reducible assumption | decide | omega) (by decide) dX4_moveClock_80 (r_i2lZ hX dX4_moveClock_81 (by first | with_reducible assumption | decide | omega) (r_lload hX dX4_moveClock_82 rfl (r_iload_n hX dX4_moveClock_84 rfl rfl (r_callS hX (z_X4_secondsOf _ _ _ (by first | with_reducible assumption | decide | omega)) ks_X4_188 rfl rfl (Nat.le_of_ble_eq_true rfl) ⟨(Nat.le_of_ble_eq_true rfl), (Nat.le_of_ble_eq_true rfl)⟩ ⟨(Nat.le_of_ble_eq_true rfl), (Nat.le_of_ble_eq_true rfl)⟩ dX4_moveClock_85 (fun _ _ z => False.elim z) (fun v9 ws9 h12 => ?_))))))))
          obtain ⟨rfl, hw9⟩ := h12
          subst ws9
          dsimp only [mPush]
          have hsf := zSf_m (u := a1) (b := a2) (by omega)
          have hsf2 : 0 ≤ zSf a1 ∧ zSf a1 ≤ 3600 := by unfold zSf; (repeat' split) <;> omega
          refine r_i2lZ hX dX4_moveClock_88 (by first | with_reducible assumption | decide | omega) (r_lmulZ hX dX4_moveClock_89 (r_laddZ hX dX4_moveClock_90 (r_lload hX dX4_moveClock_91 rfl (r_ldc2Z (z := 1000000000) hX kc_X4_96 (by decide +kernel) dX4_moveClock_93 (r_callS hX (c_X4_whole_x _ _ _ _ (by first | with_reducible assumption | decide | omega) (by first | with_reducible assumption | decide | omega) (by first | with_reducible assumption | decide | omega) (by first | with_reducible assumption | decide | omega)) ks_X4_92 rfl rfl (Nat.le_of_ble_eq_true rfl) ⟨(Nat.le_of_ble_eq_true rfl), (Nat.le_of_ble_eq_true rfl)⟩ ⟨(Nat.le_of_ble_eq_true rfl), (Nat.le_of_ble_eq_true rfl)⟩ dX4_moveClock_96 (fun _ _ z => False.elim z) (fun v9 ws9 h13 => ?_))))))
          obtain ⟨rfl, hw9⟩ := h13
          subst ws9
          dsimp only [mPush]
          refine r_laddZ hX dX4_moveClock_99 (r_lload hX dX4_moveClock_100 rfl (r_ldc2Z (z := 1000000000) hX kc_X4_96 (by decide +kernel) dX4_moveClock_102 (r_callS hX (c_X4_rest_x _ _ _ _ (by first | with_reducible assumption | decide | omega) (by first | with_reducible assumption | decide | omega) (by first | with_reducible assumption | decide | omega) (by first | with_reducible assumption | decide | omega)) ks_X4_102 rfl rfl (Nat.le_of_ble_eq_true rfl) ⟨(Nat.le_of_ble_eq_true rfl), (Nat.le_of_ble_eq_true rfl)⟩ ⟨(Nat.le_of_ble_eq_true rfl), (Nat.le_of_ble_eq_true rfl)⟩ dX4_moveClock_105 (fun _ _ z => False.elim z) (fun v9 ws9 h14 => ?_))))
          obtain ⟨rfl, hw9⟩ := h14
          subst ws9
          dsimp only [mPush]
          refine r_aload_n hX dX4_moveClock_108 rfl rfl (r_get hX kf_X4_26 14 rfl rfl dX4_moveClock_109 (r_iconstZ hX dX4_moveClock_112 (r_iload_n hX dX4_moveClock_113 rfl rfl (r_iaddZ hX dX4_moveClock_114 (r_ialdZ hX 20 0 rfl rfl (a0.toNat + 4) (by first | with_reducible assumption | decide | omega) (by first | with_reducible assumption | decide | omega) (by decide) dX4_moveClock_115 (r_callV hX (z_X4_turn ad ae cs K S 0 rest hS _ (a0).toNat (by first | with_reducible assumption | decide | omega) (by first | with_reducible assumption | decide | omega) _ _ _ (by first | with_reducible assumption | decide | omega)) kv_X4_208 14 rfl rfl rfl rfl (Nat.le_of_ble_eq_true rfl) ⟨(Nat.le_of_ble_eq_true rfl), (Nat.le_of_ble_eq_true rfl)⟩ ⟨(Nat.le_of_ble_eq_true rfl), (Nat.le_of_ble_eq_true rfl)⟩ dX4_moveClock_116 (fun _ _ z => False.elim z) (fun v9 ws9 h15 => ?_)))))))
          obtain ⟨rfl, hw9⟩ := h15
          subst ws9
          dsimp only [mPush]
          refine r_iret hX hE dX4_moveClock_119 (Nat.le_of_ble_eq_true rfl) (Nat.le_of_ble_eq_true rfl) ⟨_, rfl, Or.inl ⟨by omega, ?_⟩⟩
          first | rw [show b3 = true by assumption] | rw [show b3 = false by assumption]
          simp only [zSg, cond]
          refine oeR (oClk_c ?_ ?_ (by omega))
          · unfold zSn
            try unfold zSf at *
            repeat' split
            all_goals omega
          · unfold zNn
            split
            all_goals omega
      · have c6 := id c6
        refine r_iload_n hX dX4_moveClock_37 rfl rfl (r_i2lZ hX dX4_moveClock_38 (by first | with_reducible assumption | decide | omega) (r_lnegZ hX dX4_moveClock_39 (r_goto (tgt := 45) hX dX4_moveClock_40 (by decide) (r_lstore hX dX4_moveClock_45 (by decide) rfl (r_aload_n hX dX4_moveClock_47 rfl rfl (r_get hX kf_X4_23 14 rfl rfl dX4_moveClock_48 (r_iconstZ hX dX4_moveClock_51 ?_)))))))
        refine r_iload_n hX dX4_moveClock_52 rfl rfl (r_iaddZ hX dX4_moveClock_53 (r_ialdZ hX 19 0 rfl rfl (a0.toNat + 4) (by first | with_reducible assumption | decide | omega) (by first | with_reducible assumption | decide | omega) (by decide) dX4_moveClock_54 (r_i2lZ hX dX4_moveClock_55 (by first | with_reducible assumption | decide | omega) (r_iload_n hX dX4_moveClock_56 rfl rfl (r_bipushZ hX dX4_moveClock_57 (by decide +kernel) (r_icmp_neZ (tgt := 67) hX dX4_moveClock_59 (by decide) (by first | with_reducible assumption | decide | omega) (by decide) (fun c16 => ?_) (fun c16 => ?_)))))))
        · refine r_lconstZ (v := 0) hX dX4_moveClock_67 rfl (r_laddZ hX dX4_moveClock_68 (r_lstore hX dX4_moveClock_69 (by decide) rfl (r_aload_n hX dX4_moveClock_71 rfl rfl (r_iload_n hX dX4_moveClock_72 rfl rfl (r_aload_n hX dX4_moveClock_73 rfl rfl (r_get hX kf_X4_20 14 rfl rfl dX4_moveClock_74 (r_iconstZ hX dX4_moveClock_77 ?_)))))))
          refine r_iload_n hX dX4_moveClock_78 rfl rfl (r_iaddZ hX dX4_moveClock_79 (r_ialdZ hX 18 0 rfl rfl (a0.toNat + 4) (by first | with_reducible assumption | decide | omega) (by first | with_reducible assumption | decide | omega) (by decide) dX4_moveClock_80 (r_i2lZ hX dX4_moveClock_81 (by first | with_reducible assumption | decide | omega) (r_lload hX dX4_moveClock_82 rfl (r_iload_n hX dX4_moveClock_84 rfl rfl (r_callS hX (z_X4_secondsOf _ _ _ (by first | with_reducible assumption | decide | omega)) ks_X4_188 rfl rfl (Nat.le_of_ble_eq_true rfl) ⟨(Nat.le_of_ble_eq_true rfl), (Nat.le_of_ble_eq_true rfl)⟩ ⟨(Nat.le_of_ble_eq_true rfl), (Nat.le_of_ble_eq_true rfl)⟩ dX4_moveClock_85 (fun _ _ z => False.elim z) (fun v9 ws9 h17 => ?_)))))))
          obtain ⟨rfl, hw9⟩ := h17
          subst ws9
          dsimp only [mPush]
          have hsf := zSf_m (u := a1) (b := -a2) (by omega)
          have hsf2 : 0 ≤ zSf a1 ∧ zSf a1 ≤ 3600 := by unfold zSf; (repeat' split) <;> omega
          refine r_i2lZ hX dX4_moveClock_88 (by first | with_reducible assumption | decide | omega) (r_lmulZ hX dX4_moveClock_89 (r_laddZ hX dX4_moveClock_90 (r_lload hX dX4_moveClock_91 rfl (r_ldc2Z (z := 1000000000) hX kc_X4_96 (by decide +kernel) dX4_moveClock_93 (r_callS hX (c_X4_whole_x _ _ _ _ (by first | with_reducible assumption | decide | omega) (by first | with_reducible assumption | decide | omega) (by first | with_reducible assumption | decide | omega) (by first | with_reducible assumption | decide | omega)) ks_X4_92 rfl rfl (Nat.le_of_ble_eq_true rfl) ⟨(Nat.le_of_ble_eq_true rfl), (Nat.le_of_ble_eq_true rfl)⟩ ⟨(Nat.le_of_ble_eq_true rfl), (Nat.le_of_ble_eq_true rfl)⟩ dX4_moveClock_96 (fun _ _ z => False.elim z) (fun v9 ws9 h18 => ?_))))))
          obtain ⟨rfl, hw9⟩ := h18
          subst ws9
          dsimp only [mPush]
          refine r_laddZ hX dX4_moveClock_99 (r_lload hX dX4_moveClock_100 rfl (r_ldc2Z (z := 1000000000) hX kc_X4_96 (by decide +kernel) dX4_moveClock_102 (r_callS hX (c_X4_rest_x _ _ _ _ (by first | with_reducible assumption | decide | omega) (by first | with_reducible assumption | decide | omega) (by first | with_reducible assumption | decide | omega) (by first | with_reducible assumption | decide | omega)) ks_X4_102 rfl rfl (Nat.le_of_ble_eq_true rfl) ⟨(Nat.le_of_ble_eq_true rfl), (Nat.le_of_ble_eq_true rfl)⟩ ⟨(Nat.le_of_ble_eq_true rfl), (Nat.le_of_ble_eq_true rfl)⟩ dX4_moveClock_105 (fun _ _ z => False.elim z) (fun v9 ws9 h19 => ?_))))
          obtain ⟨rfl, hw9⟩ := h19
          subst ws9
          dsimp only [mPush]
          refine r_aload_n hX dX4_moveClock_108 rfl rfl (r_get hX kf_X4_26 14 rfl rfl dX4_moveClock_109 (r_iconstZ hX dX4_moveClock_112 (r_iload_n hX dX4_moveClock_113 rfl rfl (r_iaddZ hX dX4_moveClock_114 (r_ialdZ hX 20 0 rfl rfl (a0.toNat + 4) (by first | with_reducible assumption | decide | omega) (by first | with_reducible assumption | decide | omega) (by decide) dX4_moveClock_115 (r_callV hX (z_X4_turn ad ae cs K S 0 rest hS _ (a0).toNat (by first | with_reducible assumption | decide | omega) (by first | with_reducible assumption | decide | omega) _ _ _ (by first | with_reducible assumption | decide | omega)) kv_X4_208 14 rfl rfl rfl rfl (Nat.le_of_ble_eq_true rfl) ⟨(Nat.le_of_ble_eq_true rfl), (Nat.le_of_ble_eq_true rfl)⟩ ⟨(Nat.le_of_ble_eq_true rfl), (Nat.le_of_ble_eq_true rfl)⟩ dX4_moveClock_116 (fun _ _ z => False.elim z) (fun v9 ws9 h20 => ?_)))))))
          obtain ⟨rfl, hw9⟩ := h20
          subst ws9
          dsimp only [mPush]
          refine r_iret hX hE dX4_moveClock_119 (Nat.le_of_ble_eq_true rfl) (Nat.le_of_ble_eq_true rfl) ⟨_, rfl, Or.inl ⟨by omega, ?_⟩⟩
          first | rw [show b3 = true by assumption] | rw [show b3 = false by assumption]
          simp only [zSg, cond]
          refine oeR (oClk_c ?_ ?_ (by omega))
          · unfold zSn
            try unfold zSf at *
            repeat' split
            all_goals omega
          · unfold zNn
            split
            all_goals omega
        · refine r_lload hX dX4_moveClock_62 rfl (r_goto (tgt := 68) hX dX4_moveClock_64 (by decide) (r_laddZ hX dX4_moveClock_68 (r_lstore hX dX4_moveClock_69 (by decide) rfl (r_aload_n hX dX4_moveClock_71 rfl rfl (r_iload_n hX dX4_moveClock_72 rfl rfl (r_aload_n hX dX4_moveClock_73 rfl rfl (r_get hX kf_X4_20 14 rfl rfl dX4_moveClock_74 ?_)))))))
          refine r_iconstZ hX dX4_moveClock_77 (r_iload_n hX dX4_moveClock_78 rfl rfl (r_iaddZ hX dX4_moveClock_79 (r_ialdZ hX 18 0 rfl rfl (a0.toNat + 4) (by first | with_reducible assumption | decide | omega) (by first | with_reducible assumption | decide | omega) (by decide) dX4_moveClock_80 (r_i2lZ hX dX4_moveClock_81 (by first | with_reducible assumption | decide | omega) (r_lload hX dX4_moveClock_82 rfl (r_iload_n hX dX4_moveClock_84 rfl rfl (r_callS hX (z_X4_secondsOf _ _ _ (by first | with_reducible assumption | decide | omega)) ks_X4_188 rfl rfl (Nat.le_of_ble_eq_true rfl) ⟨(Nat.le_of_ble_eq_true rfl), (Nat.le_of_ble_eq_true rfl)⟩ ⟨(Nat.le_of_ble_eq_true rfl), (Nat.le_of_ble_eq_true rfl)⟩ dX4_moveClock_85 (fun _ _ z => False.elim z) (fun v9 ws9 h21 => ?_))))))))
          obtain ⟨rfl, hw9⟩ := h21
          subst ws9
          dsimp only [mPush]
          have hsf := zSf_m (u := a1) (b := -a2) (by omega)
          have hsf2 : 0 ≤ zSf a1 ∧ zSf a1 ≤ 3600 := by unfold zSf; (repeat' split) <;> omega
          refine r_i2lZ hX dX4_moveClock_88 (by first | with_reducible assumption | decide | omega) (r_lmulZ hX dX4_moveClock_89 (r_laddZ hX dX4_moveClock_90 (r_lload hX dX4_moveClock_91 rfl (r_ldc2Z (z := 1000000000) hX kc_X4_96 (by decide +kernel) dX4_moveClock_93 (r_callS hX (c_X4_whole_x _ _ _ _ (by first | with_reducible assumption | decide | omega) (by first | with_reducible assumption | decide | omega) (by first | with_reducible assumption | decide | omega) (by first | with_reducible assumption | decide | omega)) ks_X4_92 rfl rfl (Nat.le_of_ble_eq_true rfl) ⟨(Nat.le_of_ble_eq_true rfl), (Nat.le_of_ble_eq_true rfl)⟩ ⟨(Nat.le_of_ble_eq_true rfl), (Nat.le_of_ble_eq_true rfl)⟩ dX4_moveClock_96 (fun _ _ z => False.elim z) (fun v9 ws9 h22 => ?_))))))
          obtain ⟨rfl, hw9⟩ := h22
          subst ws9
          dsimp only [mPush]
          refine r_laddZ hX dX4_moveClock_99 (r_lload hX dX4_moveClock_100 rfl (r_ldc2Z (z := 1000000000) hX kc_X4_96 (by decide +kernel) dX4_moveClock_102 (r_callS hX (c_X4_rest_x _ _ _ _ (by first | with_reducible assumption | decide | omega) (by first | with_reducible assumption | decide | omega) (by first | with_reducible assumption | decide | omega) (by first | with_reducible assumption | decide | omega)) ks_X4_102 rfl rfl (Nat.le_of_ble_eq_true rfl) ⟨(Nat.le_of_ble_eq_true rfl), (Nat.le_of_ble_eq_true rfl)⟩ ⟨(Nat.le_of_ble_eq_true rfl), (Nat.le_of_ble_eq_true rfl)⟩ dX4_moveClock_105 (fun _ _ z => False.elim z) (fun v9 ws9 h23 => ?_))))
          obtain ⟨rfl, hw9⟩ := h23
          subst ws9
          dsimp only [mPush]
          refine r_aload_n hX dX4_moveClock_108 rfl rfl (r_get hX kf_X4_26 14 rfl rfl dX4_moveClock_109 (r_iconstZ hX dX4_moveClock_112 (r_iload_n hX dX4_moveClock_113 rfl rfl (r_iaddZ hX dX4_moveClock_114 (r_ialdZ hX 20 0 rfl rfl (a0.toNat + 4) (by first | with_reducible assumption | decide | omega) (by first | with_reducible assumption | decide | omega) (by decide) dX4_moveClock_115 (r_callV hX (z_X4_turn ad ae cs K S 0 rest hS _ (a0).toNat (by first | with_reducible assumption | decide | omega) (by first | with_reducible assumption | decide | omega) _ _ _ (by first | with_reducible assumption | decide | omega)) kv_X4_208 14 rfl rfl rfl rfl (Nat.le_of_ble_eq_true rfl) ⟨(Nat.le_of_ble_eq_true rfl), (Nat.le_of_ble_eq_true rfl)⟩ ⟨(Nat.le_of_ble_eq_true rfl), (Nat.le_of_ble_eq_true rfl)⟩ dX4_moveClock_116 (fun _ _ z => False.elim z) (fun v9 ws9 h24 => ?_)))))))
          obtain ⟨rfl, hw9⟩ := h24
          subst ws9
          dsimp only [mPush]
          refine r_iret hX hE dX4_moveClock_119 (Nat.le_of_ble_eq_true rfl) (Nat.le_of_ble_eq_true rfl) ⟨_, rfl, Or.inl ⟨by omega, ?_⟩⟩
          first | rw [show b3 = true by assumption] | rw [show b3 = false by assumption]
          simp only [zSg, cond]
          refine oeR (oClk_c ?_ ?_ (by omega))
          · unfold zSn
            try unfold zSf at *
            repeat' split
            all_goals omega
          · unfold zNn
            split
            all_goals omega
    · rcases zst1 c5 with ⟨hx, e0⟩ | ⟨hx, hy, e0⟩
      · rw [e0]
        have hx := of_decide_eq_true hx
        refine r_iconstZ hX dX4_moveClock_30 ?_
        exact r_iret hX hE dX4_moveClock_31 (Nat.le_of_ble_eq_true rfl) (Nat.le_of_ble_eq_true rfl) ⟨_, rfl, Or.inr (Or.inl ⟨by omega, rfl⟩)⟩
      · exact absurd hy (by decide)
  · have c3 := of_decide_eq_false c3
    refine r_iconst (v := b2i true) hX dX4_moveClock_19 (by decide) (r_goto (tgt := 24) hX dX4_moveClock_20 (by decide) (r_callV hX (z_X4_isStopped ad ae cs K S th rest (decide (¬ (0 ≤ a0 ∧ a0 < 3))) true) kv_X4_68 14 rfl rfl rfl rfl (Nat.le_of_ble_eq_true rfl) ⟨(Nat.le_of_ble_eq_true rfl), (Nat.le_of_ble_eq_true rfl)⟩ ⟨(Nat.le_of_ble_eq_true rfl), (Nat.le_of_ble_eq_true rfl)⟩ dX4_moveClock_24 (fun _ _ z => False.elim z) (fun v9 ws9 h25 => ?_)))
    obtain ⟨rfl, hw9⟩ := h25
    subst ws9
    dsimp only [mPush]
    refine r_if_eqB (tgt := 32) hX dX4_moveClock_27 (by decide) (fun c26 => ?_) (fun c26 => ?_)
    · exact absurd c26 (by simp)
    · rcases zst1 c26 with ⟨hx, e0⟩ | ⟨hx, hy, e0⟩
      · rw [e0]
        have hx := of_decide_eq_true hx
        refine r_iconstZ hX dX4_moveClock_30 ?_
        exact r_iret hX hE dX4_moveClock_31 (Nat.le_of_ble_eq_true rfl) (Nat.le_of_ble_eq_true rfl) ⟨_, rfl, Or.inr (Or.inl ⟨by omega, rfl⟩)⟩
      · rw [e0]
        have hx := of_decide_eq_false hx
        refine r_iconstZ hX dX4_moveClock_30 ?_
        exact r_iret hX hE dX4_moveClock_31 (Nat.le_of_ble_eq_true rfl) (Nat.le_of_ble_eq_true rfl) ⟨_, rfl, Or.inr (Or.inr ⟨by omega, by omega, rfl⟩)⟩
end
-- 78 zrset
section
/-! The reference, exact (rows by a program of this repository). -/
set_option maxHeartbeats 4000000 in
set_option maxRecDepth 20000 in
theorem z_X4_set (ad ae : Nat → Nat) (cs : ClassId × ClassId × ClassId) (K : mK) (S : mS) (th : Int32) (rest : va_W) (hS : sWF S) (a0 : Int) (h0 : rJ a0) (a1 : Int) (h1 : rJ a1) (a2 : Int) (h2 : rJ a2)  : mCt (mTy cs) yX4_set cX4_set 6 (some .int) ⟨5, 1, 4, 119⟩ [.ref (ae 0), .int (iZ a0), .int (iZ a1), .int (iZ a2)] (mRw ad ae cs K (mJof S th) rest) (fun v ws' => ∃ r : Int32, v = some (.int r) ∧ (((((0 ≤ a0 ∧ a0 < 4)) ∧ (0 ≤ a1 ∧ a1 ≤ 7)) ∧ r = iZ (oSet S a0.toNat a1 a2).1 ∧ ws' = mRw ad ae cs K (mJof (oSet S a0.toNat a1 a2).2 0) rest) ∨ (¬ ((0 ≤ a0 ∧ a0 < 4)) ∧ ws' = mRw ad ae cs K (mJof S 1) rest) ∨ (((0 ≤ a0 ∧ a0 < 4)) ∧ ¬ (0 ≤ a1 ∧ a1 ≤ 7) ∧ ws' = mRw ad ae cs K (mJof S 2) rest))) mNo := by
  refine mCt.of (by decide +kernel) (Nat.le_of_ble_eq_true rfl) (fun X hX hE => ?_)
  replace hX : mOK X RX4 cX4_set 6 ⟨5, 1, 4, 119⟩ [] (mTy cs) := hX
  refine r_aload_n hX dX4_set_0 rfl rfl (r_iload_n hX dX4_set_1 rfl rfl (r_callS hX (z_X4_isNone _ _ _ (by first | with_reducible assumption | decide | omega)) ks_X4_61 rfl rfl (Nat.le_of_ble_eq_true rfl) ⟨(Nat.le_of_ble_eq_true rfl), (Nat.le_of_ble_eq_true rfl)⟩ ⟨(Nat.le_of_ble_eq_true rfl), (Nat.le_of_ble_eq_true rfl)⟩ dX4_set_2 (fun _ _ z => False.elim z) (fun v9 ws9 h1 => ?_)))
  obtain ⟨rfl, hw9⟩ := h1
  subst ws9
  dsimp only [mPush]
  refine r_iload_n hX dX4_set_5 rfl rfl (r_i2lZ hX dX4_set_6 (by first | with_reducible assumption | decide | omega) (r_lconstZ (v := 0) hX dX4_set_7 rfl (r_ldc2Z (z := 7) hX kc_X4_183 (by decide +kernel) dX4_set_8 (r_callS hX (z_X4_isIn _ _ _ _ _ (by first | with_reducible assumption | decide | omega) (by first | with_reducible assumption | decide | omega) (by first | with_reducible assumption | decide | omega)) ks_X4_38 rfl rfl (Nat.le_of_ble_eq_true rfl) ⟨(Nat.le_of_ble_eq_true rfl), (Nat.le_of_ble_eq_true rfl)⟩ ⟨(Nat.le_of_ble_eq_true rfl), (Nat.le_of_ble_eq_true rfl)⟩ dX4_set_11 (fun _ _ z => False.elim z) (fun v9 ws9 h2 => ?_)))))
  obtain ⟨rfl, hw9⟩ := h2
  subst ws9
  dsimp only [mPush]
  refine r_if_neB (tgt := 21) hX dX4_set_14 (by decide) (fun c3 => ?_) (fun c3 => ?_)
  · have c3 := of_decide_eq_true c3
    refine r_iconst (v := b2i false) hX dX4_set_21 (by decide) (r_callV hX (z_X4_isStopped ad ae cs K S th rest (decide (¬ (0 ≤ a0 ∧ a0 < 4))) false) kv_X4_68 14 rfl rfl rfl rfl (Nat.le_of_ble_eq_true rfl) ⟨(Nat.le_of_ble_eq_true rfl), (Nat.le_of_ble_eq_true rfl)⟩ ⟨(Nat.le_of_ble_eq_true rfl), (Nat.le_of_ble_eq_true rfl)⟩ dX4_set_22 (fun _ _ z => False.elim z) (fun v9 ws9 h4 => ?_))
    obtain ⟨rfl, hw9⟩ := h4
    subst ws9
    dsimp only [mPush]
    refine r_if_eqB (tgt := 30) hX dX4_set_25 (by decide) (fun c5 => ?_) (fun c5 => ?_)
    · obtain ⟨⟨hx, hy⟩, e0⟩ := zst0 c5
      have hx := of_decide_eq_false hx
      rw [e0]
      have hr0 := zrg hS (d := a0.toNat) (by omega)
      have hse := hS.2.2.2.1 a0.toNat (by omega)
      have hsd : -21915 ≤ sse S a0.toNat / 86400 ∧ sse S a0.toNat / 86400 ≤ 22279 := by omega
      have hyr := YR_spec hsd.1 hsd.2
      have hmo := MO_b (sse S a0.toNat / 86400)
      have hdom := DOM_b hsd.1 hsd.2
      have hdmb := dm_b (YR (sse S a0.toNat / 86400)) (MO (sse S a0.toNat / 86400))
      have hfo := FO_b (y := (YR (sse S a0.toNat / 86400))) (by omega)
      refine r_aload_n hX dX4_set_30 rfl rfl (r_get hX kf_X4_17 14 rfl rfl dX4_set_31 (r_iload_n hX dX4_set_34 rfl rfl (r_ialdZ hX 17 0 rfl rfl (a0).toNat (by first | with_reducible assumption | decide | omega) (by first | with_reducible assumption | decide | omega) (by decide) dX4_set_35 (r_callS hX (z_X4_parts _ _ _ (by first | with_reducible assumption | decide | omega)) ks_X4_170 rfl rfl (Nat.le_of_ble_eq_true rfl) ⟨(Nat.le_of_ble_eq_true rfl), (Nat.le_of_ble_eq_true rfl)⟩ ⟨(Nat.le_of_ble_eq_true rfl), (Nat.le_of_ble_eq_true rfl)⟩ dX4_set_36 (fun _ _ z => False.elim z) (fun v9 ws9 h6 => ?_)))))
      obtain ⟨f7, q8, hf9, rfl, hw9⟩ := h6
      subst ws9
      dsimp only [mPush]
      refine r_eqw mRw_app (r_astore hX dX4_set_39 (by decide) rfl (r_aload_n hX dX4_set_41 rfl rfl (r_get hX kf_X4_20 14 rfl rfl dX4_set_42 (r_iload_n hX dX4_set_45 rfl rfl (r_ialdZ hX 18 0 rfl rfl (a0).toNat (by first | with_reducible assumption | decide | omega) (by first | with_reducible assumption | decide | omega) (by decide) dX4_set_46 (r_istore hX dX4_set_47 (by decide) rfl (r_iload_n hX dX4_set_49 rfl rfl ?_)))))))
      by_cases s10 : a1 = 0
      · refine r_tableInZ (z := 0) (off := 42) (tgt := 92) hX dX4_set_50 s10 (by decide) (by decide) (by decide) rfl (by decide) (r_iload_n hX dX4_set_92 rfl rfl (r_i2lZ hX dX4_set_93 (by first | with_reducible assumption | decide | omega) (r_ldc2Z (z := 1910) hX kc_X4_147 (by decide +kernel) dX4_set_94 (r_ldc2Z (z := 2030) hX kc_X4_149 (by decide +kernel) dX4_set_97 (r_callS hX (z_X4_isIn _ _ _ _ _ (by first | with_reducible assumption | decide | omega) (by first | with_reducible assumption | decide | omega) (by first | with_reducible assumption | decide | omega)) ks_X4_38 rfl rfl (Nat.le_of_ble_eq_true rfl) ⟨(Nat.le_of_ble_eq_true rfl), (Nat.le_of_ble_eq_true rfl)⟩ ⟨(Nat.le_of_ble_eq_true rfl), (Nat.le_of_ble_eq_true rfl)⟩ dX4_set_100 (fun _ _ z => False.elim z) (fun v9 ws9 h11 => ?_))))))
        obtain ⟨rfl, hw9⟩ := h11
        subst ws9
        dsimp only [mPush]
        refine r_if_eqB (tgt := 123) hX dX4_set_103 (by decide) (fun c12 => ?_) (fun c12 => ?_)
        · have c12 := of_decide_eq_false c12
          refine r_aload_n hX dX4_set_123 rfl rfl (r_callV hX (z_X4_no ad ae cs K S 0 (rest ++ [(q8, .inl (cs.1, 4, .inl f7))])) kv_X4_80 14 rfl rfl rfl rfl (Nat.le_of_ble_eq_true rfl) ⟨(Nat.le_of_ble_eq_true rfl), (Nat.le_of_ble_eq_true rfl)⟩ ⟨(Nat.le_of_ble_eq_true rfl), (Nat.le_of_ble_eq_true rfl)⟩ dX4_set_124 (fun _ _ z => False.elim z) (fun v9 ws9 h13 => ?_))
          obtain ⟨rfl, hw9⟩ := h13
          subst ws9
          dsimp only [mPush]
          refine r_eqw (mRw_app (rest := rest)).symm (r_drop ?_)
          refine r_iret hX hE dX4_set_127 (Nat.le_of_ble_eq_true rfl) (Nat.le_of_ble_eq_true rfl) ⟨_, rfl, Or.inl ⟨by omega, ?_⟩⟩
          have e1 : (a2 * 12 + ((MO (sse S a0.toNat / 86400)) : Nat) - 1) / 12 = a2 := by omega
          have e2 : (a2 * 12 + ((MO (sse S a0.toNat / 86400)) : Nat) - 1) % 12 + 1 = (((MO (sse S a0.toNat / 86400)) : Nat) : Int) := by omega
          unfold oSet
          rw [if_pos (by first | (rw [s10]; decide) | omega)]
          unfold oDay
          rw [if_pos (by first | (rw [s10]; decide) | omega)]
          unfold oMon
          rw [e1, if_neg (by omega)]
          exact ⟨rfl, rfl⟩
        · have c12 := of_decide_eq_true c12
          refine r_aload_n hX dX4_set_106 rfl rfl (r_iload_n hX dX4_set_107 rfl rfl (r_iload_n hX dX4_set_108 rfl rfl (r_aload hX dX4_set_109 rfl (r_iconstZ hX dX4_set_111 (r_ialdZ hX (21 + (rest).length) 0 zRw_last rfl 1 (by decide) (by decide) (by decide) dX4_set_112 ?_)))))
          rw [hf9.2.1]
          refine r_aload hX dX4_set_113 rfl (r_iconstZ hX dX4_set_115 (r_ialdZ hX (21 + (rest).length) 0 zRw_last rfl 2 (by decide) (by decide) (by decide) dX4_set_116 ?_))
          rw [hf9.2.2.1]
          refine r_callV hX (z_X4_putDay ad ae cs K S 0 (rest ++ [(q8, .inl (cs.1, 4, .inl f7))]) hS _ (a0).toNat (by first | with_reducible assumption | decide | omega) (by first | with_reducible assumption | decide | omega) _ (a2).toNat (by first | with_reducible assumption | decide | omega) (by first | with_reducible assumption | decide | omega) _ (MO (sse S ((a0).toNat) / 86400)) (by first | with_reducible assumption | decide | omega) (by first | with_reducible assumption | decide | omega) _ (by first | with_reducible assumption | decide | omega)) kv_X4_174 14 rfl rfl rfl rfl (Nat.le_of_ble_eq_true rfl) ⟨(Nat.le_of_ble_eq_true rfl), (Nat.le_of_ble_eq_true rfl)⟩ ⟨(Nat.le_of_ble_eq_true rfl), (Nat.le_of_ble_eq_true rfl)⟩ dX4_set_117 (fun _ _ z => False.elim z) (fun v9 ws9 h14 => ?_)
          obtain ⟨rfl, hw9⟩ := h14
          subst ws9
          dsimp only [mPush]
          refine r_goto (tgt := 127) hX dX4_set_120 (by decide) (r_eqw (mRw_app (rest := rest)).symm (r_drop ?_))
          refine r_iret hX hE dX4_set_127 (Nat.le_of_ble_eq_true rfl) (Nat.le_of_ble_eq_true rfl) ⟨_, rfl, Or.inl ⟨by omega, ?_⟩⟩
          have e1 : (a2 * 12 + ((MO (sse S a0.toNat / 86400)) : Nat) - 1) / 12 = a2 := by omega
          have e2 : (a2 * 12 + ((MO (sse S a0.toNat / 86400)) : Nat) - 1) % 12 + 1 = (((MO (sse S a0.toNat / 86400)) : Nat) : Int) := by omega
          have hin := day_inZ (y := a2.toNat) (m := (MO (sse S a0.toNat / 86400))) (e := zMin (DOM (sse S a0.toNat / 86400)) (dm a2.toNat (MO (sse S a0.toNat / 86400)) : Nat)) (by omega) (by omega) (by omega) (by omega) (by have := dm_b a2.toNat (MO (sse S a0.toNat / 86400)); unfold zMin; split <;> omega) (zMin_r _ _)
          unfold oSet
          rw [if_pos (by first | (rw [s10]; decide) | omega)]
          unfold oDay
          rw [if_pos (by first | (rw [s10]; decide) | omega)]
          unfold oMon
          rw [e1, e2, if_pos (by omega), Int.toNat_natCast, oLoc_y (by omega)]
          exact ⟨congrArg iZ (by omega), rfl⟩
      by_cases s15 : a1 = 1
      · refine r_tableInZ (z := 1) (off := 78) (tgt := 128) hX dX4_set_50 s15 (by decide) (by decide) (by decide) rfl (by decide) (r_iload_n hX dX4_set_128 rfl rfl (r_i2lZ hX dX4_set_129 (by first | with_reducible assumption | decide | omega) (r_lconstZ (v := 1) hX dX4_set_130 rfl (r_ldc2Z (z := 12) hX kc_X4_151 (by decide +kernel) dX4_set_131 (r_callS hX (z_X4_isIn _ _ _ _ _ (by first | with_reducible assumption | decide | omega) (by first | with_reducible assumption | decide | omega) (by first | with_reducible assumption | decide | omega)) ks_X4_38 rfl rfl (Nat.le_of_ble_eq_true rfl) ⟨(Nat.le_of_ble_eq_true rfl), (Nat.le_of_ble_eq_true rfl)⟩ ⟨(Nat.le_of_ble_eq_true rfl), (Nat.le_of_ble_eq_true rfl)⟩ dX4_set_134 (fun _ _ z => False.elim z) (fun v9 ws9 h16 => ?_))))))
        obtain ⟨rfl, hw9⟩ := h16
        subst ws9
        dsimp only [mPush]
        refine r_if_eqB (tgt := 157) hX dX4_set_137 (by decide) (fun c17 => ?_) (fun c17 => ?_)
        · have c17 := of_decide_eq_false c17
          refine r_aload_n hX dX4_set_157 rfl rfl (r_callV hX (z_X4_no ad ae cs K S 0 (rest ++ [(q8, .inl (cs.1, 4, .inl f7))])) kv_X4_80 14 rfl rfl rfl rfl (Nat.le_of_ble_eq_true rfl) ⟨(Nat.le_of_ble_eq_true rfl), (Nat.le_of_ble_eq_true rfl)⟩ ⟨(Nat.le_of_ble_eq_true rfl), (Nat.le_of_ble_eq_true rfl)⟩ dX4_set_158 (fun _ _ z => False.elim z) (fun v9 ws9 h18 => ?_))
          obtain ⟨rfl, hw9⟩ := h18
          subst ws9
          dsimp only [mPush]
          refine r_eqw (mRw_app (rest := rest)).symm (r_drop ?_)
          refine r_iret hX hE dX4_set_161 (Nat.le_of_ble_eq_true rfl) (Nat.le_of_ble_eq_true rfl) ⟨_, rfl, Or.inl ⟨by omega, ?_⟩⟩
          unfold oSet
          rw [if_pos (by first | (rw [s15]; decide) | omega)]
          unfold oDay
          rw [if_neg (by first | (rw [s15]; decide) | omega)]
          rw [if_pos (by first | (rw [s15]; decide) | omega)]
          rw [if_neg (by first | (rw [s15]; decide) | omega)]
          exact ⟨rfl, rfl⟩
        · have c17 := of_decide_eq_true c17
          refine r_aload_n hX dX4_set_140 rfl rfl (r_iload_n hX dX4_set_141 rfl rfl (r_aload hX dX4_set_142 rfl (r_iconstZ hX dX4_set_144 (r_ialdZ hX (21 + (rest).length) 0 zRw_last rfl 0 (by decide) (by decide) (by decide) dX4_set_145 ?_))))
          rw [hf9.1]
          refine r_iload_n hX dX4_set_146 rfl rfl (r_aload hX dX4_set_147 rfl (r_iconstZ hX dX4_set_149 (r_ialdZ hX (21 + (rest).length) 0 zRw_last rfl 2 (by decide) (by decide) (by decide) dX4_set_150 ?_)))
          rw [hf9.2.2.1]
          refine r_callV hX (z_X4_putDay ad ae cs K S 0 (rest ++ [(q8, .inl (cs.1, 4, .inl f7))]) hS _ (a0).toNat (by first | with_reducible assumption | decide | omega) (by first | with_reducible assumption | decide | omega) _ (YR (sse S ((a0).toNat) / 86400)) (by first | with_reducible assumption | decide | omega) (by first | with_reducible assumption | decide | omega) _ (a2).toNat (by first | with_reducible assumption | decide | omega) (by first | with_reducible assumption | decide | omega) _ (by first | with_reducible assumption | decide | omega)) kv_X4_174 14 rfl rfl rfl rfl (Nat.le_of_ble_eq_true rfl) ⟨(Nat.le_of_ble_eq_true rfl), (Nat.le_of_ble_eq_true rfl)⟩ ⟨(Nat.le_of_ble_eq_true rfl), (Nat.le_of_ble_eq_true rfl)⟩ dX4_set_151 (fun _ _ z => False.elim z) (fun v9 ws9 h19 => ?_)
          obtain ⟨rfl, hw9⟩ := h19
          subst ws9
          dsimp only [mPush]
          refine r_goto (tgt := 161) hX dX4_set_154 (by decide) (r_eqw (mRw_app (rest := rest)).symm (r_drop ?_))
          refine r_iret hX hE dX4_set_161 (Nat.le_of_ble_eq_true rfl) (Nat.le_of_ble_eq_true rfl) ⟨_, rfl, Or.inl ⟨by omega, ?_⟩⟩
          have e1 : (((YR (sse S a0.toNat / 86400)) : Nat) * 12 + a2 - 1) / 12 = (((YR (sse S a0.toNat / 86400)) : Nat) : Int) := by omega
          have e2 : (((YR (sse S a0.toNat / 86400)) : Nat) * 12 + a2 - 1) % 12 + 1 = a2 := by omega
          have hin := day_inZ (y := (YR (sse S a0.toNat / 86400))) (m := a2.toNat) (e := zMin (DOM (sse S a0.toNat / 86400)) (dm (YR (sse S a0.toNat / 86400)) a2.toNat : Nat)) (by omega) (by omega) (by omega) (by omega) (by have := dm_b (YR (sse S a0.toNat / 86400)) a2.toNat; unfold zMin; split <;> omega) (zMin_r _ _)
          unfold oSet
          rw [if_pos (by first | (rw [s15]; decide) | omega)]
          unfold oDay
          rw [if_neg (by first | (rw [s15]; decide) | omega)]
          rw [if_pos (by first | (rw [s15]; decide) | omega)]
          rw [if_pos (by first | (rw [s15]; decide) | omega)]
          unfold oMon
          rw [e1, e2, if_pos (by omega), Int.toNat_natCast, oLoc_y (by omega)]
          exact ⟨congrArg iZ (by omega), rfl⟩
      by_cases s20 : a1 = 2
      · refine r_tableInZ (z := 2) (off := 112) (tgt := 162) hX dX4_set_50 s20 (by decide) (by decide) (by decide) rfl (by decide) (r_aload hX dX4_set_162 rfl (r_iconstZ hX dX4_set_164 (r_ialdZ hX (21 + (rest).length) 0 zRw_last rfl 0 (by decide) (by decide) (by decide) dX4_set_165 ?_)))
        rw [hf9.1]
        refine r_aload hX dX4_set_166 rfl (r_iconstZ hX dX4_set_168 (r_ialdZ hX (21 + (rest).length) 0 zRw_last rfl 1 (by decide) (by decide) (by decide) dX4_set_169 ?_))
        rw [hf9.2.1]
        refine r_iload_n hX dX4_set_170 rfl rfl (r_callS hX (z_X4_isThere _ _ _ _ _ (by first | with_reducible assumption | decide | omega) (by first | with_reducible assumption | decide | omega) (by first | with_reducible assumption | decide | omega)) ks_X4_159 rfl rfl (Nat.le_of_ble_eq_true rfl) ⟨(Nat.le_of_ble_eq_true rfl), (Nat.le_of_ble_eq_true rfl)⟩ ⟨(Nat.le_of_ble_eq_true rfl), (Nat.le_of_ble_eq_true rfl)⟩ dX4_set_171 (fun _ _ z => False.elim z) (fun v9 ws9 h21 => ?_))
        obtain ⟨rfl, hw9⟩ := h21
        subst ws9
        dsimp only [mPush]
        refine r_if_eqB (tgt := 194) hX dX4_set_174 (by decide) (fun c22 => ?_) (fun c22 => ?_)
        · have c22 := of_decide_eq_false c22
          refine r_aload_n hX dX4_set_194 rfl rfl (r_callV hX (z_X4_no ad ae cs K S 0 (rest ++ [(q8, .inl (cs.1, 4, .inl f7))])) kv_X4_80 14 rfl rfl rfl rfl (Nat.le_of_ble_eq_true rfl) ⟨(Nat.le_of_ble_eq_true rfl), (Nat.le_of_ble_eq_true rfl)⟩ ⟨(Nat.le_of_ble_eq_true rfl), (Nat.le_of_ble_eq_true rfl)⟩ dX4_set_195 (fun _ _ z => False.elim z) (fun v9 ws9 h23 => ?_))
          obtain ⟨rfl, hw9⟩ := h23
          subst ws9
          dsimp only [mPush]
          refine r_eqw (mRw_app (rest := rest)).symm (r_drop ?_)
          refine r_iret hX hE dX4_set_198 (Nat.le_of_ble_eq_true rfl) (Nat.le_of_ble_eq_true rfl) ⟨_, rfl, Or.inl ⟨by omega, ?_⟩⟩
          simp only [Int.toNat_natCast] at c22
          unfold oSet
          rw [if_pos (by first | (rw [s20]; decide) | omega)]
          unfold oDay
          rw [if_neg (by first | (rw [s20]; decide) | omega)]
          rw [if_neg (by first | (rw [s20]; decide) | omega)]
          rw [if_pos (by first | (rw [s20]; decide) | omega)]
          rw [if_neg (by first | (rw [s20]; decide) | omega)]
          exact ⟨rfl, rfl⟩
        · have c22 := of_decide_eq_true c22
          simp only [Int.toNat_natCast] at c22
          refine r_aload_n hX dX4_set_177 rfl rfl (r_iload_n hX dX4_set_178 rfl rfl (r_aload hX dX4_set_179 rfl (r_iconstZ hX dX4_set_181 (r_ialdZ hX (21 + (rest).length) 0 zRw_last rfl 0 (by decide) (by decide) (by decide) dX4_set_182 ?_))))
          rw [hf9.1]
          refine r_aload hX dX4_set_183 rfl (r_iconstZ hX dX4_set_185 (r_ialdZ hX (21 + (rest).length) 0 zRw_last rfl 1 (by decide) (by decide) (by decide) dX4_set_186 ?_))
          rw [hf9.2.1]
          refine r_iload_n hX dX4_set_187 rfl rfl (r_callV hX (z_X4_putDay ad ae cs K S 0 (rest ++ [(q8, .inl (cs.1, 4, .inl f7))]) hS _ (a0).toNat (by first | with_reducible assumption | decide | omega) (by first | with_reducible assumption | decide | omega) _ (YR (sse S ((a0).toNat) / 86400)) (by first | with_reducible assumption | decide | omega) (by first | with_reducible assumption | decide | omega) _ (MO (sse S ((a0).toNat) / 86400)) (by first | with_reducible assumption | decide | omega) (by first | with_reducible assumption | decide | omega) _ (by first | with_reducible assumption | decide | omega)) kv_X4_174 14 rfl rfl rfl rfl (Nat.le_of_ble_eq_true rfl) ⟨(Nat.le_of_ble_eq_true rfl), (Nat.le_of_ble_eq_true rfl)⟩ ⟨(Nat.le_of_ble_eq_true rfl), (Nat.le_of_ble_eq_true rfl)⟩ dX4_set_188 (fun _ _ z => False.elim z) (fun v9 ws9 h24 => ?_))
          obtain ⟨rfl, hw9⟩ := h24
          subst ws9
          dsimp only [mPush]
          refine r_goto (tgt := 198) hX dX4_set_191 (by decide) (r_eqw (mRw_app (rest := rest)).symm (r_drop ?_))
          refine r_iret hX hE dX4_set_198 (Nat.le_of_ble_eq_true rfl) (Nat.le_of_ble_eq_true rfl) ⟨_, rfl, Or.inl ⟨by omega, ?_⟩⟩
          have em : zMin a2 (dm (YR (sse S a0.toNat / 86400)) (MO (sse S a0.toNat / 86400)) : Nat) = a2 := by unfold zMin; rw [if_pos (by omega)]
          have hin := day_inZ (y := (YR (sse S a0.toNat / 86400))) (m := (MO (sse S a0.toNat / 86400))) (e := a2) (by omega) (by omega) (by omega) (by omega) (by omega) (by omega)
          unfold oSet
          rw [if_pos (by first | (rw [s20]; decide) | omega)]
          unfold oDay
          rw [if_neg (by first | (rw [s20]; decide) | omega)]
          rw [if_neg (by first | (rw [s20]; decide) | omega)]
          rw [if_pos (by first | (rw [s20]; decide) | omega)]
          rw [if_pos (by omega), oLoc_y (by omega), em]
          exact ⟨congrArg iZ (by omega), rfl⟩
      by_cases s25 : a1 = 3
      · refine r_tableInZ (z := 3) (off := 149) (tgt := 199) hX dX4_set_50 s25 (by decide) (by decide) (by decide) rfl (by decide) (r_iload_n hX dX4_set_199 rfl rfl (r_i2lZ hX dX4_set_200 (by first | with_reducible assumption | decide | omega) (r_lconstZ (v := 1) hX dX4_set_201 rfl (r_aload hX dX4_set_202 rfl (r_iconstZ hX dX4_set_204 (r_ialdZ hX (21 + (rest).length) 0 zRw_last rfl 0 (by decide) (by decide) (by decide) dX4_set_205 ?_))))))
        rw [hf9.1]
        refine r_callS hX (z_X4_daysOf_ _ _ _ (YR (sse S ((a0).toNat) / 86400)) (by first | with_reducible assumption | decide | omega) (by first | with_reducible assumption | decide | omega)) ks_X4_48 rfl rfl (Nat.le_of_ble_eq_true rfl) ⟨(Nat.le_of_ble_eq_true rfl), (Nat.le_of_ble_eq_true rfl)⟩ ⟨(Nat.le_of_ble_eq_true rfl), (Nat.le_of_ble_eq_true rfl)⟩ dX4_set_206 (fun _ _ z => False.elim z) (fun v9 ws9 h26 => ?_)
        obtain ⟨rfl, hw9⟩ := h26
        subst ws9
        dsimp only [mPush]
        have hyl26 := yl_b (YR (sse S ((a0).toNat) / 86400))
        refine r_i2lZ hX dX4_set_209 (by first | with_reducible assumption | decide | omega) (r_callS hX (z_X4_isIn _ _ _ _ _ (by first | with_reducible assumption | decide | omega) (by first | with_reducible assumption | decide | omega) (by first | with_reducible assumption | decide | omega)) ks_X4_38 rfl rfl (Nat.le_of_ble_eq_true rfl) ⟨(Nat.le_of_ble_eq_true rfl), (Nat.le_of_ble_eq_true rfl)⟩ ⟨(Nat.le_of_ble_eq_true rfl), (Nat.le_of_ble_eq_true rfl)⟩ dX4_set_210 (fun _ _ z => False.elim z) (fun v9 ws9 h27 => ?_))
        obtain ⟨rfl, hw9⟩ := h27
        subst ws9
        dsimp only [mPush]
        refine r_if_neB (tgt := 221) hX dX4_set_213 (by decide) (fun c28 => ?_) (fun c28 => ?_)
        · have c28 := of_decide_eq_true c28
          refine r_aload_n hX dX4_set_221 rfl rfl (r_get hX kf_X4_17 14 rfl rfl dX4_set_222 (r_iload_n hX dX4_set_225 rfl rfl (r_aload hX dX4_set_226 rfl (r_iconstZ hX dX4_set_228 (r_ialdZ hX (21 + (rest).length) 0 zRw_last rfl 0 (by decide) (by decide) (by decide) dX4_set_229 ?_)))))
          rw [hf9.1]
          refine r_callS hX (z_X4_firstOf _ _ _ (YR (sse S ((a0).toNat) / 86400)) (by first | with_reducible assumption | decide | omega) (by first | with_reducible assumption | decide | omega)) ks_X4_52 rfl rfl (Nat.le_of_ble_eq_true rfl) ⟨(Nat.le_of_ble_eq_true rfl), (Nat.le_of_ble_eq_true rfl)⟩ ⟨(Nat.le_of_ble_eq_true rfl), (Nat.le_of_ble_eq_true rfl)⟩ dX4_set_230 (fun _ _ z => False.elim z) (fun v9 ws9 h29 => ?_)
          obtain ⟨rfl, hw9⟩ := h29
          subst ws9
          dsimp only [mPush]
          refine r_iload_n hX dX4_set_233 rfl rfl (r_iaddZ hX dX4_set_234 (r_iconstZ hX dX4_set_235 (r_isubZ hX dX4_set_236 (r_iastZ hX 17 0 rfl rfl (a0).toNat (by first | with_reducible assumption | decide | omega) (by first | with_reducible assumption | decide | omega) (by decide) dX4_set_237 (r_eqw (ws' := mRw ad ae cs K ((mJof S 0).1, (mJof S 0).2.1, (mJof S 0).2.2.1, upd (mJof S 0).2.2.2.1 ((a0).toNat) (iZ (((FO (YR (sse S ((a0).toNat) / 86400))) + a2) - 1)), (mJof S 0).2.2.2.2) (rest ++ [(q8, .inl (cs.1, 4, .inl f7))])) rfl (r_eqw (congrArg (fun J => mRw ad ae cs K J (rest ++ [(q8, .inl (cs.1, 4, .inl f7))])) zJ_day) (r_aload_n hX dX4_set_238 rfl rfl ?_)))))))
          refine r_get hX kf_X4_17 14 rfl rfl dX4_set_239 (r_iload_n hX dX4_set_242 rfl rfl (r_ialdZ hX 17 0 rfl rfl (a0).toNat (by first | with_reducible assumption | decide | omega) (by first | with_reducible assumption | decide | omega) (by decide) dX4_set_243 (r_eqw (mRw_app (rest := rest)).symm (r_drop ?_))))
          refine r_iret hX hE dX4_set_244 (Nat.le_of_ble_eq_true rfl) (Nat.le_of_ble_eq_true rfl) ⟨_, rfl, Or.inl ⟨by omega, ?_⟩⟩
          have hfs := FO_s (y := (YR (sse S a0.toNat / 86400))) (by omega)
          have hin2 := day_in2 (y := (YR (sse S a0.toNat / 86400))) (n := a2.toNat) (by omega) (by omega) (by omega) (by omega)
          unfold oSet
          rw [if_pos (by first | (rw [s25]; decide) | omega)]
          unfold oDay
          rw [if_neg (by first | (rw [s25]; decide) | omega)]
          rw [if_neg (by first | (rw [s25]; decide) | omega)]
          rw [if_neg (by first | (rw [s25]; decide) | omega)]
          rw [if_pos (by omega), oLoc_y (by omega)]
          exact ⟨congrArg iZ (by rw [zlo_day] <;> omega), rfl⟩
        · have c28 := of_decide_eq_false c28
          refine r_aload_n hX dX4_set_216 rfl rfl (r_callV hX (z_X4_no ad ae cs K S 0 (rest ++ [(q8, .inl (cs.1, 4, .inl f7))])) kv_X4_80 14 rfl rfl rfl rfl (Nat.le_of_ble_eq_true rfl) ⟨(Nat.le_of_ble_eq_true rfl), (Nat.le_of_ble_eq_true rfl)⟩ ⟨(Nat.le_of_ble_eq_true rfl), (Nat.le_of_ble_eq_true rfl)⟩ dX4_set_217 (fun _ _ z => False.elim z) (fun v9 ws9 h30 => ?_))
          obtain ⟨rfl, hw9⟩ := h30
          subst ws9
          dsimp only [mPush]
          refine r_eqw (mRw_app (rest := rest)).symm (r_drop ?_)
          refine r_iret hX hE dX4_set_220 (Nat.le_of_ble_eq_true rfl) (Nat.le_of_ble_eq_true rfl) ⟨_, rfl, Or.inl ⟨by omega, ?_⟩⟩
          unfold oSet
          rw [if_pos (by first | (rw [s25]; decide) | omega)]
          unfold oDay
          rw [if_neg (by first | (rw [s25]; decide) | omega)]
          rw [if_neg (by first | (rw [s25]; decide) | omega)]
          rw [if_neg (by first | (rw [s25]; decide) | omega)]
          rw [if_neg (by first | (rw [s25]; decide) | omega)]
          exact ⟨rfl, rfl⟩
      by_cases s31 : a1 = 4
      · refine r_tableInZ (z := 4) (off := 195) (tgt := 245) hX dX4_set_50 s31 (by decide) (by decide) (by decide) rfl (by decide) (r_iload_n hX dX4_set_245 rfl rfl (r_i2lZ hX dX4_set_246 (by first | with_reducible assumption | decide | omega) (r_lconstZ (v := 0) hX dX4_set_247 rfl (r_ldc2Z (z := 23) hX kc_X4_191 (by decide +kernel) dX4_set_248 (r_callS hX (z_X4_isIn _ _ _ _ _ (by first | with_reducible assumption | decide | omega) (by first | with_reducible assumption | decide | omega) (by first | with_reducible assumption | decide | omega)) ks_X4_38 rfl rfl (Nat.le_of_ble_eq_true rfl) ⟨(Nat.le_of_ble_eq_true rfl), (Nat.le_of_ble_eq_true rfl)⟩ ⟨(Nat.le_of_ble_eq_true rfl), (Nat.le_of_ble_eq_true rfl)⟩ dX4_set_251 (fun _ _ z => False.elim z) (fun v9 ws9 h32 => ?_))))))
        obtain ⟨rfl, hw9⟩ := h32
        subst ws9
        dsimp only [mPush]
        refine r_if_eqB (tgt := 295) hX dX4_set_254 (by decide) (fun c33 => ?_) (fun c33 => ?_)
        · have c33 := of_decide_eq_false c33
          refine r_aload_n hX dX4_set_295 rfl rfl (r_callV hX (z_X4_no ad ae cs K S 0 (rest ++ [(q8, .inl (cs.1, 4, .inl f7))])) kv_X4_80 14 rfl rfl rfl rfl (Nat.le_of_ble_eq_true rfl) ⟨(Nat.le_of_ble_eq_true rfl), (Nat.le_of_ble_eq_true rfl)⟩ ⟨(Nat.le_of_ble_eq_true rfl), (Nat.le_of_ble_eq_true rfl)⟩ dX4_set_296 (fun _ _ z => False.elim z) (fun v9 ws9 h34 => ?_))
          obtain ⟨rfl, hw9⟩ := h34
          subst ws9
          dsimp only [mPush]
          refine r_eqw (mRw_app (rest := rest)).symm (r_drop ?_)
          refine r_iret hX hE dX4_set_299 (Nat.le_of_ble_eq_true rfl) (Nat.le_of_ble_eq_true rfl) ⟨_, rfl, Or.inl ⟨by omega, ?_⟩⟩
          unfold oSet
          rw [if_neg (by first | (rw [s31]; decide) | omega)]
          unfold oTime
          rw [if_pos (by first | (rw [s31]; decide) | omega)]
          unfold oPart
          rw [if_neg (by first | (rw [s31]; decide) | omega)]
          exact ⟨rfl, rfl⟩
        · have c33 := of_decide_eq_true c33
          refine r_aload_n hX dX4_set_257 rfl rfl (r_iload_n hX dX4_set_258 rfl rfl (r_aload_n hX dX4_set_259 rfl rfl (r_get hX kf_X4_17 14 rfl rfl dX4_set_260 (r_iload_n hX dX4_set_263 rfl rfl (r_ialdZ hX 17 0 rfl rfl (a0).toNat (by first | with_reducible assumption | decide | omega) (by first | with_reducible assumption | decide | omega) (by decide) dX4_set_264 (r_sipushZ hX dX4_set_265 (by decide +kernel) (r_iload_n hX dX4_set_268 rfl rfl ?_)))))))
          refine r_imulZ hX dX4_set_269 (r_iload hX dX4_set_270 rfl (r_sipushZ hX dX4_set_272 (by decide +kernel) (r_iremZ hX dX4_set_275 (by first | with_reducible assumption | decide | omega) (by decide) (r_iaddZ hX dX4_set_276 (r_aload_n hX dX4_set_277 rfl rfl (r_get hX kf_X4_23 14 rfl rfl dX4_set_278 (r_iload_n hX dX4_set_281 rfl rfl ?_)))))))
          refine r_ialdZ hX 19 0 rfl rfl (a0).toNat (by first | with_reducible assumption | decide | omega) (by first | with_reducible assumption | decide | omega) (by decide) dX4_set_282 (r_aload_n hX dX4_set_283 rfl rfl (r_get hX kf_X4_26 14 rfl rfl dX4_set_284 (r_iload_n hX dX4_set_287 rfl rfl (r_ialdZ hX 20 0 rfl rfl (a0).toNat (by first | with_reducible assumption | decide | omega) (by first | with_reducible assumption | decide | omega) (by decide) dX4_set_288 (r_callV hX (z_X4_put ad ae cs K S 0 (rest ++ [(q8, .inl (cs.1, 4, .inl f7))]) hS _ (a0).toNat (by first | with_reducible assumption | decide | omega) (by first | with_reducible assumption | decide | omega) _ _ _ _ (by first | with_reducible assumption | decide | omega)) kv_X4_139 14 rfl rfl rfl rfl (Nat.le_of_ble_eq_true rfl) ⟨(Nat.le_of_ble_eq_true rfl), (Nat.le_of_ble_eq_true rfl)⟩ ⟨(Nat.le_of_ble_eq_true rfl), (Nat.le_of_ble_eq_true rfl)⟩ dX4_set_289 (fun _ _ z => False.elim z) (fun v9 ws9 h35 => ?_))))))
          obtain ⟨rfl, hw9⟩ := h35
          subst ws9
          dsimp only [mPush]
          refine r_goto (tgt := 299) hX dX4_set_292 (by decide) (r_eqw (mRw_app (rest := rest)).symm (r_drop ?_))
          refine r_iret hX hE dX4_set_299 (Nat.le_of_ble_eq_true rfl) (Nat.le_of_ble_eq_true rfl) ⟨_, rfl, Or.inl ⟨by omega, ?_⟩⟩
          unfold oSet
          rw [if_neg (by first | (rw [s31]; decide) | omega)]
          unfold oTime
          rw [if_pos (by first | (rw [s31]; decide) | omega)]
          unfold oPart
          rw [if_pos (by omega), oLoc_y (by omega)]
          exact ⟨congrArg iZ (by omega), congrArg (fun z => mRw ad ae cs K (mJof (sLo S a0.toNat (z, sna S a0.toNat, sow S a0.toNat)) 0) rest) (by omega)⟩
      by_cases s36 : a1 = 5
      · refine r_tableInZ (z := 5) (off := 250) (tgt := 300) hX dX4_set_50 s36 (by decide) (by decide) (by decide) rfl (by decide) (r_iload_n hX dX4_set_300 rfl rfl (r_i2lZ hX dX4_set_301 (by first | with_reducible assumption | decide | omega) (r_lconstZ (v := 0) hX dX4_set_302 rfl (r_ldc2Z (z := 59) hX kc_X4_78 (by decide +kernel) dX4_set_303 (r_callS hX (z_X4_isIn _ _ _ _ _ (by first | with_reducible assumption | decide | omega) (by first | with_reducible assumption | decide | omega) (by first | with_reducible assumption | decide | omega)) ks_X4_38 rfl rfl (Nat.le_of_ble_eq_true rfl) ⟨(Nat.le_of_ble_eq_true rfl), (Nat.le_of_ble_eq_true rfl)⟩ ⟨(Nat.le_of_ble_eq_true rfl), (Nat.le_of_ble_eq_true rfl)⟩ dX4_set_306 (fun _ _ z => False.elim z) (fun v9 ws9 h37 => ?_))))))
        obtain ⟨rfl, hw9⟩ := h37
        subst ws9
        dsimp only [mPush]
        refine r_if_eqB (tgt := 359) hX dX4_set_309 (by decide) (fun c38 => ?_) (fun c38 => ?_)
        · have c38 := of_decide_eq_false c38
          refine r_aload_n hX dX4_set_359 rfl rfl (r_callV hX (z_X4_no ad ae cs K S 0 (rest ++ [(q8, .inl (cs.1, 4, .inl f7))])) kv_X4_80 14 rfl rfl rfl rfl (Nat.le_of_ble_eq_true rfl) ⟨(Nat.le_of_ble_eq_true rfl), (Nat.le_of_ble_eq_true rfl)⟩ ⟨(Nat.le_of_ble_eq_true rfl), (Nat.le_of_ble_eq_true rfl)⟩ dX4_set_360 (fun _ _ z => False.elim z) (fun v9 ws9 h39 => ?_))
          obtain ⟨rfl, hw9⟩ := h39
          subst ws9
          dsimp only [mPush]
          refine r_eqw (mRw_app (rest := rest)).symm (r_drop ?_)
          refine r_iret hX hE dX4_set_363 (Nat.le_of_ble_eq_true rfl) (Nat.le_of_ble_eq_true rfl) ⟨_, rfl, Or.inl ⟨by omega, ?_⟩⟩
          unfold oSet
          rw [if_neg (by first | (rw [s36]; decide) | omega)]
          unfold oTime
          rw [if_neg (by first | (rw [s36]; decide) | omega)]
          rw [if_pos (by first | (rw [s36]; decide) | omega)]
          unfold oPart
          rw [if_neg (by first | (rw [s36]; decide) | omega)]
          exact ⟨rfl, rfl⟩
        · have c38 := of_decide_eq_true c38
          refine r_aload_n hX dX4_set_312 rfl rfl (r_iload_n hX dX4_set_313 rfl rfl (r_aload_n hX dX4_set_314 rfl rfl (r_get hX kf_X4_17 14 rfl rfl dX4_set_315 (r_iload_n hX dX4_set_318 rfl rfl (r_ialdZ hX 17 0 rfl rfl (a0).toNat (by first | with_reducible assumption | decide | omega) (by first | with_reducible assumption | decide | omega) (by decide) dX4_set_319 (r_iload hX dX4_set_320 rfl (r_sipushZ hX dX4_set_322 (by decide +kernel) ?_)))))))
          refine r_idivZ hX dX4_set_325 (by first | with_reducible assumption | decide | omega) (by decide) (r_sipushZ hX dX4_set_326 (by decide +kernel) (r_imulZ hX dX4_set_329 (r_bipushZ hX dX4_set_330 (by decide +kernel) (r_iload_n hX dX4_set_332 rfl rfl (r_imulZ hX dX4_set_333 (r_iaddZ hX dX4_set_334 (r_iload hX dX4_set_335 rfl ?_)))))))
          refine r_bipushZ hX dX4_set_337 (by decide +kernel) (r_iremZ hX dX4_set_339 (by first | with_reducible assumption | decide | omega) (by decide) (r_iaddZ hX dX4_set_340 (r_aload_n hX dX4_set_341 rfl rfl (r_get hX kf_X4_23 14 rfl rfl dX4_set_342 (r_iload_n hX dX4_set_345 rfl rfl (r_ialdZ hX 19 0 rfl rfl (a0).toNat (by first | with_reducible assumption | decide | omega) (by first | with_reducible assumption | decide | omega) (by decide) dX4_set_346 (r_aload_n hX dX4_set_347 rfl rfl ?_)))))))
          refine r_get hX kf_X4_26 14 rfl rfl dX4_set_348 (r_iload_n hX dX4_set_351 rfl rfl (r_ialdZ hX 20 0 rfl rfl (a0).toNat (by first | with_reducible assumption | decide | omega) (by first | with_reducible assumption | decide | omega) (by decide) dX4_set_352 (r_callV hX (z_X4_put ad ae cs K S 0 (rest ++ [(q8, .inl (cs.1, 4, .inl f7))]) hS _ (a0).toNat (by first | with_reducible assumption | decide | omega) (by first | with_reducible assumption | decide | omega) _ _ _ _ (by first | with_reducible assumption | decide | omega)) kv_X4_139 14 rfl rfl rfl rfl (Nat.le_of_ble_eq_true rfl) ⟨(Nat.le_of_ble_eq_true rfl), (Nat.le_of_ble_eq_true rfl)⟩ ⟨(Nat.le_of_ble_eq_true rfl), (Nat.le_of_ble_eq_true rfl)⟩ dX4_set_353 (fun _ _ z => False.elim z) (fun v9 ws9 h40 => ?_))))
          obtain ⟨rfl, hw9⟩ := h40
          subst ws9
          dsimp only [mPush]
          refine r_goto (tgt := 363) hX dX4_set_356 (by decide) (r_eqw (mRw_app (rest := rest)).symm (r_drop ?_))
          refine r_iret hX hE dX4_set_363 (Nat.le_of_ble_eq_true rfl) (Nat.le_of_ble_eq_true rfl) ⟨_, rfl, Or.inl ⟨by omega, ?_⟩⟩
          unfold oSet
          rw [if_neg (by first | (rw [s36]; decide) | omega)]
          unfold oTime
          rw [if_neg (by first | (rw [s36]; decide) | omega)]
          rw [if_pos (by first | (rw [s36]; decide) | omega)]
          unfold oPart
          rw [if_pos (by omega), oLoc_y (by omega)]
          exact ⟨congrArg iZ (by omega), congrArg (fun z => mRw ad ae cs K (mJof (sLo S a0.toNat (z, sna S a0.toNat, sow S a0.toNat)) 0) rest) (by omega)⟩
      by_cases s41 : a1 = 6
      · refine r_tableInZ (z := 6) (off := 314) (tgt := 364) hX dX4_set_50 s41 (by decide) (by decide) (by decide) rfl (by decide) (r_iload_n hX dX4_set_364 rfl rfl (r_i2lZ hX dX4_set_365 (by first | with_reducible assumption | decide | omega) (r_lconstZ (v := 0) hX dX4_set_366 rfl (r_ldc2Z (z := 59) hX kc_X4_78 (by decide +kernel) dX4_set_367 (r_callS hX (z_X4_isIn _ _ _ _ _ (by first | with_reducible assumption | decide | omega) (by first | with_reducible assumption | decide | omega) (by first | with_reducible assumption | decide | omega)) ks_X4_38 rfl rfl (Nat.le_of_ble_eq_true rfl) ⟨(Nat.le_of_ble_eq_true rfl), (Nat.le_of_ble_eq_true rfl)⟩ ⟨(Nat.le_of_ble_eq_true rfl), (Nat.le_of_ble_eq_true rfl)⟩ dX4_set_370 (fun _ _ z => False.elim z) (fun v9 ws9 h42 => ?_))))))
        obtain ⟨rfl, hw9⟩ := h42
        subst ws9
        dsimp only [mPush]
        refine r_if_eqB (tgt := 412) hX dX4_set_373 (by decide) (fun c43 => ?_) (fun c43 => ?_)
        · have c43 := of_decide_eq_false c43
          refine r_aload_n hX dX4_set_412 rfl rfl (r_callV hX (z_X4_no ad ae cs K S 0 (rest ++ [(q8, .inl (cs.1, 4, .inl f7))])) kv_X4_80 14 rfl rfl rfl rfl (Nat.le_of_ble_eq_true rfl) ⟨(Nat.le_of_ble_eq_true rfl), (Nat.le_of_ble_eq_true rfl)⟩ ⟨(Nat.le_of_ble_eq_true rfl), (Nat.le_of_ble_eq_true rfl)⟩ dX4_set_413 (fun _ _ z => False.elim z) (fun v9 ws9 h44 => ?_))
          obtain ⟨rfl, hw9⟩ := h44
          subst ws9
          dsimp only [mPush]
          refine r_eqw (mRw_app (rest := rest)).symm (r_drop ?_)
          refine r_iret hX hE dX4_set_416 (Nat.le_of_ble_eq_true rfl) (Nat.le_of_ble_eq_true rfl) ⟨_, rfl, Or.inl ⟨by omega, ?_⟩⟩
          unfold oSet
          rw [if_neg (by first | (rw [s41]; decide) | omega)]
          unfold oTime
          rw [if_neg (by first | (rw [s41]; decide) | omega)]
          rw [if_neg (by first | (rw [s41]; decide) | omega)]
          rw [if_pos (by first | (rw [s41]; decide) | omega)]
          unfold oPart
          rw [if_neg (by first | (rw [s41]; decide) | omega)]
          exact ⟨rfl, rfl⟩
        · have c43 := of_decide_eq_true c43
          refine r_aload_n hX dX4_set_376 rfl rfl (r_iload_n hX dX4_set_377 rfl rfl (r_aload_n hX dX4_set_378 rfl rfl (r_get hX kf_X4_17 14 rfl rfl dX4_set_379 (r_iload_n hX dX4_set_382 rfl rfl (r_ialdZ hX 17 0 rfl rfl (a0).toNat (by first | with_reducible assumption | decide | omega) (by first | with_reducible assumption | decide | omega) (by decide) dX4_set_383 (r_iload hX dX4_set_384 rfl (r_bipushZ hX dX4_set_386 (by decide +kernel) ?_)))))))
          refine r_idivZ hX dX4_set_388 (by first | with_reducible assumption | decide | omega) (by decide) (r_bipushZ hX dX4_set_389 (by decide +kernel) (r_imulZ hX dX4_set_391 (r_iload_n hX dX4_set_392 rfl rfl (r_iaddZ hX dX4_set_393 (r_aload_n hX dX4_set_394 rfl rfl (r_get hX kf_X4_23 14 rfl rfl dX4_set_395 (r_iload_n hX dX4_set_398 rfl rfl ?_)))))))
          refine r_ialdZ hX 19 0 rfl rfl (a0).toNat (by first | with_reducible assumption | decide | omega) (by first | with_reducible assumption | decide | omega) (by decide) dX4_set_399 (r_aload_n hX dX4_set_400 rfl rfl (r_get hX kf_X4_26 14 rfl rfl dX4_set_401 (r_iload_n hX dX4_set_404 rfl rfl (r_ialdZ hX 20 0 rfl rfl (a0).toNat (by first | with_reducible assumption | decide | omega) (by first | with_reducible assumption | decide | omega) (by decide) dX4_set_405 (r_callV hX (z_X4_put ad ae cs K S 0 (rest ++ [(q8, .inl (cs.1, 4, .inl f7))]) hS _ (a0).toNat (by first | with_reducible assumption | decide | omega) (by first | with_reducible assumption | decide | omega) _ _ _ _ (by first | with_reducible assumption | decide | omega)) kv_X4_139 14 rfl rfl rfl rfl (Nat.le_of_ble_eq_true rfl) ⟨(Nat.le_of_ble_eq_true rfl), (Nat.le_of_ble_eq_true rfl)⟩ ⟨(Nat.le_of_ble_eq_true rfl), (Nat.le_of_ble_eq_true rfl)⟩ dX4_set_406 (fun _ _ z => False.elim z) (fun v9 ws9 h45 => ?_))))))
          obtain ⟨rfl, hw9⟩ := h45
          subst ws9
          dsimp only [mPush]
          refine r_goto (tgt := 416) hX dX4_set_409 (by decide) (r_eqw (mRw_app (rest := rest)).symm (r_drop ?_))
          refine r_iret hX hE dX4_set_416 (Nat.le_of_ble_eq_true rfl) (Nat.le_of_ble_eq_true rfl) ⟨_, rfl, Or.inl ⟨by omega, ?_⟩⟩
          unfold oSet
          rw [if_neg (by first | (rw [s41]; decide) | omega)]
          unfold oTime
          rw [if_neg (by first | (rw [s41]; decide) | omega)]
          rw [if_neg (by first | (rw [s41]; decide) | omega)]
          rw [if_pos (by first | (rw [s41]; decide) | omega)]
          unfold oPart
          rw [if_pos (by omega), oLoc_y (by omega)]
          exact ⟨congrArg iZ (by omega), congrArg (fun z => mRw ad ae cs K (mJof (sLo S a0.toNat (z, sna S a0.toNat, sow S a0.toNat)) 0) rest) (by omega)⟩
      refine r_tableOutZ (tgt := 417) hX dX4_set_50 (by first | with_reducible assumption | decide | omega) (by first | with_reducible assumption | decide | omega) (by decide) (r_iload_n hX dX4_set_417 rfl rfl (r_i2lZ hX dX4_set_418 (by first | with_reducible assumption | decide | omega) (r_lconstZ (v := 0) hX dX4_set_419 rfl (r_ldc2Z (z := 999999999) hX kc_X4_145 (by decide +kernel) dX4_set_420 (r_callS hX (z_X4_isIn _ _ _ _ _ (by first | with_reducible assumption | decide | omega) (by first | with_reducible assumption | decide | omega) (by first | with_reducible assumption | decide | omega)) ks_X4_38 rfl rfl (Nat.le_of_ble_eq_true rfl) ⟨(Nat.le_of_ble_eq_true rfl), (Nat.le_of_ble_eq_true rfl)⟩ ⟨(Nat.le_of_ble_eq_true rfl), (Nat.le_of_ble_eq_true rfl)⟩ dX4_set_423 (fun _ _ z => False.elim z) (fun v9 ws9 h46 => ?_))))))
      obtain ⟨rfl, hw9⟩ := h46
      subst ws9
      dsimp only [mPush]
      refine r_if_eqB (tgt := 452) hX dX4_set_426 (by decide) (fun c47 => ?_) (fun c47 => ?_)
      · have c47 := of_decide_eq_false c47
        refine r_aload_n hX dX4_set_452 rfl rfl (r_callV hX (z_X4_no ad ae cs K S 0 (rest ++ [(q8, .inl (cs.1, 4, .inl f7))])) kv_X4_80 14 rfl rfl rfl rfl (Nat.le_of_ble_eq_true rfl) ⟨(Nat.le_of_ble_eq_true rfl), (Nat.le_of_ble_eq_true rfl)⟩ ⟨(Nat.le_of_ble_eq_true rfl), (Nat.le_of_ble_eq_true rfl)⟩ dX4_set_453 (fun _ _ z => False.elim z) (fun v9 ws9 h48 => ?_))
        obtain ⟨rfl, hw9⟩ := h48
        subst ws9
        dsimp only [mPush]
        refine r_eqw (mRw_app (rest := rest)).symm (r_drop ?_)
        refine r_iret hX hE dX4_set_456 (Nat.le_of_ble_eq_true rfl) (Nat.le_of_ble_eq_true rfl) ⟨_, rfl, Or.inl ⟨by omega, ?_⟩⟩
        unfold oSet
        rw [if_neg (by omega)]
        unfold oTime
        rw [if_neg (by omega)]
        rw [if_neg (by omega)]
        rw [if_neg (by omega)]
        rw [if_neg (by omega)]
        exact ⟨rfl, rfl⟩
      · have c47 := of_decide_eq_true c47
        refine r_aload_n hX dX4_set_429 rfl rfl (r_iload_n hX dX4_set_430 rfl rfl (r_aload_n hX dX4_set_431 rfl rfl (r_get hX kf_X4_17 14 rfl rfl dX4_set_432 (r_iload_n hX dX4_set_435 rfl rfl (r_ialdZ hX 17 0 rfl rfl (a0).toNat (by first | with_reducible assumption | decide | omega) (by first | with_reducible assumption | decide | omega) (by decide) dX4_set_436 (r_iload hX dX4_set_437 rfl (r_iload_n hX dX4_set_439 rfl rfl ?_)))))))
        refine r_aload_n hX dX4_set_440 rfl rfl (r_get hX kf_X4_26 14 rfl rfl dX4_set_441 (r_iload_n hX dX4_set_444 rfl rfl (r_ialdZ hX 20 0 rfl rfl (a0).toNat (by first | with_reducible assumption | decide | omega) (by first | with_reducible assumption | decide | omega) (by decide) dX4_set_445 (r_callV hX (z_X4_put ad ae cs K S 0 (rest ++ [(q8, .inl (cs.1, 4, .inl f7))]) hS _ (a0).toNat (by first | with_reducible assumption | decide | omega) (by first | with_reducible assumption | decide | omega) _ _ _ _ (by first | with_reducible assumption | decide | omega)) kv_X4_139 14 rfl rfl rfl rfl (Nat.le_of_ble_eq_true rfl) ⟨(Nat.le_of_ble_eq_true rfl), (Nat.le_of_ble_eq_true rfl)⟩ ⟨(Nat.le_of_ble_eq_true rfl), (Nat.le_of_ble_eq_true rfl)⟩ dX4_set_446 (fun _ _ z => False.elim z) (fun v9 ws9 h49 => ?_)))))
        obtain ⟨rfl, hw9⟩ := h49
        subst ws9
        dsimp only [mPush]
        refine r_goto (tgt := 456) hX dX4_set_449 (by decide) (r_eqw (mRw_app (rest := rest)).symm (r_drop ?_))
        refine r_iret hX hE dX4_set_456 (Nat.le_of_ble_eq_true rfl) (Nat.le_of_ble_eq_true rfl) ⟨_, rfl, Or.inl ⟨by omega, ?_⟩⟩
        unfold oSet
        rw [if_neg (by omega)]
        unfold oTime
        rw [if_neg (by omega)]
        rw [if_neg (by omega)]
        rw [if_neg (by omega)]
        rw [if_pos (by omega), oLoc_y (by omega)]
        exact ⟨congrArg iZ (by omega), by rw [show (sse S ((a0).toNat) / 86400) * 86400 + (sse S ((a0).toNat) % 86400) = sse S a0.toNat by omega]⟩
    · rcases zst1 c5 with ⟨hx, e0⟩ | ⟨hx, hy, e0⟩
      · rw [e0]
        have hx := of_decide_eq_true hx
        refine r_iconstZ hX dX4_set_28 ?_
        exact r_iret hX hE dX4_set_29 (Nat.le_of_ble_eq_true rfl) (Nat.le_of_ble_eq_true rfl) ⟨_, rfl, Or.inr (Or.inl ⟨by omega, rfl⟩)⟩
      · exact absurd hy (by decide)
  · have c3 := of_decide_eq_false c3
    refine r_iconst (v := b2i true) hX dX4_set_17 (by decide) (r_goto (tgt := 22) hX dX4_set_18 (by decide) (r_callV hX (z_X4_isStopped ad ae cs K S th rest (decide (¬ (0 ≤ a0 ∧ a0 < 4))) true) kv_X4_68 14 rfl rfl rfl rfl (Nat.le_of_ble_eq_true rfl) ⟨(Nat.le_of_ble_eq_true rfl), (Nat.le_of_ble_eq_true rfl)⟩ ⟨(Nat.le_of_ble_eq_true rfl), (Nat.le_of_ble_eq_true rfl)⟩ dX4_set_22 (fun _ _ z => False.elim z) (fun v9 ws9 h50 => ?_)))
    obtain ⟨rfl, hw9⟩ := h50
    subst ws9
    dsimp only [mPush]
    refine r_if_eqB (tgt := 30) hX dX4_set_25 (by decide) (fun c51 => ?_) (fun c51 => ?_)
    · exact absurd c51 (by simp)
    · rcases zst1 c51 with ⟨hx, e0⟩ | ⟨hx, hy, e0⟩
      · rw [e0]
        have hx := of_decide_eq_true hx
        refine r_iconstZ hX dX4_set_28 ?_
        exact r_iret hX hE dX4_set_29 (Nat.le_of_ble_eq_true rfl) (Nat.le_of_ble_eq_true rfl) ⟨_, rfl, Or.inr (Or.inl ⟨by omega, rfl⟩)⟩
      · rw [e0]
        have hx := of_decide_eq_false hx
        refine r_iconstZ hX dX4_set_28 ?_
        exact r_iret hX hE dX4_set_29 (Nat.le_of_ble_eq_true rfl) (Nat.le_of_ble_eq_true rfl) ⟨_, rfl, Or.inr (Or.inr ⟨by omega, by omega, rfl⟩)⟩
end
-- 79 zrmis
section
/-! The reference, exact (rows by a program of this repository). -/
theorem c_X4_knock_x (ad ae : Nat → Nat) (cs : ClassId × ClassId × ClassId) (K : mK) (J : mJ) (rest : va_W) : mCt (mTy cs) yX4_knock cX4_knock 1 (some .int) ⟨0, 0, 0, 0⟩ [.ref (ae 0)] (mRw ad ae cs K J rest) (fun v ws' => v = some (.int (J.1.2.1 + 1)) ∧ ws' = mRw ad ae cs K ((0, J.1.2.1 + 1, J.1.2.2), J.2) rest) mNo := by
  refine mCt.of (by decide +kernel) (Nat.le_of_ble_eq_true rfl) (fun X hX hE => ?_)
  have hX : mOK X RX4 cX4_knock 1 ⟨0, 0, 0, 0⟩ [] (mTy cs) := hX
  refine r_aload_n hX dX4_knock_0 rfl rfl (r_iconst (v := 0) hX dX4_knock_1 (by decide) (r_put hX kf_X4_29 14 rfl rfl rfl rfl (Nat.le_of_ble_eq_true rfl) dX4_knock_2 (r_eqw (ws' := mRw ad ae cs K (((0 : Int32), J.1.2), J.2) rest) rfl (r_aload_n hX dX4_knock_5 rfl rfl (r_dup hX dX4_knock_6 rfl (r_get hX kf_X4_219 14 rfl rfl dX4_knock_7 (r_iconst (v := 1) hX dX4_knock_10 (by decide) ?_)))))))
  refine r_iadd hX dX4_knock_11 (r_put hX kf_X4_219 14 rfl rfl rfl rfl (Nat.le_of_ble_eq_true rfl) dX4_knock_12 (r_eqw (ws' := mRw ad ae cs K (((((0 : Int32), J.1.2), J.2).1.1, (((0 : Int32), J.1.2), J.2).1.2.1 + 1, (((0 : Int32), J.1.2), J.2).1.2.2), (((0 : Int32), J.1.2), J.2).2) rest) rfl (r_aload_n hX dX4_knock_15 rfl rfl (r_get hX kf_X4_219 14 rfl rfl dX4_knock_16 ?_))))
  exact r_iret hX hE dX4_knock_19 (Nat.le_of_ble_eq_true rfl) (Nat.le_of_ble_eq_true rfl) ⟨rfl, rfl⟩
theorem c_X4_isSound_x (ad ae : Nat → Nat) (cs : ClassId × ClassId × ClassId) (K : mK) (J : mJ) (rest : va_W) : mCt (mTy cs) yX4_isSound cX4_isSound 1 (some .boolean) ⟨0, 0, 0, 0⟩ [.ref (ae 0)] (mRw ad ae cs K J rest) (fun v ws' => v = some (.int (b2i true)) ∧ ws' = mRw ad ae cs K ((0, J.1.2), J.2) rest) mNo := by
  refine mCt.of (by decide +kernel) (Nat.le_of_ble_eq_true rfl) (fun X hX hE => ?_)
  have hX : mOK X RX4 cX4_isSound 1 ⟨0, 0, 0, 0⟩ [] (mTy cs) := hX
  refine r_aload_n hX dX4_isSound_0 rfl rfl (r_iconst (v := 0) hX dX4_isSound_1 (by decide) (r_put hX kf_X4_29 14 rfl rfl rfl rfl (Nat.le_of_ble_eq_true rfl) dX4_isSound_2 (r_eqw (ws' := mRw ad ae cs K (((0 : Int32), J.1.2), J.2) rest) rfl (r_iconst (v := 1) hX dX4_isSound_5 (by decide) ?_))))
  exact r_zret hX hE dX4_isSound_6 (mB_n (Or.inr rfl)) (Nat.le_of_ble_eq_true rfl) (Nat.le_of_ble_eq_true rfl) ⟨rfl, rfl⟩
set_option maxHeartbeats 4000000 in
set_option maxRecDepth 20000 in
theorem c_X4_millis_x (ad ae : Nat → Nat) (cs : ClassId × ClassId × ClassId) (K : mK) (J : mJ) (rest : va_W) (p0 : Int32) : mCt (mTy cs) yX4_millis cX4_millis 2 (some (.object "java/lang/String")) ⟨6, 8, 240, 280⟩ [.ref (ae 0), .int p0] (mRw ad ae cs K J rest) (fun v9 ws' => ∃ (s : Nat) (J' : mJ), J'.1.2 = J.1.2 ∧ J'.2 = J.2 ∧ v9 = some (.ref s) ∧ ws' = mRw ad ae cs K J' rest) mNo := by
  refine mCt.of (by decide +kernel) (Nat.le_of_ble_eq_true rfl) (fun X hX hE => ?_)
  replace hX : mOK X RX4 cX4_millis 2 ⟨6, 8, 240, 280⟩ [] (mTy cs) := hX
  refine r_aload_n hX dX4_millis_0 rfl rfl (r_iload_n hX dX4_millis_1 rfl rfl (r_callS hX (c_X4_isNone _ _ _) ks_X4_61 rfl rfl (Nat.le_of_ble_eq_true rfl) ⟨(Nat.le_of_ble_eq_true rfl), (Nat.le_of_ble_eq_true rfl)⟩ ⟨(Nat.le_of_ble_eq_true rfl), (Nat.le_of_ble_eq_true rfl)⟩ dX4_millis_2 (fun _ _ z => False.elim z) (fun v9 ws9 h1 => ?_)))
  obtain ⟨r3, nr3, rfl, hw9⟩ := h1
  subst ws9
  dsimp only [mPush]
  refine r_iconst (v := 0) hX dX4_millis_5 (by decide) (r_callV hX (c_X4_isStopped _ _ _ _ _ _ _ _) kv_X4_68 14 rfl rfl rfl rfl (Nat.le_of_ble_eq_true rfl) ⟨(Nat.le_of_ble_eq_true rfl), (Nat.le_of_ble_eq_true rfl)⟩ ⟨(Nat.le_of_ble_eq_true rfl), (Nat.le_of_ble_eq_true rfl)⟩ dX4_millis_6 (fun _ _ z => False.elim z) (fun v9 ws9 h4 => ?_))
  obtain ⟨r6, J7, nr6, etJ7, erJ7, eJ7, rfl, hw9⟩ := h4
  subst ws9
  dsimp only [mPush]
  refine r_if_eq (tgt := 17) hX dX4_millis_9 (by decide) (fun c8 => ?_) (fun c8 => ?_)
  rotate_left
  · refine r_ldcE hX dX4_millis_12 (fun a ha => ?_)
    refine r_goto (tgt := 47) hX dX4_millis_14 (by decide) ?_
    exact r_aret hX hE dX4_millis_47 (Or.inl ⟨_, rfl⟩) (Or.inr ⟨_, rfl⟩) (Nat.le_of_ble_eq_true rfl) (Nat.le_of_ble_eq_true rfl) ⟨a, J7, erJ7, eJ7, rfl, rfl⟩
  have hs9 := mnone0 nr6 c8
  obtain ⟨j, hj, rfl⟩ := mnone0 nr3 hs9.1
  refine r_byte hX hE (fun Y cB hX hE => ?_)
  refine r_new hX kinJ4 tyJ4_ok kl_X4_121 jn_J4 jt_J4 (show vwCl[1]? = _ from rfl) (fs := [.null, .int 0, .int 0, .int 0]) mJ4z (Nat.le_of_ble_eq_true rfl) (Nat.le_of_ble_eq_true rfl) dX4_millis_17 (fun b => ?_)
  refine r_dup hX dX4_millis_20 rfl (r_callI hX (c_sbInit cs cB b _) ji_X4_123 (as := []) rfl rfl (Nat.le_of_ble_eq_true rfl) ⟨(Nat.le_of_ble_eq_true rfl), (Nat.le_of_ble_eq_true rfl)⟩ ⟨(Nat.le_of_ble_eq_true rfl), (Nat.le_of_ble_eq_true rfl)⟩ dX4_millis_21 (fun v9 ws9 h8 => ?_))
  obtain ⟨rfl, v0, f0, hf0, hw9⟩ := h8
  subst ws9
  dsimp only [mPush]
  refine r_ldcE hX dX4_millis_24 (fun a ha => ?_)
  refine r_callVg hX ha (c_sbAppendS cs cB a b v0 0 0 16 f0 _ hf0 (by decide) (by decide)) jv_X4_124 (as := [.ref a]) 0 rfl rfl rfl rfl (Nat.le_of_ble_eq_true rfl) ⟨(Nat.le_of_ble_eq_true rfl), (Nat.le_of_ble_eq_true rfl)⟩ ⟨(Nat.le_of_ble_eq_true rfl), (Nat.le_of_ble_eq_true rfl)⟩ dX4_millis_26 (fun v9 ws9 h8 => ?_)
  obtain ⟨rfl, v1, f1, hf1, hw9⟩ := h8
  subst ws9
  dsimp only [mPush]
  refine r_aload_n hX dX4_millis_29 rfl rfl (r_get hX kf_X4_13 16 rfl rfl dX4_millis_30 (r_iload_n hX dX4_millis_33 rfl rfl (r_lald hX 18 1 rfl rfl (vp_in_nI hj (by decide)) dX4_millis_34 (r_ldc2 hX kc_X4_111 dX4_millis_35 (r_callS hX (c_X4_whole _ _ _ _ (by decide)) ks_X4_92 rfl rfl (Nat.le_of_ble_eq_true rfl) ⟨(Nat.le_of_ble_eq_true rfl), (Nat.le_of_ble_eq_true rfl)⟩ ⟨(Nat.le_of_ble_eq_true rfl), (Nat.le_of_ble_eq_true rfl)⟩ dX4_millis_38 (fun _ _ z => False.elim z) (fun v9 ws9 h8 => ?_))))))
  obtain ⟨r, rfl, hw9⟩ := h8
  subst ws9
  dsimp only [mPush]
  refine r_callV hX (c_sbAppendJ cs cB b v1 0 0 16 f1 _ r hf1 (by decide) (by decide)) jv_X4_128 0 rfl rfl (as := [.long r]) rfl rfl (Nat.le_of_ble_eq_true rfl) ⟨(Nat.le_of_ble_eq_true rfl), (Nat.le_of_ble_eq_true rfl)⟩ ⟨(Nat.le_of_ble_eq_true rfl), (Nat.le_of_ble_eq_true rfl)⟩ dX4_millis_41 (fun _ _ z => False.elim z) (fun v9 ws9 h8 => ?_)
  obtain ⟨rfl, v2, n2, m2, f2, hf2, k1, k2, hw9⟩ := h8
  subst ws9
  dsimp only [mPush]
  refine r_callV hX (c_toString cs cB b v2 0 n2 m2 f2 _ hf2 k1 k2) jv_X4_131 0 rfl rfl (as := []) rfl rfl (Nat.le_of_ble_eq_true rfl) ⟨(Nat.le_of_ble_eq_true rfl), (Nat.le_of_ble_eq_true rfl)⟩ ⟨(Nat.le_of_ble_eq_true rfl), (Nat.le_of_ble_eq_true rfl)⟩ dX4_millis_44 (fun _ _ z => False.elim z) (fun v9 ws9 h8 => ?_)
  obtain ⟨⟨s, rfl⟩, hw9⟩ := h8
  subst ws9
  dsimp only [mPush]
  exact r_aret hX hE dX4_millis_47 (Or.inl ⟨_, rfl⟩) (Or.inr ⟨_, rfl⟩) (Nat.le_of_ble_eq_true rfl) (Nat.le_of_ble_eq_true rfl) ⟨s, J7, erJ7, eJ7, rfl, rfl⟩
theorem z_X4_knock (ad ae : Nat → Nat) (cs : ClassId × ClassId × ClassId) (K : mK) (S : mS) (th : Int32) (rest : va_W) : mCt (mTy cs) yX4_knock cX4_knock 1 (some .int) ⟨0, 0, 0, 0⟩ [.ref (ae 0)] (mRw ad ae cs K (mJof S th) rest) (fun v ws' => v = some (.int (S.2.2.2.1 + 1)) ∧ ws' = mRw ad ae cs K (mJof (sKn S) 0) rest) mNo := c_X4_knock_x ad ae cs K (mJof S th) rest
theorem z_X4_isSound (ad ae : Nat → Nat) (cs : ClassId × ClassId × ClassId) (K : mK) (S : mS) (th : Int32) (rest : va_W) : mCt (mTy cs) yX4_isSound cX4_isSound 1 (some .boolean) ⟨0, 0, 0, 0⟩ [.ref (ae 0)] (mRw ad ae cs K (mJof S th) rest) (fun v ws' => v = some (.int (b2i true)) ∧ ws' = mRw ad ae cs K (mJof S 0) rest) mNo := c_X4_isSound_x ad ae cs K (mJof S th) rest
theorem z_X4_millis (ad ae : Nat → Nat) (cs : ClassId × ClassId × ClassId) (K : mK) (S : mS) (th : Int32) (rest : va_W) (p0 : Int32) : mCt (mTy cs) yX4_millis cX4_millis 2 (some (.object "java/lang/String")) ⟨6, 8, 240, 280⟩ [.ref (ae 0), .int p0] (mRw ad ae cs K (mJof S th) rest) (fun v ws' => ∃ (s : Nat) (th' : Int32), v = some (.ref s) ∧ ws' = mRw ad ae cs K (mJof S th') rest) mNo := by
  refine (c_X4_millis_x ad ae cs K (mJof S th) rest p0).to (fun v w h => ?_)
  obtain ⟨s, J', h1, h2, hv, hw⟩ := h
  have e : J' = mJof S J'.1.1 := Prod.ext (Prod.ext rfl h1) h2
  exact ⟨s, J'.1.1, hv, by rw [hw, ← e]⟩
end
-- 7a zrhouse
section
/-! The reference, exact (rows by a program of this repository). -/
set_option maxHeartbeats 4000000 in
set_option maxRecDepth 20000 in
theorem z_X4_houseTold (ad ae : Nat → Nat) (cs : ClassId × ClassId × ClassId) (K : mK) (S : mS) (th : Int32) (rest : va_W) (hS : sWF S) (w : Int) (hw : 0 ≤ w ∧ w ≤ 3)  : mCt (mTy cs) yX4_houseTold cX4_houseTold 5 (some .int) ⟨3, 0, 0, 65⟩ [.ref (ae 0), .int (iZ w)] (mRw ad ae cs K (mJof S th) rest) (fun v ws' => v = some (.int (zHo S w)) ∧ ws' = (mRw ad ae cs K (mJof S th) rest)) mNo := by
  refine mCt.of (by decide +kernel) (Nat.le_of_ble_eq_true rfl) (fun X hX hE => ?_)
  replace hX : mOK X RX4 cX4_houseTold 5 ⟨3, 0, 0, 65⟩ [] (mTy cs) := hX
  have hn0 := hS.2.1 0 (by decide)
  have hn1 := hS.2.1 1 (by decide)
  have hn2 := hS.2.1 2 (by decide)
  have hn3 := hS.2.1 3 (by decide)
  have fin : ∀ (x y : Int), x = (zFD S : Nat) → y = (zFM S : Nat) → mV X 52 [(0, some (.ref (ae 0))), (1, some (.int (iZ w))), (2, some (.int (iZ x))), (3, some (.int (iZ y)))] [] (mRw ad ae cs K (mJof S th) rest) 0 0 := by
    intro x y hx hy
    refine r_iload_n hX dX4_houseTold_52 rfl rfl (r_if_neZ (tgt := 63) hX dX4_houseTold_53 (by decide) (by first | with_reducible assumption | decide | omega) (fun c1 => ?_) (fun c1 => ?_))
    · refine r_iload_n hX dX4_houseTold_63 rfl rfl (r_iconstZ hX dX4_houseTold_64 (r_icmp_neZ (tgt := 75) hX dX4_houseTold_65 (by decide) (by first | with_reducible assumption | decide | omega) (by decide) (fun c2 => ?_) (fun c2 => ?_)))
      · refine r_iload_n hX dX4_houseTold_75 rfl rfl (r_iconstZ hX dX4_houseTold_76 (r_icmp_neZ (tgt := 84) hX dX4_houseTold_77 (by decide) (by first | with_reducible assumption | decide | omega) (by decide) (fun c3 => ?_) (fun c3 => ?_)))
        · refine r_iload_n hX dX4_houseTold_84 rfl rfl (r_iret hX hE dX4_houseTold_85 (Nat.le_of_ble_eq_true rfl) (Nat.le_of_ble_eq_true rfl) ⟨?_, rfl⟩)
          unfold zHo
          rw [if_neg (by omega)]
          rw [if_neg (by omega)]
          rw [if_neg (by omega)]
          rw [hy]
        · refine r_iload_n hX dX4_houseTold_80 rfl rfl (r_goto (tgt := 85) hX dX4_houseTold_81 (by decide) (r_iret hX hE dX4_houseTold_85 (Nat.le_of_ble_eq_true rfl) (Nat.le_of_ble_eq_true rfl) ⟨?_, rfl⟩))
          unfold zHo
          rw [if_neg (by omega)]
          rw [if_neg (by omega)]
          rw [if_pos (by omega)]
          rw [hx]
      · refine r_aload_n hX dX4_houseTold_68 rfl rfl (r_get hX kf_X4_33 14 rfl rfl dX4_houseTold_69 (r_goto (tgt := 85) hX dX4_houseTold_72 (by decide) (r_iret hX hE dX4_houseTold_85 (Nat.le_of_ble_eq_true rfl) (Nat.le_of_ble_eq_true rfl) ⟨?_, rfl⟩)))
        unfold zHo
        rw [if_neg (by omega)]
        rw [if_pos (by omega)]
        try rfl
    · refine r_aload_n hX dX4_houseTold_56 rfl rfl (r_get hX kf_X4_219 14 rfl rfl dX4_houseTold_57 (r_goto (tgt := 85) hX dX4_houseTold_60 (by decide) (r_iret hX hE dX4_houseTold_85 (Nat.le_of_ble_eq_true rfl) (Nat.le_of_ble_eq_true rfl) ⟨?_, rfl⟩)))
      unfold zHo
      rw [if_pos (by omega)]
      try rfl
  refine r_iconstZ hX dX4_houseTold_0 (r_istore_n hX dX4_houseTold_1 rfl (by decide) rfl (r_iconstZ hX dX4_houseTold_2 (r_istore_n hX dX4_houseTold_3 rfl (by decide) rfl (r_iconstZ hX dX4_houseTold_4 (r_istore hX dX4_houseTold_5 (by decide) rfl (r_iload hX dX4_houseTold_7 rfl (r_iconstZ hX dX4_houseTold_9 ?_)))))))
  refine r_icmp_geZ (tgt := 52) hX dX4_houseTold_10 (by decide) (by decide) (by decide) (fun q => absurd q (by decide)) (fun _ => ?_)
  refine r_aload_n hX dX4_houseTold_13 rfl rfl (r_iload hX dX4_houseTold_14 rfl (r_iload_n hX dX4_houseTold_16 rfl rfl (r_callV hX (z_X4_ordered ad ae cs K S th rest hS _ 1 (by first | with_reducible assumption | decide | omega) (by first | with_reducible assumption | decide | omega) _ 0 (by first | with_reducible assumption | decide | omega) (by first | with_reducible assumption | decide | omega)) kv_X4_196 14 rfl rfl rfl rfl (Nat.le_of_ble_eq_true rfl) ⟨(Nat.le_of_ble_eq_true rfl), (Nat.le_of_ble_eq_true rfl)⟩ ⟨(Nat.le_of_ble_eq_true rfl), (Nat.le_of_ble_eq_true rfl)⟩ dX4_houseTold_17 (fun _ _ z => False.elim z) (fun v9 ws9 h1 => ?_))))
  obtain ⟨rfl, hw9⟩ := h1
  subst ws9
  dsimp only [mPush]
  have hto1 := zTo_b (sse S 1) (sna S 1) (sow S 1) (sse S 0) (sna S 0) (sow S 0)
  refine r_if_geZ (tgt := 26) hX dX4_houseTold_20 (by decide) (by first | with_reducible assumption | decide | omega) (fun c2 => ?_) (fun c2 => ?_)
  · refine r_aload_n hX dX4_houseTold_26 rfl rfl (r_get hX kf_X4_13 14 rfl rfl dX4_houseTold_27 (r_iload hX dX4_houseTold_30 rfl (r_laldZ hX 16 1 rfl rfl 1 (by decide) (by decide) (by decide) dX4_houseTold_32 (r_aload_n hX dX4_houseTold_33 rfl rfl (r_get hX kf_X4_13 14 rfl rfl dX4_houseTold_34 (r_iload_n hX dX4_houseTold_37 rfl rfl (r_laldZ hX 16 1 rfl rfl 0 (by decide) (by decide) (by decide) dX4_houseTold_38 ?_)))))))
    refine r_lif_geZ (tgt := 46) hX dX4_houseTold_39 dX4_houseTold_40 (by decide) (by first | with_reducible assumption | decide | omega) (by first | with_reducible assumption | decide | omega) (fun c3 => ?_) (fun c3 => ?_)
    · refine r_iincZ (z := 1) (y := 2) hX dX4_houseTold_46 rfl (by decide) rfl rfl (r_goto (tgt := 7) hX dX4_houseTold_49 (by decide) (r_iload hX dX4_houseTold_7 rfl (r_iconstZ hX dX4_houseTold_9 (r_icmp_geZ (tgt := 52) hX dX4_houseTold_10 (by decide) (by decide) (by decide) (fun q => absurd q (by decide)) (fun _ => ?_)))))
      refine r_aload_n hX dX4_houseTold_13 rfl rfl (r_iload hX dX4_houseTold_14 rfl (r_iload_n hX dX4_houseTold_16 rfl rfl (r_callV hX (z_X4_ordered ad ae cs K S th rest hS _ 2 (by first | with_reducible assumption | decide | omega) (by first | with_reducible assumption | decide | omega) _ 0 (by first | with_reducible assumption | decide | omega) (by first | with_reducible assumption | decide | omega)) kv_X4_196 14 rfl rfl rfl rfl (Nat.le_of_ble_eq_true rfl) ⟨(Nat.le_of_ble_eq_true rfl), (Nat.le_of_ble_eq_true rfl)⟩ ⟨(Nat.le_of_ble_eq_true rfl), (Nat.le_of_ble_eq_true rfl)⟩ dX4_houseTold_17 (fun _ _ z => False.elim z) (fun v9 ws9 h4 => ?_))))
      obtain ⟨rfl, hw9⟩ := h4
      subst ws9
      dsimp only [mPush]
      have hto4 := zTo_b (sse S 2) (sna S 2) (sow S 2) (sse S 0) (sna S 0) (sow S 0)
      refine r_if_geZ (tgt := 26) hX dX4_houseTold_20 (by decide) (by first | with_reducible assumption | decide | omega) (fun c5 => ?_) (fun c5 => ?_)
      · refine r_aload_n hX dX4_houseTold_26 rfl rfl (r_get hX kf_X4_13 14 rfl rfl dX4_houseTold_27 (r_iload hX dX4_houseTold_30 rfl (r_laldZ hX 16 1 rfl rfl 2 (by decide) (by decide) (by decide) dX4_houseTold_32 (r_aload_n hX dX4_houseTold_33 rfl rfl (r_get hX kf_X4_13 14 rfl rfl dX4_houseTold_34 (r_iload_n hX dX4_houseTold_37 rfl rfl (r_laldZ hX 16 1 rfl rfl 0 (by decide) (by decide) (by decide) dX4_houseTold_38 ?_)))))))
        refine r_lif_geZ (tgt := 46) hX dX4_houseTold_39 dX4_houseTold_40 (by decide) (by first | with_reducible assumption | decide | omega) (by first | with_reducible assumption | decide | omega) (fun c6 => ?_) (fun c6 => ?_)
        · refine r_iincZ (z := 1) (y := 3) hX dX4_houseTold_46 rfl (by decide) rfl rfl (r_goto (tgt := 7) hX dX4_houseTold_49 (by decide) (r_iload hX dX4_houseTold_7 rfl (r_iconstZ hX dX4_houseTold_9 (r_icmp_geZ (tgt := 52) hX dX4_houseTold_10 (by decide) (by decide) (by decide) (fun q => absurd q (by decide)) (fun _ => ?_)))))
          refine r_aload_n hX dX4_houseTold_13 rfl rfl (r_iload hX dX4_houseTold_14 rfl (r_iload_n hX dX4_houseTold_16 rfl rfl (r_callV hX (z_X4_ordered ad ae cs K S th rest hS _ 3 (by first | with_reducible assumption | decide | omega) (by first | with_reducible assumption | decide | omega) _ 0 (by first | with_reducible assumption | decide | omega) (by first | with_reducible assumption | decide | omega)) kv_X4_196 14 rfl rfl rfl rfl (Nat.le_of_ble_eq_true rfl) ⟨(Nat.le_of_ble_eq_true rfl), (Nat.le_of_ble_eq_true rfl)⟩ ⟨(Nat.le_of_ble_eq_true rfl), (Nat.le_of_ble_eq_true rfl)⟩ dX4_houseTold_17 (fun _ _ z => False.elim z) (fun v9 ws9 h7 => ?_))))
          obtain ⟨rfl, hw9⟩ := h7
          subst ws9
          dsimp only [mPush]
          have hto7 := zTo_b (sse S 3) (sna S 3) (sow S 3) (sse S 0) (sna S 0) (sow S 0)
          refine r_if_geZ (tgt := 26) hX dX4_houseTold_20 (by decide) (by first | with_reducible assumption | decide | omega) (fun c8 => ?_) (fun c8 => ?_)
          · refine r_aload_n hX dX4_houseTold_26 rfl rfl (r_get hX kf_X4_13 14 rfl rfl dX4_houseTold_27 (r_iload hX dX4_houseTold_30 rfl (r_laldZ hX 16 1 rfl rfl 3 (by decide) (by decide) (by decide) dX4_houseTold_32 (r_aload_n hX dX4_houseTold_33 rfl rfl (r_get hX kf_X4_13 14 rfl rfl dX4_houseTold_34 (r_iload_n hX dX4_houseTold_37 rfl rfl (r_laldZ hX 16 1 rfl rfl 0 (by decide) (by decide) (by decide) dX4_houseTold_38 ?_)))))))
            refine r_lif_geZ (tgt := 46) hX dX4_houseTold_39 dX4_houseTold_40 (by decide) (by first | with_reducible assumption | decide | omega) (by first | with_reducible assumption | decide | omega) (fun c9 => ?_) (fun c9 => ?_)
            · refine r_iincZ (z := 1) (y := 4) hX dX4_houseTold_46 rfl (by decide) rfl rfl (r_goto (tgt := 7) hX dX4_houseTold_49 (by decide) (r_iload hX dX4_houseTold_7 rfl (r_iconstZ hX dX4_houseTold_9 (r_icmp_geZ (tgt := 52) hX dX4_houseTold_10 (by decide) (by decide) (by decide) (fun _ => ?_) (fun q => absurd (by decide) q)))))
              have ed : zFD S = 0 := zFst_1 (x := false) (a := 0) (y := false) (b := 0) (z := false) (decide_eq_false (by omega)) rfl (decide_eq_false (by omega)) rfl (decide_eq_false (by omega)) rfl
              have em : zFM S = 0 := zFst_1 (x := false) (a := 0) (y := false) (b := 0) (z := false) (decide_eq_false (by omega)) rfl (decide_eq_false (by omega)) rfl (decide_eq_false (by omega)) rfl
              exact r_loc (lv' := [(0, some (.ref (ae 0))), (1, some (.int (iZ w))), (2, some (.int (iZ 0))), (3, some (.int (iZ 0)))]) (by exact ⟨rfl, rfl, rfl, rfl, trivial⟩) (Nat.le_refl _) (Nat.le_refl _) (fin 0 0 (by rw [ed]; rfl) (by rw [em]; rfl))
            · refine r_iload hX dX4_houseTold_43 rfl (r_istore_n hX dX4_houseTold_45 rfl (by decide) rfl (r_iincZ (z := 1) (y := 4) hX dX4_houseTold_46 rfl (by decide) rfl rfl (r_goto (tgt := 7) hX dX4_houseTold_49 (by decide) (r_iload hX dX4_houseTold_7 rfl (r_iconstZ hX dX4_houseTold_9 (r_icmp_geZ (tgt := 52) hX dX4_houseTold_10 (by decide) (by decide) (by decide) (fun _ => ?_) (fun q => absurd (by decide) q)))))))
              have ed : zFD S = 0 := zFst_1 (x := false) (a := 0) (y := false) (b := 0) (z := false) (decide_eq_false (by omega)) rfl (decide_eq_false (by omega)) rfl (decide_eq_false (by omega)) rfl
              have em : zFM S = 3 := zFst_1 (x := false) (a := 0) (y := false) (b := 0) (z := true) (decide_eq_false (by omega)) rfl (decide_eq_false (by omega)) rfl (decide_eq_true (by omega)) rfl
              exact r_loc (lv' := [(0, some (.ref (ae 0))), (1, some (.int (iZ w))), (2, some (.int (iZ 0))), (3, some (.int (iZ 3)))]) (by exact ⟨rfl, rfl, rfl, rfl, trivial⟩) (Nat.le_refl _) (Nat.le_refl _) (fin 0 3 (by rw [ed]; rfl) (by rw [em]; rfl))
          · refine r_iload hX dX4_houseTold_23 rfl (r_istore_n hX dX4_houseTold_25 rfl (by decide) rfl (r_aload_n hX dX4_houseTold_26 rfl rfl (r_get hX kf_X4_13 14 rfl rfl dX4_houseTold_27 (r_iload hX dX4_houseTold_30 rfl (r_laldZ hX 16 1 rfl rfl 3 (by decide) (by decide) (by decide) dX4_houseTold_32 (r_aload_n hX dX4_houseTold_33 rfl rfl (r_get hX kf_X4_13 14 rfl rfl dX4_houseTold_34 ?_)))))))
            refine r_iload_n hX dX4_houseTold_37 rfl rfl (r_laldZ hX 16 1 rfl rfl 0 (by decide) (by decide) (by decide) dX4_houseTold_38 (r_lif_geZ (tgt := 46) hX dX4_houseTold_39 dX4_houseTold_40 (by decide) (by first | with_reducible assumption | decide | omega) (by first | with_reducible assumption | decide | omega) (fun c10 => ?_) (fun c10 => ?_)))
            · refine r_iincZ (z := 1) (y := 4) hX dX4_houseTold_46 rfl (by decide) rfl rfl (r_goto (tgt := 7) hX dX4_houseTold_49 (by decide) (r_iload hX dX4_houseTold_7 rfl (r_iconstZ hX dX4_houseTold_9 (r_icmp_geZ (tgt := 52) hX dX4_houseTold_10 (by decide) (by decide) (by decide) (fun _ => ?_) (fun q => absurd (by decide) q)))))
              have ed : zFD S = 3 := zFst_1 (x := false) (a := 0) (y := false) (b := 0) (z := true) (decide_eq_false (by omega)) rfl (decide_eq_false (by omega)) rfl (decide_eq_true (by omega)) rfl
              have em : zFM S = 0 := zFst_1 (x := false) (a := 0) (y := false) (b := 0) (z := false) (decide_eq_false (by omega)) rfl (decide_eq_false (by omega)) rfl (decide_eq_false (by omega)) rfl
              exact r_loc (lv' := [(0, some (.ref (ae 0))), (1, some (.int (iZ w))), (2, some (.int (iZ 3))), (3, some (.int (iZ 0)))]) (by exact ⟨rfl, rfl, rfl, rfl, trivial⟩) (Nat.le_refl _) (Nat.le_refl _) (fin 3 0 (by rw [ed]; rfl) (by rw [em]; rfl))
            · refine r_iload hX dX4_houseTold_43 rfl (r_istore_n hX dX4_houseTold_45 rfl (by decide) rfl (r_iincZ (z := 1) (y := 4) hX dX4_houseTold_46 rfl (by decide) rfl rfl (r_goto (tgt := 7) hX dX4_houseTold_49 (by decide) (r_iload hX dX4_houseTold_7 rfl (r_iconstZ hX dX4_houseTold_9 (r_icmp_geZ (tgt := 52) hX dX4_houseTold_10 (by decide) (by decide) (by decide) (fun _ => ?_) (fun q => absurd (by decide) q)))))))
              have ed : zFD S = 3 := zFst_1 (x := false) (a := 0) (y := false) (b := 0) (z := true) (decide_eq_false (by omega)) rfl (decide_eq_false (by omega)) rfl (decide_eq_true (by omega)) rfl
              have em : zFM S = 3 := zFst_1 (x := false) (a := 0) (y := false) (b := 0) (z := true) (decide_eq_false (by omega)) rfl (decide_eq_false (by omega)) rfl (decide_eq_true (by omega)) rfl
              exact r_loc (lv' := [(0, some (.ref (ae 0))), (1, some (.int (iZ w))), (2, some (.int (iZ 3))), (3, some (.int (iZ 3)))]) (by exact ⟨rfl, rfl, rfl, rfl, trivial⟩) (Nat.le_refl _) (Nat.le_refl _) (fin 3 3 (by rw [ed]; rfl) (by rw [em]; rfl))
        · refine r_iload hX dX4_houseTold_43 rfl (r_istore_n hX dX4_houseTold_45 rfl (by decide) rfl (r_iincZ (z := 1) (y := 3) hX dX4_houseTold_46 rfl (by decide) rfl rfl (r_goto (tgt := 7) hX dX4_houseTold_49 (by decide) (r_iload hX dX4_houseTold_7 rfl (r_iconstZ hX dX4_houseTold_9 (r_icmp_geZ (tgt := 52) hX dX4_houseTold_10 (by decide) (by decide) (by decide) (fun q => absurd q (by decide)) (fun _ => ?_)))))))
          refine r_aload_n hX dX4_houseTold_13 rfl rfl (r_iload hX dX4_houseTold_14 rfl (r_iload_n hX dX4_houseTold_16 rfl rfl (r_callV hX (z_X4_ordered ad ae cs K S th rest hS _ 3 (by first | with_reducible assumption | decide | omega) (by first | with_reducible assumption | decide | omega) _ 0 (by first | with_reducible assumption | decide | omega) (by first | with_reducible assumption | decide | omega)) kv_X4_196 14 rfl rfl rfl rfl (Nat.le_of_ble_eq_true rfl) ⟨(Nat.le_of_ble_eq_true rfl), (Nat.le_of_ble_eq_true rfl)⟩ ⟨(Nat.le_of_ble_eq_true rfl), (Nat.le_of_ble_eq_true rfl)⟩ dX4_houseTold_17 (fun _ _ z => False.elim z) (fun v9 ws9 h11 => ?_))))
          obtain ⟨rfl, hw9⟩ := h11
          subst ws9
          dsimp only [mPush]
          have hto11 := zTo_b (sse S 3) (sna S 3) (sow S 3) (sse S 0) (sna S 0) (sow S 0)
          refine r_if_geZ (tgt := 26) hX dX4_houseTold_20 (by decide) (by first | with_reducible assumption | decide | omega) (fun c12 => ?_) (fun c12 => ?_)
          · refine r_aload_n hX dX4_houseTold_26 rfl rfl (r_get hX kf_X4_13 14 rfl rfl dX4_houseTold_27 (r_iload hX dX4_houseTold_30 rfl (r_laldZ hX 16 1 rfl rfl 3 (by decide) (by decide) (by decide) dX4_houseTold_32 (r_aload_n hX dX4_houseTold_33 rfl rfl (r_get hX kf_X4_13 14 rfl rfl dX4_houseTold_34 (r_iload_n hX dX4_houseTold_37 rfl rfl (r_laldZ hX 16 1 rfl rfl 2 (by decide) (by decide) (by decide) dX4_houseTold_38 ?_)))))))
            refine r_lif_geZ (tgt := 46) hX dX4_houseTold_39 dX4_houseTold_40 (by decide) (by first | with_reducible assumption | decide | omega) (by first | with_reducible assumption | decide | omega) (fun c13 => ?_) (fun c13 => ?_)
            · refine r_iincZ (z := 1) (y := 4) hX dX4_houseTold_46 rfl (by decide) rfl rfl (r_goto (tgt := 7) hX dX4_houseTold_49 (by decide) (r_iload hX dX4_houseTold_7 rfl (r_iconstZ hX dX4_houseTold_9 (r_icmp_geZ (tgt := 52) hX dX4_houseTold_10 (by decide) (by decide) (by decide) (fun _ => ?_) (fun q => absurd (by decide) q)))))
              have ed : zFD S = 0 := zFst_1 (x := false) (a := 0) (y := false) (b := 0) (z := false) (decide_eq_false (by omega)) rfl (decide_eq_false (by omega)) rfl (decide_eq_false (by omega)) rfl
              have em : zFM S = 2 := zFst_1 (x := false) (a := 0) (y := true) (b := 2) (z := false) (decide_eq_false (by omega)) rfl (decide_eq_true (by omega)) rfl (decide_eq_false (by omega)) rfl
              exact r_loc (lv' := [(0, some (.ref (ae 0))), (1, some (.int (iZ w))), (2, some (.int (iZ 0))), (3, some (.int (iZ 2)))]) (by exact ⟨rfl, rfl, rfl, rfl, trivial⟩) (Nat.le_refl _) (Nat.le_refl _) (fin 0 2 (by rw [ed]; rfl) (by rw [em]; rfl))
            · refine r_iload hX dX4_houseTold_43 rfl (r_istore_n hX dX4_houseTold_45 rfl (by decide) rfl (r_iincZ (z := 1) (y := 4) hX dX4_houseTold_46 rfl (by decide) rfl rfl (r_goto (tgt := 7) hX dX4_houseTold_49 (by decide) (r_iload hX dX4_houseTold_7 rfl (r_iconstZ hX dX4_houseTold_9 (r_icmp_geZ (tgt := 52) hX dX4_houseTold_10 (by decide) (by decide) (by decide) (fun _ => ?_) (fun q => absurd (by decide) q)))))))
              have ed : zFD S = 0 := zFst_1 (x := false) (a := 0) (y := false) (b := 0) (z := false) (decide_eq_false (by omega)) rfl (decide_eq_false (by omega)) rfl (decide_eq_false (by omega)) rfl
              have em : zFM S = 3 := zFst_1 (x := false) (a := 0) (y := true) (b := 2) (z := true) (decide_eq_false (by omega)) rfl (decide_eq_true (by omega)) rfl (decide_eq_true (by omega)) rfl
              exact r_loc (lv' := [(0, some (.ref (ae 0))), (1, some (.int (iZ w))), (2, some (.int (iZ 0))), (3, some (.int (iZ 3)))]) (by exact ⟨rfl, rfl, rfl, rfl, trivial⟩) (Nat.le_refl _) (Nat.le_refl _) (fin 0 3 (by rw [ed]; rfl) (by rw [em]; rfl))
          · refine r_iload hX dX4_houseTold_23 rfl (r_istore_n hX dX4_houseTold_25 rfl (by decide) rfl (r_aload_n hX dX4_houseTold_26 rfl rfl (r_get hX kf_X4_13 14 rfl rfl dX4_houseTold_27 (r_iload hX dX4_houseTold_30 rfl (r_laldZ hX 16 1 rfl rfl 3 (by decide) (by decide) (by decide) dX4_houseTold_32 (r_aload_n hX dX4_houseTold_33 rfl rfl (r_get hX kf_X4_13 14 rfl rfl dX4_houseTold_34 ?_)))))))
            refine r_iload_n hX dX4_houseTold_37 rfl rfl (r_laldZ hX 16 1 rfl rfl 2 (by decide) (by decide) (by decide) dX4_houseTold_38 (r_lif_geZ (tgt := 46) hX dX4_houseTold_39 dX4_houseTold_40 (by decide) (by first | with_reducible assumption | decide | omega) (by first | with_reducible assumption | decide | omega) (fun c14 => ?_) (fun c14 => ?_)))
            · refine r_iincZ (z := 1) (y := 4) hX dX4_houseTold_46 rfl (by decide) rfl rfl (r_goto (tgt := 7) hX dX4_houseTold_49 (by decide) (r_iload hX dX4_houseTold_7 rfl (r_iconstZ hX dX4_houseTold_9 (r_icmp_geZ (tgt := 52) hX dX4_houseTold_10 (by decide) (by decide) (by decide) (fun _ => ?_) (fun q => absurd (by decide) q)))))
              have ed : zFD S = 3 := zFst_1 (x := false) (a := 0) (y := false) (b := 0) (z := true) (decide_eq_false (by omega)) rfl (decide_eq_false (by omega)) rfl (decide_eq_true (by omega)) rfl
              have em : zFM S = 2 := zFst_1 (x := false) (a := 0) (y := true) (b := 2) (z := false) (decide_eq_false (by omega)) rfl (decide_eq_true (by omega)) rfl (decide_eq_false (by omega)) rfl
              exact r_loc (lv' := [(0, some (.ref (ae 0))), (1, some (.int (iZ w))), (2, some (.int (iZ 3))), (3, some (.int (iZ 2)))]) (by exact ⟨rfl, rfl, rfl, rfl, trivial⟩) (Nat.le_refl _) (Nat.le_refl _) (fin 3 2 (by rw [ed]; rfl) (by rw [em]; rfl))
            · refine r_iload hX dX4_houseTold_43 rfl (r_istore_n hX dX4_houseTold_45 rfl (by decide) rfl (r_iincZ (z := 1) (y := 4) hX dX4_houseTold_46 rfl (by decide) rfl rfl (r_goto (tgt := 7) hX dX4_houseTold_49 (by decide) (r_iload hX dX4_houseTold_7 rfl (r_iconstZ hX dX4_houseTold_9 (r_icmp_geZ (tgt := 52) hX dX4_houseTold_10 (by decide) (by decide) (by decide) (fun _ => ?_) (fun q => absurd (by decide) q)))))))
              have ed : zFD S = 3 := zFst_1 (x := false) (a := 0) (y := false) (b := 0) (z := true) (decide_eq_false (by omega)) rfl (decide_eq_false (by omega)) rfl (decide_eq_true (by omega)) rfl
              have em : zFM S = 3 := zFst_1 (x := false) (a := 0) (y := true) (b := 2) (z := true) (decide_eq_false (by omega)) rfl (decide_eq_true (by omega)) rfl (decide_eq_true (by omega)) rfl
              exact r_loc (lv' := [(0, some (.ref (ae 0))), (1, some (.int (iZ w))), (2, some (.int (iZ 3))), (3, some (.int (iZ 3)))]) (by exact ⟨rfl, rfl, rfl, rfl, trivial⟩) (Nat.le_refl _) (Nat.le_refl _) (fin 3 3 (by rw [ed]; rfl) (by rw [em]; rfl))
      · refine r_iload hX dX4_houseTold_23 rfl (r_istore_n hX dX4_houseTold_25 rfl (by decide) rfl (r_aload_n hX dX4_houseTold_26 rfl rfl (r_get hX kf_X4_13 14 rfl rfl dX4_houseTold_27 (r_iload hX dX4_houseTold_30 rfl (r_laldZ hX 16 1 rfl rfl 2 (by decide) (by decide) (by decide) dX4_houseTold_32 (r_aload_n hX dX4_houseTold_33 rfl rfl (r_get hX kf_X4_13 14 rfl rfl dX4_houseTold_34 ?_)))))))
        refine r_iload_n hX dX4_houseTold_37 rfl rfl (r_laldZ hX 16 1 rfl rfl 0 (by decide) (by decide) (by decide) dX4_houseTold_38 (r_lif_geZ (tgt := 46) hX dX4_houseTold_39 dX4_houseTold_40 (by decide) (by first | with_reducible assumption | decide | omega) (by first | with_reducible assumption | decide | omega) (fun c15 => ?_) (fun c15 => ?_)))
        · refine r_iincZ (z := 1) (y := 3) hX dX4_houseTold_46 rfl (by decide) rfl rfl (r_goto (tgt := 7) hX dX4_houseTold_49 (by decide) (r_iload hX dX4_houseTold_7 rfl (r_iconstZ hX dX4_houseTold_9 (r_icmp_geZ (tgt := 52) hX dX4_houseTold_10 (by decide) (by decide) (by decide) (fun q => absurd q (by decide)) (fun _ => ?_)))))
          refine r_aload_n hX dX4_houseTold_13 rfl rfl (r_iload hX dX4_houseTold_14 rfl (r_iload_n hX dX4_houseTold_16 rfl rfl (r_callV hX (z_X4_ordered ad ae cs K S th rest hS _ 3 (by first | with_reducible assumption | decide | omega) (by first | with_reducible assumption | decide | omega) _ 2 (by first | with_reducible assumption | decide | omega) (by first | with_reducible assumption | decide | omega)) kv_X4_196 14 rfl rfl rfl rfl (Nat.le_of_ble_eq_true rfl) ⟨(Nat.le_of_ble_eq_true rfl), (Nat.le_of_ble_eq_true rfl)⟩ ⟨(Nat.le_of_ble_eq_true rfl), (Nat.le_of_ble_eq_true rfl)⟩ dX4_houseTold_17 (fun _ _ z => False.elim z) (fun v9 ws9 h16 => ?_))))
          obtain ⟨rfl, hw9⟩ := h16
          subst ws9
          dsimp only [mPush]
          have hto16 := zTo_b (sse S 3) (sna S 3) (sow S 3) (sse S 2) (sna S 2) (sow S 2)
          refine r_if_geZ (tgt := 26) hX dX4_houseTold_20 (by decide) (by first | with_reducible assumption | decide | omega) (fun c17 => ?_) (fun c17 => ?_)
          · refine r_aload_n hX dX4_houseTold_26 rfl rfl (r_get hX kf_X4_13 14 rfl rfl dX4_houseTold_27 (r_iload hX dX4_houseTold_30 rfl (r_laldZ hX 16 1 rfl rfl 3 (by decide) (by decide) (by decide) dX4_houseTold_32 (r_aload_n hX dX4_houseTold_33 rfl rfl (r_get hX kf_X4_13 14 rfl rfl dX4_houseTold_34 (r_iload_n hX dX4_houseTold_37 rfl rfl (r_laldZ hX 16 1 rfl rfl 0 (by decide) (by decide) (by decide) dX4_houseTold_38 ?_)))))))
            refine r_lif_geZ (tgt := 46) hX dX4_houseTold_39 dX4_houseTold_40 (by decide) (by first | with_reducible assumption | decide | omega) (by first | with_reducible assumption | decide | omega) (fun c18 => ?_) (fun c18 => ?_)
            · refine r_iincZ (z := 1) (y := 4) hX dX4_houseTold_46 rfl (by decide) rfl rfl (r_goto (tgt := 7) hX dX4_houseTold_49 (by decide) (r_iload hX dX4_houseTold_7 rfl (r_iconstZ hX dX4_houseTold_9 (r_icmp_geZ (tgt := 52) hX dX4_houseTold_10 (by decide) (by decide) (by decide) (fun _ => ?_) (fun q => absurd (by decide) q)))))
              have ed : zFD S = 2 := zFst_1 (x := false) (a := 0) (y := true) (b := 2) (z := false) (decide_eq_false (by omega)) rfl (decide_eq_true (by omega)) rfl (decide_eq_false (by omega)) rfl
              have em : zFM S = 0 := zFst_1 (x := false) (a := 0) (y := false) (b := 0) (z := false) (decide_eq_false (by omega)) rfl (decide_eq_false (by omega)) rfl (decide_eq_false (by omega)) rfl
              exact r_loc (lv' := [(0, some (.ref (ae 0))), (1, some (.int (iZ w))), (2, some (.int (iZ 2))), (3, some (.int (iZ 0)))]) (by exact ⟨rfl, rfl, rfl, rfl, trivial⟩) (Nat.le_refl _) (Nat.le_refl _) (fin 2 0 (by rw [ed]; rfl) (by rw [em]; rfl))
            · refine r_iload hX dX4_houseTold_43 rfl (r_istore_n hX dX4_houseTold_45 rfl (by decide) rfl (r_iincZ (z := 1) (y := 4) hX dX4_houseTold_46 rfl (by decide) rfl rfl (r_goto (tgt := 7) hX dX4_houseTold_49 (by decide) (r_iload hX dX4_houseTold_7 rfl (r_iconstZ hX dX4_houseTold_9 (r_icmp_geZ (tgt := 52) hX dX4_houseTold_10 (by decide) (by decide) (by decide) (fun _ => ?_) (fun q => absurd (by decide) q)))))))
              have ed : zFD S = 2 := zFst_1 (x := false) (a := 0) (y := true) (b := 2) (z := false) (decide_eq_false (by omega)) rfl (decide_eq_true (by omega)) rfl (decide_eq_false (by omega)) rfl
              have em : zFM S = 3 := zFst_1 (x := false) (a := 0) (y := false) (b := 0) (z := true) (decide_eq_false (by omega)) rfl (decide_eq_false (by omega)) rfl (decide_eq_true (by omega)) rfl
              exact r_loc (lv' := [(0, some (.ref (ae 0))), (1, some (.int (iZ w))), (2, some (.int (iZ 2))), (3, some (.int (iZ 3)))]) (by exact ⟨rfl, rfl, rfl, rfl, trivial⟩) (Nat.le_refl _) (Nat.le_refl _) (fin 2 3 (by rw [ed]; rfl) (by rw [em]; rfl))
          · refine r_iload hX dX4_houseTold_23 rfl (r_istore_n hX dX4_houseTold_25 rfl (by decide) rfl (r_aload_n hX dX4_houseTold_26 rfl rfl (r_get hX kf_X4_13 14 rfl rfl dX4_houseTold_27 (r_iload hX dX4_houseTold_30 rfl (r_laldZ hX 16 1 rfl rfl 3 (by decide) (by decide) (by decide) dX4_houseTold_32 (r_aload_n hX dX4_houseTold_33 rfl rfl (r_get hX kf_X4_13 14 rfl rfl dX4_houseTold_34 ?_)))))))
            refine r_iload_n hX dX4_houseTold_37 rfl rfl (r_laldZ hX 16 1 rfl rfl 0 (by decide) (by decide) (by decide) dX4_houseTold_38 (r_lif_geZ (tgt := 46) hX dX4_houseTold_39 dX4_houseTold_40 (by decide) (by first | with_reducible assumption | decide | omega) (by first | with_reducible assumption | decide | omega) (fun c19 => ?_) (fun c19 => ?_)))
            · refine r_iincZ (z := 1) (y := 4) hX dX4_houseTold_46 rfl (by decide) rfl rfl (r_goto (tgt := 7) hX dX4_houseTold_49 (by decide) (r_iload hX dX4_houseTold_7 rfl (r_iconstZ hX dX4_houseTold_9 (r_icmp_geZ (tgt := 52) hX dX4_houseTold_10 (by decide) (by decide) (by decide) (fun _ => ?_) (fun q => absurd (by decide) q)))))
              have ed : zFD S = 3 := zFst_1 (x := false) (a := 0) (y := true) (b := 2) (z := true) (decide_eq_false (by omega)) rfl (decide_eq_true (by omega)) rfl (decide_eq_true (by omega)) rfl
              have em : zFM S = 0 := zFst_1 (x := false) (a := 0) (y := false) (b := 0) (z := false) (decide_eq_false (by omega)) rfl (decide_eq_false (by omega)) rfl (decide_eq_false (by omega)) rfl
              exact r_loc (lv' := [(0, some (.ref (ae 0))), (1, some (.int (iZ w))), (2, some (.int (iZ 3))), (3, some (.int (iZ 0)))]) (by exact ⟨rfl, rfl, rfl, rfl, trivial⟩) (Nat.le_refl _) (Nat.le_refl _) (fin 3 0 (by rw [ed]; rfl) (by rw [em]; rfl))
            · refine r_iload hX dX4_houseTold_43 rfl (r_istore_n hX dX4_houseTold_45 rfl (by decide) rfl (r_iincZ (z := 1) (y := 4) hX dX4_houseTold_46 rfl (by decide) rfl rfl (r_goto (tgt := 7) hX dX4_houseTold_49 (by decide) (r_iload hX dX4_houseTold_7 rfl (r_iconstZ hX dX4_houseTold_9 (r_icmp_geZ (tgt := 52) hX dX4_houseTold_10 (by decide) (by decide) (by decide) (fun _ => ?_) (fun q => absurd (by decide) q)))))))
              have ed : zFD S = 3 := zFst_1 (x := false) (a := 0) (y := true) (b := 2) (z := true) (decide_eq_false (by omega)) rfl (decide_eq_true (by omega)) rfl (decide_eq_true (by omega)) rfl
              have em : zFM S = 3 := zFst_1 (x := false) (a := 0) (y := false) (b := 0) (z := true) (decide_eq_false (by omega)) rfl (decide_eq_false (by omega)) rfl (decide_eq_true (by omega)) rfl
              exact r_loc (lv' := [(0, some (.ref (ae 0))), (1, some (.int (iZ w))), (2, some (.int (iZ 3))), (3, some (.int (iZ 3)))]) (by exact ⟨rfl, rfl, rfl, rfl, trivial⟩) (Nat.le_refl _) (Nat.le_refl _) (fin 3 3 (by rw [ed]; rfl) (by rw [em]; rfl))
        · refine r_iload hX dX4_houseTold_43 rfl (r_istore_n hX dX4_houseTold_45 rfl (by decide) rfl (r_iincZ (z := 1) (y := 3) hX dX4_houseTold_46 rfl (by decide) rfl rfl (r_goto (tgt := 7) hX dX4_houseTold_49 (by decide) (r_iload hX dX4_houseTold_7 rfl (r_iconstZ hX dX4_houseTold_9 (r_icmp_geZ (tgt := 52) hX dX4_houseTold_10 (by decide) (by decide) (by decide) (fun q => absurd q (by decide)) (fun _ => ?_)))))))
          refine r_aload_n hX dX4_houseTold_13 rfl rfl (r_iload hX dX4_houseTold_14 rfl (r_iload_n hX dX4_houseTold_16 rfl rfl (r_callV hX (z_X4_ordered ad ae cs K S th rest hS _ 3 (by first | with_reducible assumption | decide | omega) (by first | with_reducible assumption | decide | omega) _ 2 (by first | with_reducible assumption | decide | omega) (by first | with_reducible assumption | decide | omega)) kv_X4_196 14 rfl rfl rfl rfl (Nat.le_of_ble_eq_true rfl) ⟨(Nat.le_of_ble_eq_true rfl), (Nat.le_of_ble_eq_true rfl)⟩ ⟨(Nat.le_of_ble_eq_true rfl), (Nat.le_of_ble_eq_true rfl)⟩ dX4_houseTold_17 (fun _ _ z => False.elim z) (fun v9 ws9 h20 => ?_))))
          obtain ⟨rfl, hw9⟩ := h20
          subst ws9
          dsimp only [mPush]
          have hto20 := zTo_b (sse S 3) (sna S 3) (sow S 3) (sse S 2) (sna S 2) (sow S 2)
          refine r_if_geZ (tgt := 26) hX dX4_houseTold_20 (by decide) (by first | with_reducible assumption | decide | omega) (fun c21 => ?_) (fun c21 => ?_)
          · refine r_aload_n hX dX4_houseTold_26 rfl rfl (r_get hX kf_X4_13 14 rfl rfl dX4_houseTold_27 (r_iload hX dX4_houseTold_30 rfl (r_laldZ hX 16 1 rfl rfl 3 (by decide) (by decide) (by decide) dX4_houseTold_32 (r_aload_n hX dX4_houseTold_33 rfl rfl (r_get hX kf_X4_13 14 rfl rfl dX4_houseTold_34 (r_iload_n hX dX4_houseTold_37 rfl rfl (r_laldZ hX 16 1 rfl rfl 2 (by decide) (by decide) (by decide) dX4_houseTold_38 ?_)))))))
            refine r_lif_geZ (tgt := 46) hX dX4_houseTold_39 dX4_houseTold_40 (by decide) (by first | with_reducible assumption | decide | omega) (by first | with_reducible assumption | decide | omega) (fun c22 => ?_) (fun c22 => ?_)
            · refine r_iincZ (z := 1) (y := 4) hX dX4_houseTold_46 rfl (by decide) rfl rfl (r_goto (tgt := 7) hX dX4_houseTold_49 (by decide) (r_iload hX dX4_houseTold_7 rfl (r_iconstZ hX dX4_houseTold_9 (r_icmp_geZ (tgt := 52) hX dX4_houseTold_10 (by decide) (by decide) (by decide) (fun _ => ?_) (fun q => absurd (by decide) q)))))
              have ed : zFD S = 2 := zFst_1 (x := false) (a := 0) (y := true) (b := 2) (z := false) (decide_eq_false (by omega)) rfl (decide_eq_true (by omega)) rfl (decide_eq_false (by omega)) rfl
              have em : zFM S = 2 := zFst_1 (x := false) (a := 0) (y := true) (b := 2) (z := false) (decide_eq_false (by omega)) rfl (decide_eq_true (by omega)) rfl (decide_eq_false (by omega)) rfl
              exact r_loc (lv' := [(0, some (.ref (ae 0))), (1, some (.int (iZ w))), (2, some (.int (iZ 2))), (3, some (.int (iZ 2)))]) (by exact ⟨rfl, rfl, rfl, rfl, trivial⟩) (Nat.le_refl _) (Nat.le_refl _) (fin 2 2 (by rw [ed]; rfl) (by rw [em]; rfl))
            · refine r_iload hX dX4_houseTold_43 rfl (r_istore_n hX dX4_houseTold_45 rfl (by decide) rfl (r_iincZ (z := 1) (y := 4) hX dX4_houseTold_46 rfl (by decide) rfl rfl (r_goto (tgt := 7) hX dX4_houseTold_49 (by decide) (r_iload hX dX4_houseTold_7 rfl (r_iconstZ hX dX4_houseTold_9 (r_icmp_geZ (tgt := 52) hX dX4_houseTold_10 (by decide) (by decide) (by decide) (fun _ => ?_) (fun q => absurd (by decide) q)))))))
              have ed : zFD S = 2 := zFst_1 (x := false) (a := 0) (y := true) (b := 2) (z := false) (decide_eq_false (by omega)) rfl (decide_eq_true (by omega)) rfl (decide_eq_false (by omega)) rfl
              have em : zFM S = 3 := zFst_1 (x := false) (a := 0) (y := true) (b := 2) (z := true) (decide_eq_false (by omega)) rfl (decide_eq_true (by omega)) rfl (decide_eq_true (by omega)) rfl
              exact r_loc (lv' := [(0, some (.ref (ae 0))), (1, some (.int (iZ w))), (2, some (.int (iZ 2))), (3, some (.int (iZ 3)))]) (by exact ⟨rfl, rfl, rfl, rfl, trivial⟩) (Nat.le_refl _) (Nat.le_refl _) (fin 2 3 (by rw [ed]; rfl) (by rw [em]; rfl))
          · refine r_iload hX dX4_houseTold_23 rfl (r_istore_n hX dX4_houseTold_25 rfl (by decide) rfl (r_aload_n hX dX4_houseTold_26 rfl rfl (r_get hX kf_X4_13 14 rfl rfl dX4_houseTold_27 (r_iload hX dX4_houseTold_30 rfl (r_laldZ hX 16 1 rfl rfl 3 (by decide) (by decide) (by decide) dX4_houseTold_32 (r_aload_n hX dX4_houseTold_33 rfl rfl (r_get hX kf_X4_13 14 rfl rfl dX4_houseTold_34 ?_)))))))
            refine r_iload_n hX dX4_houseTold_37 rfl rfl (r_laldZ hX 16 1 rfl rfl 2 (by decide) (by decide) (by decide) dX4_houseTold_38 (r_lif_geZ (tgt := 46) hX dX4_houseTold_39 dX4_houseTold_40 (by decide) (by first | with_reducible assumption | decide | omega) (by first | with_reducible assumption | decide | omega) (fun c23 => ?_) (fun c23 => ?_)))
            · refine r_iincZ (z := 1) (y := 4) hX dX4_houseTold_46 rfl (by decide) rfl rfl (r_goto (tgt := 7) hX dX4_houseTold_49 (by decide) (r_iload hX dX4_houseTold_7 rfl (r_iconstZ hX dX4_houseTold_9 (r_icmp_geZ (tgt := 52) hX dX4_houseTold_10 (by decide) (by decide) (by decide) (fun _ => ?_) (fun q => absurd (by decide) q)))))
              have ed : zFD S = 3 := zFst_1 (x := false) (a := 0) (y := true) (b := 2) (z := true) (decide_eq_false (by omega)) rfl (decide_eq_true (by omega)) rfl (decide_eq_true (by omega)) rfl
              have em : zFM S = 2 := zFst_1 (x := false) (a := 0) (y := true) (b := 2) (z := false) (decide_eq_false (by omega)) rfl (decide_eq_true (by omega)) rfl (decide_eq_false (by omega)) rfl
              exact r_loc (lv' := [(0, some (.ref (ae 0))), (1, some (.int (iZ w))), (2, some (.int (iZ 3))), (3, some (.int (iZ 2)))]) (by exact ⟨rfl, rfl, rfl, rfl, trivial⟩) (Nat.le_refl _) (Nat.le_refl _) (fin 3 2 (by rw [ed]; rfl) (by rw [em]; rfl))
            · refine r_iload hX dX4_houseTold_43 rfl (r_istore_n hX dX4_houseTold_45 rfl (by decide) rfl (r_iincZ (z := 1) (y := 4) hX dX4_houseTold_46 rfl (by decide) rfl rfl (r_goto (tgt := 7) hX dX4_houseTold_49 (by decide) (r_iload hX dX4_houseTold_7 rfl (r_iconstZ hX dX4_houseTold_9 (r_icmp_geZ (tgt := 52) hX dX4_houseTold_10 (by decide) (by decide) (by decide) (fun _ => ?_) (fun q => absurd (by decide) q)))))))
              have ed : zFD S = 3 := zFst_1 (x := false) (a := 0) (y := true) (b := 2) (z := true) (decide_eq_false (by omega)) rfl (decide_eq_true (by omega)) rfl (decide_eq_true (by omega)) rfl
              have em : zFM S = 3 := zFst_1 (x := false) (a := 0) (y := true) (b := 2) (z := true) (decide_eq_false (by omega)) rfl (decide_eq_true (by omega)) rfl (decide_eq_true (by omega)) rfl
              exact r_loc (lv' := [(0, some (.ref (ae 0))), (1, some (.int (iZ w))), (2, some (.int (iZ 3))), (3, some (.int (iZ 3)))]) (by exact ⟨rfl, rfl, rfl, rfl, trivial⟩) (Nat.le_refl _) (Nat.le_refl _) (fin 3 3 (by rw [ed]; rfl) (by rw [em]; rfl))
    · refine r_iload hX dX4_houseTold_43 rfl (r_istore_n hX dX4_houseTold_45 rfl (by decide) rfl (r_iincZ (z := 1) (y := 2) hX dX4_houseTold_46 rfl (by decide) rfl rfl (r_goto (tgt := 7) hX dX4_houseTold_49 (by decide) (r_iload hX dX4_houseTold_7 rfl (r_iconstZ hX dX4_houseTold_9 (r_icmp_geZ (tgt := 52) hX dX4_houseTold_10 (by decide) (by decide) (by decide) (fun q => absurd q (by decide)) (fun _ => ?_)))))))
      refine r_aload_n hX dX4_houseTold_13 rfl rfl (r_iload hX dX4_houseTold_14 rfl (r_iload_n hX dX4_houseTold_16 rfl rfl (r_callV hX (z_X4_ordered ad ae cs K S th rest hS _ 2 (by first | with_reducible assumption | decide | omega) (by first | with_reducible assumption | decide | omega) _ 0 (by first | with_reducible assumption | decide | omega) (by first | with_reducible assumption | decide | omega)) kv_X4_196 14 rfl rfl rfl rfl (Nat.le_of_ble_eq_true rfl) ⟨(Nat.le_of_ble_eq_true rfl), (Nat.le_of_ble_eq_true rfl)⟩ ⟨(Nat.le_of_ble_eq_true rfl), (Nat.le_of_ble_eq_true rfl)⟩ dX4_houseTold_17 (fun _ _ z => False.elim z) (fun v9 ws9 h24 => ?_))))
      obtain ⟨rfl, hw9⟩ := h24
      subst ws9
      dsimp only [mPush]
      have hto24 := zTo_b (sse S 2) (sna S 2) (sow S 2) (sse S 0) (sna S 0) (sow S 0)
      refine r_if_geZ (tgt := 26) hX dX4_houseTold_20 (by decide) (by first | with_reducible assumption | decide | omega) (fun c25 => ?_) (fun c25 => ?_)
      · refine r_aload_n hX dX4_houseTold_26 rfl rfl (r_get hX kf_X4_13 14 rfl rfl dX4_houseTold_27 (r_iload hX dX4_houseTold_30 rfl (r_laldZ hX 16 1 rfl rfl 2 (by decide) (by decide) (by decide) dX4_houseTold_32 (r_aload_n hX dX4_houseTold_33 rfl rfl (r_get hX kf_X4_13 14 rfl rfl dX4_houseTold_34 (r_iload_n hX dX4_houseTold_37 rfl rfl (r_laldZ hX 16 1 rfl rfl 1 (by decide) (by decide) (by decide) dX4_houseTold_38 ?_)))))))
        refine r_lif_geZ (tgt := 46) hX dX4_houseTold_39 dX4_houseTold_40 (by decide) (by first | with_reducible assumption | decide | omega) (by first | with_reducible assumption | decide | omega) (fun c26 => ?_) (fun c26 => ?_)
        · refine r_iincZ (z := 1) (y := 3) hX dX4_houseTold_46 rfl (by decide) rfl rfl (r_goto (tgt := 7) hX dX4_houseTold_49 (by decide) (r_iload hX dX4_houseTold_7 rfl (r_iconstZ hX dX4_houseTold_9 (r_icmp_geZ (tgt := 52) hX dX4_houseTold_10 (by decide) (by decide) (by decide) (fun q => absurd q (by decide)) (fun _ => ?_)))))
          refine r_aload_n hX dX4_houseTold_13 rfl rfl (r_iload hX dX4_houseTold_14 rfl (r_iload_n hX dX4_houseTold_16 rfl rfl (r_callV hX (z_X4_ordered ad ae cs K S th rest hS _ 3 (by first | with_reducible assumption | decide | omega) (by first | with_reducible assumption | decide | omega) _ 0 (by first | with_reducible assumption | decide | omega) (by first | with_reducible assumption | decide | omega)) kv_X4_196 14 rfl rfl rfl rfl (Nat.le_of_ble_eq_true rfl) ⟨(Nat.le_of_ble_eq_true rfl), (Nat.le_of_ble_eq_true rfl)⟩ ⟨(Nat.le_of_ble_eq_true rfl), (Nat.le_of_ble_eq_true rfl)⟩ dX4_houseTold_17 (fun _ _ z => False.elim z) (fun v9 ws9 h27 => ?_))))
          obtain ⟨rfl, hw9⟩ := h27
          subst ws9
          dsimp only [mPush]
          have hto27 := zTo_b (sse S 3) (sna S 3) (sow S 3) (sse S 0) (sna S 0) (sow S 0)
          refine r_if_geZ (tgt := 26) hX dX4_houseTold_20 (by decide) (by first | with_reducible assumption | decide | omega) (fun c28 => ?_) (fun c28 => ?_)
          · refine r_aload_n hX dX4_houseTold_26 rfl rfl (r_get hX kf_X4_13 14 rfl rfl dX4_houseTold_27 (r_iload hX dX4_houseTold_30 rfl (r_laldZ hX 16 1 rfl rfl 3 (by decide) (by decide) (by decide) dX4_houseTold_32 (r_aload_n hX dX4_houseTold_33 rfl rfl (r_get hX kf_X4_13 14 rfl rfl dX4_houseTold_34 (r_iload_n hX dX4_houseTold_37 rfl rfl (r_laldZ hX 16 1 rfl rfl 1 (by decide) (by decide) (by decide) dX4_houseTold_38 ?_)))))))
            refine r_lif_geZ (tgt := 46) hX dX4_houseTold_39 dX4_houseTold_40 (by decide) (by first | with_reducible assumption | decide | omega) (by first | with_reducible assumption | decide | omega) (fun c29 => ?_) (fun c29 => ?_)
            · refine r_iincZ (z := 1) (y := 4) hX dX4_houseTold_46 rfl (by decide) rfl rfl (r_goto (tgt := 7) hX dX4_houseTold_49 (by decide) (r_iload hX dX4_houseTold_7 rfl (r_iconstZ hX dX4_houseTold_9 (r_icmp_geZ (tgt := 52) hX dX4_houseTold_10 (by decide) (by decide) (by decide) (fun _ => ?_) (fun q => absurd (by decide) q)))))
              have ed : zFD S = 0 := zFst_1 (x := false) (a := 0) (y := false) (b := 0) (z := false) (decide_eq_false (by omega)) rfl (decide_eq_false (by omega)) rfl (decide_eq_false (by omega)) rfl
              have em : zFM S = 1 := zFst_1 (x := true) (a := 1) (y := false) (b := 1) (z := false) (decide_eq_true (by omega)) rfl (decide_eq_false (by omega)) rfl (decide_eq_false (by omega)) rfl
              exact r_loc (lv' := [(0, some (.ref (ae 0))), (1, some (.int (iZ w))), (2, some (.int (iZ 0))), (3, some (.int (iZ 1)))]) (by exact ⟨rfl, rfl, rfl, rfl, trivial⟩) (Nat.le_refl _) (Nat.le_refl _) (fin 0 1 (by rw [ed]; rfl) (by rw [em]; rfl))
            · refine r_iload hX dX4_houseTold_43 rfl (r_istore_n hX dX4_houseTold_45 rfl (by decide) rfl (r_iincZ (z := 1) (y := 4) hX dX4_houseTold_46 rfl (by decide) rfl rfl (r_goto (tgt := 7) hX dX4_houseTold_49 (by decide) (r_iload hX dX4_houseTold_7 rfl (r_iconstZ hX dX4_houseTold_9 (r_icmp_geZ (tgt := 52) hX dX4_houseTold_10 (by decide) (by decide) (by decide) (fun _ => ?_) (fun q => absurd (by decide) q)))))))
              have ed : zFD S = 0 := zFst_1 (x := false) (a := 0) (y := false) (b := 0) (z := false) (decide_eq_false (by omega)) rfl (decide_eq_false (by omega)) rfl (decide_eq_false (by omega)) rfl
              have em : zFM S = 3 := zFst_1 (x := true) (a := 1) (y := false) (b := 1) (z := true) (decide_eq_true (by omega)) rfl (decide_eq_false (by omega)) rfl (decide_eq_true (by omega)) rfl
              exact r_loc (lv' := [(0, some (.ref (ae 0))), (1, some (.int (iZ w))), (2, some (.int (iZ 0))), (3, some (.int (iZ 3)))]) (by exact ⟨rfl, rfl, rfl, rfl, trivial⟩) (Nat.le_refl _) (Nat.le_refl _) (fin 0 3 (by rw [ed]; rfl) (by rw [em]; rfl))
          · refine r_iload hX dX4_houseTold_23 rfl (r_istore_n hX dX4_houseTold_25 rfl (by decide) rfl (r_aload_n hX dX4_houseTold_26 rfl rfl (r_get hX kf_X4_13 14 rfl rfl dX4_houseTold_27 (r_iload hX dX4_houseTold_30 rfl (r_laldZ hX 16 1 rfl rfl 3 (by decide) (by decide) (by decide) dX4_houseTold_32 (r_aload_n hX dX4_houseTold_33 rfl rfl (r_get hX kf_X4_13 14 rfl rfl dX4_houseTold_34 ?_)))))))
            refine r_iload_n hX dX4_houseTold_37 rfl rfl (r_laldZ hX 16 1 rfl rfl 1 (by decide) (by decide) (by decide) dX4_houseTold_38 (r_lif_geZ (tgt := 46) hX dX4_houseTold_39 dX4_houseTold_40 (by decide) (by first | with_reducible assumption | decide | omega) (by first | with_reducible assumption | decide | omega) (fun c30 => ?_) (fun c30 => ?_)))
            · refine r_iincZ (z := 1) (y := 4) hX dX4_houseTold_46 rfl (by decide) rfl rfl (r_goto (tgt := 7) hX dX4_houseTold_49 (by decide) (r_iload hX dX4_houseTold_7 rfl (r_iconstZ hX dX4_houseTold_9 (r_icmp_geZ (tgt := 52) hX dX4_houseTold_10 (by decide) (by decide) (by decide) (fun _ => ?_) (fun q => absurd (by decide) q)))))
              have ed : zFD S = 3 := zFst_1 (x := false) (a := 0) (y := false) (b := 0) (z := true) (decide_eq_false (by omega)) rfl (decide_eq_false (by omega)) rfl (decide_eq_true (by omega)) rfl
              have em : zFM S = 1 := zFst_1 (x := true) (a := 1) (y := false) (b := 1) (z := false) (decide_eq_true (by omega)) rfl (decide_eq_false (by omega)) rfl (decide_eq_false (by omega)) rfl
              exact r_loc (lv' := [(0, some (.ref (ae 0))), (1, some (.int (iZ w))), (2, some (.int (iZ 3))), (3, some (.int (iZ 1)))]) (by exact ⟨rfl, rfl, rfl, rfl, trivial⟩) (Nat.le_refl _) (Nat.le_refl _) (fin 3 1 (by rw [ed]; rfl) (by rw [em]; rfl))
            · refine r_iload hX dX4_houseTold_43 rfl (r_istore_n hX dX4_houseTold_45 rfl (by decide) rfl (r_iincZ (z := 1) (y := 4) hX dX4_houseTold_46 rfl (by decide) rfl rfl (r_goto (tgt := 7) hX dX4_houseTold_49 (by decide) (r_iload hX dX4_houseTold_7 rfl (r_iconstZ hX dX4_houseTold_9 (r_icmp_geZ (tgt := 52) hX dX4_houseTold_10 (by decide) (by decide) (by decide) (fun _ => ?_) (fun q => absurd (by decide) q)))))))
              have ed : zFD S = 3 := zFst_1 (x := false) (a := 0) (y := false) (b := 0) (z := true) (decide_eq_false (by omega)) rfl (decide_eq_false (by omega)) rfl (decide_eq_true (by omega)) rfl
              have em : zFM S = 3 := zFst_1 (x := true) (a := 1) (y := false) (b := 1) (z := true) (decide_eq_true (by omega)) rfl (decide_eq_false (by omega)) rfl (decide_eq_true (by omega)) rfl
              exact r_loc (lv' := [(0, some (.ref (ae 0))), (1, some (.int (iZ w))), (2, some (.int (iZ 3))), (3, some (.int (iZ 3)))]) (by exact ⟨rfl, rfl, rfl, rfl, trivial⟩) (Nat.le_refl _) (Nat.le_refl _) (fin 3 3 (by rw [ed]; rfl) (by rw [em]; rfl))
        · refine r_iload hX dX4_houseTold_43 rfl (r_istore_n hX dX4_houseTold_45 rfl (by decide) rfl (r_iincZ (z := 1) (y := 3) hX dX4_houseTold_46 rfl (by decide) rfl rfl (r_goto (tgt := 7) hX dX4_houseTold_49 (by decide) (r_iload hX dX4_houseTold_7 rfl (r_iconstZ hX dX4_houseTold_9 (r_icmp_geZ (tgt := 52) hX dX4_houseTold_10 (by decide) (by decide) (by decide) (fun q => absurd q (by decide)) (fun _ => ?_)))))))
          refine r_aload_n hX dX4_houseTold_13 rfl rfl (r_iload hX dX4_houseTold_14 rfl (r_iload_n hX dX4_houseTold_16 rfl rfl (r_callV hX (z_X4_ordered ad ae cs K S th rest hS _ 3 (by first | with_reducible assumption | decide | omega) (by first | with_reducible assumption | decide | omega) _ 0 (by first | with_reducible assumption | decide | omega) (by first | with_reducible assumption | decide | omega)) kv_X4_196 14 rfl rfl rfl rfl (Nat.le_of_ble_eq_true rfl) ⟨(Nat.le_of_ble_eq_true rfl), (Nat.le_of_ble_eq_true rfl)⟩ ⟨(Nat.le_of_ble_eq_true rfl), (Nat.le_of_ble_eq_true rfl)⟩ dX4_houseTold_17 (fun _ _ z => False.elim z) (fun v9 ws9 h31 => ?_))))
          obtain ⟨rfl, hw9⟩ := h31
          subst ws9
          dsimp only [mPush]
          have hto31 := zTo_b (sse S 3) (sna S 3) (sow S 3) (sse S 0) (sna S 0) (sow S 0)
          refine r_if_geZ (tgt := 26) hX dX4_houseTold_20 (by decide) (by first | with_reducible assumption | decide | omega) (fun c32 => ?_) (fun c32 => ?_)
          · refine r_aload_n hX dX4_houseTold_26 rfl rfl (r_get hX kf_X4_13 14 rfl rfl dX4_houseTold_27 (r_iload hX dX4_houseTold_30 rfl (r_laldZ hX 16 1 rfl rfl 3 (by decide) (by decide) (by decide) dX4_houseTold_32 (r_aload_n hX dX4_houseTold_33 rfl rfl (r_get hX kf_X4_13 14 rfl rfl dX4_houseTold_34 (r_iload_n hX dX4_houseTold_37 rfl rfl (r_laldZ hX 16 1 rfl rfl 2 (by decide) (by decide) (by decide) dX4_houseTold_38 ?_)))))))
            refine r_lif_geZ (tgt := 46) hX dX4_houseTold_39 dX4_houseTold_40 (by decide) (by first | with_reducible assumption | decide | omega) (by first | with_reducible assumption | decide | omega) (fun c33 => ?_) (fun c33 => ?_)
            · refine r_iincZ (z := 1) (y := 4) hX dX4_houseTold_46 rfl (by decide) rfl rfl (r_goto (tgt := 7) hX dX4_houseTold_49 (by decide) (r_iload hX dX4_houseTold_7 rfl (r_iconstZ hX dX4_houseTold_9 (r_icmp_geZ (tgt := 52) hX dX4_houseTold_10 (by decide) (by decide) (by decide) (fun _ => ?_) (fun q => absurd (by decide) q)))))
              have ed : zFD S = 0 := zFst_1 (x := false) (a := 0) (y := false) (b := 0) (z := false) (decide_eq_false (by omega)) rfl (decide_eq_false (by omega)) rfl (decide_eq_false (by omega)) rfl
              have em : zFM S = 2 := zFst_1 (x := true) (a := 1) (y := true) (b := 2) (z := false) (decide_eq_true (by omega)) rfl (decide_eq_true (by omega)) rfl (decide_eq_false (by omega)) rfl
              exact r_loc (lv' := [(0, some (.ref (ae 0))), (1, some (.int (iZ w))), (2, some (.int (iZ 0))), (3, some (.int (iZ 2)))]) (by exact ⟨rfl, rfl, rfl, rfl, trivial⟩) (Nat.le_refl _) (Nat.le_refl _) (fin 0 2 (by rw [ed]; rfl) (by rw [em]; rfl))
            · refine r_iload hX dX4_houseTold_43 rfl (r_istore_n hX dX4_houseTold_45 rfl (by decide) rfl (r_iincZ (z := 1) (y := 4) hX dX4_houseTold_46 rfl (by decide) rfl rfl (r_goto (tgt := 7) hX dX4_houseTold_49 (by decide) (r_iload hX dX4_houseTold_7 rfl (r_iconstZ hX dX4_houseTold_9 (r_icmp_geZ (tgt := 52) hX dX4_houseTold_10 (by decide) (by decide) (by decide) (fun _ => ?_) (fun q => absurd (by decide) q)))))))
              have ed : zFD S = 0 := zFst_1 (x := false) (a := 0) (y := false) (b := 0) (z := false) (decide_eq_false (by omega)) rfl (decide_eq_false (by omega)) rfl (decide_eq_false (by omega)) rfl
              have em : zFM S = 3 := zFst_1 (x := true) (a := 1) (y := true) (b := 2) (z := true) (decide_eq_true (by omega)) rfl (decide_eq_true (by omega)) rfl (decide_eq_true (by omega)) rfl
              exact r_loc (lv' := [(0, some (.ref (ae 0))), (1, some (.int (iZ w))), (2, some (.int (iZ 0))), (3, some (.int (iZ 3)))]) (by exact ⟨rfl, rfl, rfl, rfl, trivial⟩) (Nat.le_refl _) (Nat.le_refl _) (fin 0 3 (by rw [ed]; rfl) (by rw [em]; rfl))
          · refine r_iload hX dX4_houseTold_23 rfl (r_istore_n hX dX4_houseTold_25 rfl (by decide) rfl (r_aload_n hX dX4_houseTold_26 rfl rfl (r_get hX kf_X4_13 14 rfl rfl dX4_houseTold_27 (r_iload hX dX4_houseTold_30 rfl (r_laldZ hX 16 1 rfl rfl 3 (by decide) (by decide) (by decide) dX4_houseTold_32 (r_aload_n hX dX4_houseTold_33 rfl rfl (r_get hX kf_X4_13 14 rfl rfl dX4_houseTold_34 ?_)))))))
            refine r_iload_n hX dX4_houseTold_37 rfl rfl (r_laldZ hX 16 1 rfl rfl 2 (by decide) (by decide) (by decide) dX4_houseTold_38 (r_lif_geZ (tgt := 46) hX dX4_houseTold_39 dX4_houseTold_40 (by decide) (by first | with_reducible assumption | decide | omega) (by first | with_reducible assumption | decide | omega) (fun c34 => ?_) (fun c34 => ?_)))
            · refine r_iincZ (z := 1) (y := 4) hX dX4_houseTold_46 rfl (by decide) rfl rfl (r_goto (tgt := 7) hX dX4_houseTold_49 (by decide) (r_iload hX dX4_houseTold_7 rfl (r_iconstZ hX dX4_houseTold_9 (r_icmp_geZ (tgt := 52) hX dX4_houseTold_10 (by decide) (by decide) (by decide) (fun _ => ?_) (fun q => absurd (by decide) q)))))
              have ed : zFD S = 3 := zFst_1 (x := false) (a := 0) (y := false) (b := 0) (z := true) (decide_eq_false (by omega)) rfl (decide_eq_false (by omega)) rfl (decide_eq_true (by omega)) rfl
              have em : zFM S = 2 := zFst_1 (x := true) (a := 1) (y := true) (b := 2) (z := false) (decide_eq_true (by omega)) rfl (decide_eq_true (by omega)) rfl (decide_eq_false (by omega)) rfl
              exact r_loc (lv' := [(0, some (.ref (ae 0))), (1, some (.int (iZ w))), (2, some (.int (iZ 3))), (3, some (.int (iZ 2)))]) (by exact ⟨rfl, rfl, rfl, rfl, trivial⟩) (Nat.le_refl _) (Nat.le_refl _) (fin 3 2 (by rw [ed]; rfl) (by rw [em]; rfl))
            · refine r_iload hX dX4_houseTold_43 rfl (r_istore_n hX dX4_houseTold_45 rfl (by decide) rfl (r_iincZ (z := 1) (y := 4) hX dX4_houseTold_46 rfl (by decide) rfl rfl (r_goto (tgt := 7) hX dX4_houseTold_49 (by decide) (r_iload hX dX4_houseTold_7 rfl (r_iconstZ hX dX4_houseTold_9 (r_icmp_geZ (tgt := 52) hX dX4_houseTold_10 (by decide) (by decide) (by decide) (fun _ => ?_) (fun q => absurd (by decide) q)))))))
              have ed : zFD S = 3 := zFst_1 (x := false) (a := 0) (y := false) (b := 0) (z := true) (decide_eq_false (by omega)) rfl (decide_eq_false (by omega)) rfl (decide_eq_true (by omega)) rfl
              have em : zFM S = 3 := zFst_1 (x := true) (a := 1) (y := true) (b := 2) (z := true) (decide_eq_true (by omega)) rfl (decide_eq_true (by omega)) rfl (decide_eq_true (by omega)) rfl
              exact r_loc (lv' := [(0, some (.ref (ae 0))), (1, some (.int (iZ w))), (2, some (.int (iZ 3))), (3, some (.int (iZ 3)))]) (by exact ⟨rfl, rfl, rfl, rfl, trivial⟩) (Nat.le_refl _) (Nat.le_refl _) (fin 3 3 (by rw [ed]; rfl) (by rw [em]; rfl))
      · refine r_iload hX dX4_houseTold_23 rfl (r_istore_n hX dX4_houseTold_25 rfl (by decide) rfl (r_aload_n hX dX4_houseTold_26 rfl rfl (r_get hX kf_X4_13 14 rfl rfl dX4_houseTold_27 (r_iload hX dX4_houseTold_30 rfl (r_laldZ hX 16 1 rfl rfl 2 (by decide) (by decide) (by decide) dX4_houseTold_32 (r_aload_n hX dX4_houseTold_33 rfl rfl (r_get hX kf_X4_13 14 rfl rfl dX4_houseTold_34 ?_)))))))
        refine r_iload_n hX dX4_houseTold_37 rfl rfl (r_laldZ hX 16 1 rfl rfl 1 (by decide) (by decide) (by decide) dX4_houseTold_38 (r_lif_geZ (tgt := 46) hX dX4_houseTold_39 dX4_houseTold_40 (by decide) (by first | with_reducible assumption | decide | omega) (by first | with_reducible assumption | decide | omega) (fun c35 => ?_) (fun c35 => ?_)))
        · refine r_iincZ (z := 1) (y := 3) hX dX4_houseTold_46 rfl (by decide) rfl rfl (r_goto (tgt := 7) hX dX4_houseTold_49 (by decide) (r_iload hX dX4_houseTold_7 rfl (r_iconstZ hX dX4_houseTold_9 (r_icmp_geZ (tgt := 52) hX dX4_houseTold_10 (by decide) (by decide) (by decide) (fun q => absurd q (by decide)) (fun _ => ?_)))))
          refine r_aload_n hX dX4_houseTold_13 rfl rfl (r_iload hX dX4_houseTold_14 rfl (r_iload_n hX dX4_houseTold_16 rfl rfl (r_callV hX (z_X4_ordered ad ae cs K S th rest hS _ 3 (by first | with_reducible assumption | decide | omega) (by first | with_reducible assumption | decide | omega) _ 2 (by first | with_reducible assumption | decide | omega) (by first | with_reducible assumption | decide | omega)) kv_X4_196 14 rfl rfl rfl rfl (Nat.le_of_ble_eq_true rfl) ⟨(Nat.le_of_ble_eq_true rfl), (Nat.le_of_ble_eq_true rfl)⟩ ⟨(Nat.le_of_ble_eq_true rfl), (Nat.le_of_ble_eq_true rfl)⟩ dX4_houseTold_17 (fun _ _ z => False.elim z) (fun v9 ws9 h36 => ?_))))
          obtain ⟨rfl, hw9⟩ := h36
          subst ws9
          dsimp only [mPush]
          have hto36 := zTo_b (sse S 3) (sna S 3) (sow S 3) (sse S 2) (sna S 2) (sow S 2)
          refine r_if_geZ (tgt := 26) hX dX4_houseTold_20 (by decide) (by first | with_reducible assumption | decide | omega) (fun c37 => ?_) (fun c37 => ?_)
          · refine r_aload_n hX dX4_houseTold_26 rfl rfl (r_get hX kf_X4_13 14 rfl rfl dX4_houseTold_27 (r_iload hX dX4_houseTold_30 rfl (r_laldZ hX 16 1 rfl rfl 3 (by decide) (by decide) (by decide) dX4_houseTold_32 (r_aload_n hX dX4_houseTold_33 rfl rfl (r_get hX kf_X4_13 14 rfl rfl dX4_houseTold_34 (r_iload_n hX dX4_houseTold_37 rfl rfl (r_laldZ hX 16 1 rfl rfl 1 (by decide) (by decide) (by decide) dX4_houseTold_38 ?_)))))))
            refine r_lif_geZ (tgt := 46) hX dX4_houseTold_39 dX4_houseTold_40 (by decide) (by first | with_reducible assumption | decide | omega) (by first | with_reducible assumption | decide | omega) (fun c38 => ?_) (fun c38 => ?_)
            · refine r_iincZ (z := 1) (y := 4) hX dX4_houseTold_46 rfl (by decide) rfl rfl (r_goto (tgt := 7) hX dX4_houseTold_49 (by decide) (r_iload hX dX4_houseTold_7 rfl (r_iconstZ hX dX4_houseTold_9 (r_icmp_geZ (tgt := 52) hX dX4_houseTold_10 (by decide) (by decide) (by decide) (fun _ => ?_) (fun q => absurd (by decide) q)))))
              have ed : zFD S = 2 := zFst_1 (x := false) (a := 0) (y := true) (b := 2) (z := false) (decide_eq_false (by omega)) rfl (decide_eq_true (by omega)) rfl (decide_eq_false (by omega)) rfl
              have em : zFM S = 1 := zFst_1 (x := true) (a := 1) (y := false) (b := 1) (z := false) (decide_eq_true (by omega)) rfl (decide_eq_false (by omega)) rfl (decide_eq_false (by omega)) rfl
              exact r_loc (lv' := [(0, some (.ref (ae 0))), (1, some (.int (iZ w))), (2, some (.int (iZ 2))), (3, some (.int (iZ 1)))]) (by exact ⟨rfl, rfl, rfl, rfl, trivial⟩) (Nat.le_refl _) (Nat.le_refl _) (fin 2 1 (by rw [ed]; rfl) (by rw [em]; rfl))
            · refine r_iload hX dX4_houseTold_43 rfl (r_istore_n hX dX4_houseTold_45 rfl (by decide) rfl (r_iincZ (z := 1) (y := 4) hX dX4_houseTold_46 rfl (by decide) rfl rfl (r_goto (tgt := 7) hX dX4_houseTold_49 (by decide) (r_iload hX dX4_houseTold_7 rfl (r_iconstZ hX dX4_houseTold_9 (r_icmp_geZ (tgt := 52) hX dX4_houseTold_10 (by decide) (by decide) (by decide) (fun _ => ?_) (fun q => absurd (by decide) q)))))))
              have ed : zFD S = 2 := zFst_1 (x := false) (a := 0) (y := true) (b := 2) (z := false) (decide_eq_false (by omega)) rfl (decide_eq_true (by omega)) rfl (decide_eq_false (by omega)) rfl
              have em : zFM S = 3 := zFst_1 (x := true) (a := 1) (y := false) (b := 1) (z := true) (decide_eq_true (by omega)) rfl (decide_eq_false (by omega)) rfl (decide_eq_true (by omega)) rfl
              exact r_loc (lv' := [(0, some (.ref (ae 0))), (1, some (.int (iZ w))), (2, some (.int (iZ 2))), (3, some (.int (iZ 3)))]) (by exact ⟨rfl, rfl, rfl, rfl, trivial⟩) (Nat.le_refl _) (Nat.le_refl _) (fin 2 3 (by rw [ed]; rfl) (by rw [em]; rfl))
          · refine r_iload hX dX4_houseTold_23 rfl (r_istore_n hX dX4_houseTold_25 rfl (by decide) rfl (r_aload_n hX dX4_houseTold_26 rfl rfl (r_get hX kf_X4_13 14 rfl rfl dX4_houseTold_27 (r_iload hX dX4_houseTold_30 rfl (r_laldZ hX 16 1 rfl rfl 3 (by decide) (by decide) (by decide) dX4_houseTold_32 (r_aload_n hX dX4_houseTold_33 rfl rfl (r_get hX kf_X4_13 14 rfl rfl dX4_houseTold_34 ?_)))))))
            refine r_iload_n hX dX4_houseTold_37 rfl rfl (r_laldZ hX 16 1 rfl rfl 1 (by decide) (by decide) (by decide) dX4_houseTold_38 (r_lif_geZ (tgt := 46) hX dX4_houseTold_39 dX4_houseTold_40 (by decide) (by first | with_reducible assumption | decide | omega) (by first | with_reducible assumption | decide | omega) (fun c39 => ?_) (fun c39 => ?_)))
            · refine r_iincZ (z := 1) (y := 4) hX dX4_houseTold_46 rfl (by decide) rfl rfl (r_goto (tgt := 7) hX dX4_houseTold_49 (by decide) (r_iload hX dX4_houseTold_7 rfl (r_iconstZ hX dX4_houseTold_9 (r_icmp_geZ (tgt := 52) hX dX4_houseTold_10 (by decide) (by decide) (by decide) (fun _ => ?_) (fun q => absurd (by decide) q)))))
              have ed : zFD S = 3 := zFst_1 (x := false) (a := 0) (y := true) (b := 2) (z := true) (decide_eq_false (by omega)) rfl (decide_eq_true (by omega)) rfl (decide_eq_true (by omega)) rfl
              have em : zFM S = 1 := zFst_1 (x := true) (a := 1) (y := false) (b := 1) (z := false) (decide_eq_true (by omega)) rfl (decide_eq_false (by omega)) rfl (decide_eq_false (by omega)) rfl
              exact r_loc (lv' := [(0, some (.ref (ae 0))), (1, some (.int (iZ w))), (2, some (.int (iZ 3))), (3, some (.int (iZ 1)))]) (by exact ⟨rfl, rfl, rfl, rfl, trivial⟩) (Nat.le_refl _) (Nat.le_refl _) (fin 3 1 (by rw [ed]; rfl) (by rw [em]; rfl))
            · refine r_iload hX dX4_houseTold_43 rfl (r_istore_n hX dX4_houseTold_45 rfl (by decide) rfl (r_iincZ (z := 1) (y := 4) hX dX4_houseTold_46 rfl (by decide) rfl rfl (r_goto (tgt := 7) hX dX4_houseTold_49 (by decide) (r_iload hX dX4_houseTold_7 rfl (r_iconstZ hX dX4_houseTold_9 (r_icmp_geZ (tgt := 52) hX dX4_houseTold_10 (by decide) (by decide) (by decide) (fun _ => ?_) (fun q => absurd (by decide) q)))))))
              have ed : zFD S = 3 := zFst_1 (x := false) (a := 0) (y := true) (b := 2) (z := true) (decide_eq_false (by omega)) rfl (decide_eq_true (by omega)) rfl (decide_eq_true (by omega)) rfl
              have em : zFM S = 3 := zFst_1 (x := true) (a := 1) (y := false) (b := 1) (z := true) (decide_eq_true (by omega)) rfl (decide_eq_false (by omega)) rfl (decide_eq_true (by omega)) rfl
              exact r_loc (lv' := [(0, some (.ref (ae 0))), (1, some (.int (iZ w))), (2, some (.int (iZ 3))), (3, some (.int (iZ 3)))]) (by exact ⟨rfl, rfl, rfl, rfl, trivial⟩) (Nat.le_refl _) (Nat.le_refl _) (fin 3 3 (by rw [ed]; rfl) (by rw [em]; rfl))
        · refine r_iload hX dX4_houseTold_43 rfl (r_istore_n hX dX4_houseTold_45 rfl (by decide) rfl (r_iincZ (z := 1) (y := 3) hX dX4_houseTold_46 rfl (by decide) rfl rfl (r_goto (tgt := 7) hX dX4_houseTold_49 (by decide) (r_iload hX dX4_houseTold_7 rfl (r_iconstZ hX dX4_houseTold_9 (r_icmp_geZ (tgt := 52) hX dX4_houseTold_10 (by decide) (by decide) (by decide) (fun q => absurd q (by decide)) (fun _ => ?_)))))))
          refine r_aload_n hX dX4_houseTold_13 rfl rfl (r_iload hX dX4_houseTold_14 rfl (r_iload_n hX dX4_houseTold_16 rfl rfl (r_callV hX (z_X4_ordered ad ae cs K S th rest hS _ 3 (by first | with_reducible assumption | decide | omega) (by first | with_reducible assumption | decide | omega) _ 2 (by first | with_reducible assumption | decide | omega) (by first | with_reducible assumption | decide | omega)) kv_X4_196 14 rfl rfl rfl rfl (Nat.le_of_ble_eq_true rfl) ⟨(Nat.le_of_ble_eq_true rfl), (Nat.le_of_ble_eq_true rfl)⟩ ⟨(Nat.le_of_ble_eq_true rfl), (Nat.le_of_ble_eq_true rfl)⟩ dX4_houseTold_17 (fun _ _ z => False.elim z) (fun v9 ws9 h40 => ?_))))
          obtain ⟨rfl, hw9⟩ := h40
          subst ws9
          dsimp only [mPush]
          have hto40 := zTo_b (sse S 3) (sna S 3) (sow S 3) (sse S 2) (sna S 2) (sow S 2)
          refine r_if_geZ (tgt := 26) hX dX4_houseTold_20 (by decide) (by first | with_reducible assumption | decide | omega) (fun c41 => ?_) (fun c41 => ?_)
          · refine r_aload_n hX dX4_houseTold_26 rfl rfl (r_get hX kf_X4_13 14 rfl rfl dX4_houseTold_27 (r_iload hX dX4_houseTold_30 rfl (r_laldZ hX 16 1 rfl rfl 3 (by decide) (by decide) (by decide) dX4_houseTold_32 (r_aload_n hX dX4_houseTold_33 rfl rfl (r_get hX kf_X4_13 14 rfl rfl dX4_houseTold_34 (r_iload_n hX dX4_houseTold_37 rfl rfl (r_laldZ hX 16 1 rfl rfl 2 (by decide) (by decide) (by decide) dX4_houseTold_38 ?_)))))))
            refine r_lif_geZ (tgt := 46) hX dX4_houseTold_39 dX4_houseTold_40 (by decide) (by first | with_reducible assumption | decide | omega) (by first | with_reducible assumption | decide | omega) (fun c42 => ?_) (fun c42 => ?_)
            · refine r_iincZ (z := 1) (y := 4) hX dX4_houseTold_46 rfl (by decide) rfl rfl (r_goto (tgt := 7) hX dX4_houseTold_49 (by decide) (r_iload hX dX4_houseTold_7 rfl (r_iconstZ hX dX4_houseTold_9 (r_icmp_geZ (tgt := 52) hX dX4_houseTold_10 (by decide) (by decide) (by decide) (fun _ => ?_) (fun q => absurd (by decide) q)))))
              have ed : zFD S = 2 := zFst_1 (x := false) (a := 0) (y := true) (b := 2) (z := false) (decide_eq_false (by omega)) rfl (decide_eq_true (by omega)) rfl (decide_eq_false (by omega)) rfl
              have em : zFM S = 2 := zFst_1 (x := true) (a := 1) (y := true) (b := 2) (z := false) (decide_eq_true (by omega)) rfl (decide_eq_true (by omega)) rfl (decide_eq_false (by omega)) rfl
              exact r_loc (lv' := [(0, some (.ref (ae 0))), (1, some (.int (iZ w))), (2, some (.int (iZ 2))), (3, some (.int (iZ 2)))]) (by exact ⟨rfl, rfl, rfl, rfl, trivial⟩) (Nat.le_refl _) (Nat.le_refl _) (fin 2 2 (by rw [ed]; rfl) (by rw [em]; rfl))
            · refine r_iload hX dX4_houseTold_43 rfl (r_istore_n hX dX4_houseTold_45 rfl (by decide) rfl (r_iincZ (z := 1) (y := 4) hX dX4_houseTold_46 rfl (by decide) rfl rfl (r_goto (tgt := 7) hX dX4_houseTold_49 (by decide) (r_iload hX dX4_houseTold_7 rfl (r_iconstZ hX dX4_houseTold_9 (r_icmp_geZ (tgt := 52) hX dX4_houseTold_10 (by decide) (by decide) (by decide) (fun _ => ?_) (fun q => absurd (by decide) q)))))))
              have ed : zFD S = 2 := zFst_1 (x := false) (a := 0) (y := true) (b := 2) (z := false) (decide_eq_false (by omega)) rfl (decide_eq_true (by omega)) rfl (decide_eq_false (by omega)) rfl
              have em : zFM S = 3 := zFst_1 (x := true) (a := 1) (y := true) (b := 2) (z := true) (decide_eq_true (by omega)) rfl (decide_eq_true (by omega)) rfl (decide_eq_true (by omega)) rfl
              exact r_loc (lv' := [(0, some (.ref (ae 0))), (1, some (.int (iZ w))), (2, some (.int (iZ 2))), (3, some (.int (iZ 3)))]) (by exact ⟨rfl, rfl, rfl, rfl, trivial⟩) (Nat.le_refl _) (Nat.le_refl _) (fin 2 3 (by rw [ed]; rfl) (by rw [em]; rfl))
          · refine r_iload hX dX4_houseTold_23 rfl (r_istore_n hX dX4_houseTold_25 rfl (by decide) rfl (r_aload_n hX dX4_houseTold_26 rfl rfl (r_get hX kf_X4_13 14 rfl rfl dX4_houseTold_27 (r_iload hX dX4_houseTold_30 rfl (r_laldZ hX 16 1 rfl rfl 3 (by decide) (by decide) (by decide) dX4_houseTold_32 (r_aload_n hX dX4_houseTold_33 rfl rfl (r_get hX kf_X4_13 14 rfl rfl dX4_houseTold_34 ?_)))))))
            refine r_iload_n hX dX4_houseTold_37 rfl rfl (r_laldZ hX 16 1 rfl rfl 2 (by decide) (by decide) (by decide) dX4_houseTold_38 (r_lif_geZ (tgt := 46) hX dX4_houseTold_39 dX4_houseTold_40 (by decide) (by first | with_reducible assumption | decide | omega) (by first | with_reducible assumption | decide | omega) (fun c43 => ?_) (fun c43 => ?_)))
            · refine r_iincZ (z := 1) (y := 4) hX dX4_houseTold_46 rfl (by decide) rfl rfl (r_goto (tgt := 7) hX dX4_houseTold_49 (by decide) (r_iload hX dX4_houseTold_7 rfl (r_iconstZ hX dX4_houseTold_9 (r_icmp_geZ (tgt := 52) hX dX4_houseTold_10 (by decide) (by decide) (by decide) (fun _ => ?_) (fun q => absurd (by decide) q)))))
              have ed : zFD S = 3 := zFst_1 (x := false) (a := 0) (y := true) (b := 2) (z := true) (decide_eq_false (by omega)) rfl (decide_eq_true (by omega)) rfl (decide_eq_true (by omega)) rfl
              have em : zFM S = 2 := zFst_1 (x := true) (a := 1) (y := true) (b := 2) (z := false) (decide_eq_true (by omega)) rfl (decide_eq_true (by omega)) rfl (decide_eq_false (by omega)) rfl
              exact r_loc (lv' := [(0, some (.ref (ae 0))), (1, some (.int (iZ w))), (2, some (.int (iZ 3))), (3, some (.int (iZ 2)))]) (by exact ⟨rfl, rfl, rfl, rfl, trivial⟩) (Nat.le_refl _) (Nat.le_refl _) (fin 3 2 (by rw [ed]; rfl) (by rw [em]; rfl))
            · refine r_iload hX dX4_houseTold_43 rfl (r_istore_n hX dX4_houseTold_45 rfl (by decide) rfl (r_iincZ (z := 1) (y := 4) hX dX4_houseTold_46 rfl (by decide) rfl rfl (r_goto (tgt := 7) hX dX4_houseTold_49 (by decide) (r_iload hX dX4_houseTold_7 rfl (r_iconstZ hX dX4_houseTold_9 (r_icmp_geZ (tgt := 52) hX dX4_houseTold_10 (by decide) (by decide) (by decide) (fun _ => ?_) (fun q => absurd (by decide) q)))))))
              have ed : zFD S = 3 := zFst_1 (x := false) (a := 0) (y := true) (b := 2) (z := true) (decide_eq_false (by omega)) rfl (decide_eq_true (by omega)) rfl (decide_eq_true (by omega)) rfl
              have em : zFM S = 3 := zFst_1 (x := true) (a := 1) (y := true) (b := 2) (z := true) (decide_eq_true (by omega)) rfl (decide_eq_true (by omega)) rfl (decide_eq_true (by omega)) rfl
              exact r_loc (lv' := [(0, some (.ref (ae 0))), (1, some (.int (iZ w))), (2, some (.int (iZ 3))), (3, some (.int (iZ 3)))]) (by exact ⟨rfl, rfl, rfl, rfl, trivial⟩) (Nat.le_refl _) (Nat.le_refl _) (fin 3 3 (by rw [ed]; rfl) (by rw [em]; rfl))
  · refine r_iload hX dX4_houseTold_23 rfl (r_istore_n hX dX4_houseTold_25 rfl (by decide) rfl (r_aload_n hX dX4_houseTold_26 rfl rfl (r_get hX kf_X4_13 14 rfl rfl dX4_houseTold_27 (r_iload hX dX4_houseTold_30 rfl (r_laldZ hX 16 1 rfl rfl 1 (by decide) (by decide) (by decide) dX4_houseTold_32 (r_aload_n hX dX4_houseTold_33 rfl rfl (r_get hX kf_X4_13 14 rfl rfl dX4_houseTold_34 ?_)))))))
    refine r_iload_n hX dX4_houseTold_37 rfl rfl (r_laldZ hX 16 1 rfl rfl 0 (by decide) (by decide) (by decide) dX4_houseTold_38 (r_lif_geZ (tgt := 46) hX dX4_houseTold_39 dX4_houseTold_40 (by decide) (by first | with_reducible assumption | decide | omega) (by first | with_reducible assumption | decide | omega) (fun c44 => ?_) (fun c44 => ?_)))
    · refine r_iincZ (z := 1) (y := 2) hX dX4_houseTold_46 rfl (by decide) rfl rfl (r_goto (tgt := 7) hX dX4_houseTold_49 (by decide) (r_iload hX dX4_houseTold_7 rfl (r_iconstZ hX dX4_houseTold_9 (r_icmp_geZ (tgt := 52) hX dX4_houseTold_10 (by decide) (by decide) (by decide) (fun q => absurd q (by decide)) (fun _ => ?_)))))
      refine r_aload_n hX dX4_houseTold_13 rfl rfl (r_iload hX dX4_houseTold_14 rfl (r_iload_n hX dX4_houseTold_16 rfl rfl (r_callV hX (z_X4_ordered ad ae cs K S th rest hS _ 2 (by first | with_reducible assumption | decide | omega) (by first | with_reducible assumption | decide | omega) _ 1 (by first | with_reducible assumption | decide | omega) (by first | with_reducible assumption | decide | omega)) kv_X4_196 14 rfl rfl rfl rfl (Nat.le_of_ble_eq_true rfl) ⟨(Nat.le_of_ble_eq_true rfl), (Nat.le_of_ble_eq_true rfl)⟩ ⟨(Nat.le_of_ble_eq_true rfl), (Nat.le_of_ble_eq_true rfl)⟩ dX4_houseTold_17 (fun _ _ z => False.elim z) (fun v9 ws9 h45 => ?_))))
      obtain ⟨rfl, hw9⟩ := h45
      subst ws9
      dsimp only [mPush]
      have hto45 := zTo_b (sse S 2) (sna S 2) (sow S 2) (sse S 1) (sna S 1) (sow S 1)
      refine r_if_geZ (tgt := 26) hX dX4_houseTold_20 (by decide) (by first | with_reducible assumption | decide | omega) (fun c46 => ?_) (fun c46 => ?_)
      · refine r_aload_n hX dX4_houseTold_26 rfl rfl (r_get hX kf_X4_13 14 rfl rfl dX4_houseTold_27 (r_iload hX dX4_houseTold_30 rfl (r_laldZ hX 16 1 rfl rfl 2 (by decide) (by decide) (by decide) dX4_houseTold_32 (r_aload_n hX dX4_houseTold_33 rfl rfl (r_get hX kf_X4_13 14 rfl rfl dX4_houseTold_34 (r_iload_n hX dX4_houseTold_37 rfl rfl (r_laldZ hX 16 1 rfl rfl 0 (by decide) (by decide) (by decide) dX4_houseTold_38 ?_)))))))
        refine r_lif_geZ (tgt := 46) hX dX4_houseTold_39 dX4_houseTold_40 (by decide) (by first | with_reducible assumption | decide | omega) (by first | with_reducible assumption | decide | omega) (fun c47 => ?_) (fun c47 => ?_)
        · refine r_iincZ (z := 1) (y := 3) hX dX4_houseTold_46 rfl (by decide) rfl rfl (r_goto (tgt := 7) hX dX4_houseTold_49 (by decide) (r_iload hX dX4_houseTold_7 rfl (r_iconstZ hX dX4_houseTold_9 (r_icmp_geZ (tgt := 52) hX dX4_houseTold_10 (by decide) (by decide) (by decide) (fun q => absurd q (by decide)) (fun _ => ?_)))))
          refine r_aload_n hX dX4_houseTold_13 rfl rfl (r_iload hX dX4_houseTold_14 rfl (r_iload_n hX dX4_houseTold_16 rfl rfl (r_callV hX (z_X4_ordered ad ae cs K S th rest hS _ 3 (by first | with_reducible assumption | decide | omega) (by first | with_reducible assumption | decide | omega) _ 1 (by first | with_reducible assumption | decide | omega) (by first | with_reducible assumption | decide | omega)) kv_X4_196 14 rfl rfl rfl rfl (Nat.le_of_ble_eq_true rfl) ⟨(Nat.le_of_ble_eq_true rfl), (Nat.le_of_ble_eq_true rfl)⟩ ⟨(Nat.le_of_ble_eq_true rfl), (Nat.le_of_ble_eq_true rfl)⟩ dX4_houseTold_17 (fun _ _ z => False.elim z) (fun v9 ws9 h48 => ?_))))
          obtain ⟨rfl, hw9⟩ := h48
          subst ws9
          dsimp only [mPush]
          have hto48 := zTo_b (sse S 3) (sna S 3) (sow S 3) (sse S 1) (sna S 1) (sow S 1)
          refine r_if_geZ (tgt := 26) hX dX4_houseTold_20 (by decide) (by first | with_reducible assumption | decide | omega) (fun c49 => ?_) (fun c49 => ?_)
          · refine r_aload_n hX dX4_houseTold_26 rfl rfl (r_get hX kf_X4_13 14 rfl rfl dX4_houseTold_27 (r_iload hX dX4_houseTold_30 rfl (r_laldZ hX 16 1 rfl rfl 3 (by decide) (by decide) (by decide) dX4_houseTold_32 (r_aload_n hX dX4_houseTold_33 rfl rfl (r_get hX kf_X4_13 14 rfl rfl dX4_houseTold_34 (r_iload_n hX dX4_houseTold_37 rfl rfl (r_laldZ hX 16 1 rfl rfl 0 (by decide) (by decide) (by decide) dX4_houseTold_38 ?_)))))))
            refine r_lif_geZ (tgt := 46) hX dX4_houseTold_39 dX4_houseTold_40 (by decide) (by first | with_reducible assumption | decide | omega) (by first | with_reducible assumption | decide | omega) (fun c50 => ?_) (fun c50 => ?_)
            · refine r_iincZ (z := 1) (y := 4) hX dX4_houseTold_46 rfl (by decide) rfl rfl (r_goto (tgt := 7) hX dX4_houseTold_49 (by decide) (r_iload hX dX4_houseTold_7 rfl (r_iconstZ hX dX4_houseTold_9 (r_icmp_geZ (tgt := 52) hX dX4_houseTold_10 (by decide) (by decide) (by decide) (fun _ => ?_) (fun q => absurd (by decide) q)))))
              have ed : zFD S = 1 := zFst_1 (x := true) (a := 1) (y := false) (b := 1) (z := false) (decide_eq_true (by omega)) rfl (decide_eq_false (by omega)) rfl (decide_eq_false (by omega)) rfl
              have em : zFM S = 0 := zFst_1 (x := false) (a := 0) (y := false) (b := 0) (z := false) (decide_eq_false (by omega)) rfl (decide_eq_false (by omega)) rfl (decide_eq_false (by omega)) rfl
              exact r_loc (lv' := [(0, some (.ref (ae 0))), (1, some (.int (iZ w))), (2, some (.int (iZ 1))), (3, some (.int (iZ 0)))]) (by exact ⟨rfl, rfl, rfl, rfl, trivial⟩) (Nat.le_refl _) (Nat.le_refl _) (fin 1 0 (by rw [ed]; rfl) (by rw [em]; rfl))
            · refine r_iload hX dX4_houseTold_43 rfl (r_istore_n hX dX4_houseTold_45 rfl (by decide) rfl (r_iincZ (z := 1) (y := 4) hX dX4_houseTold_46 rfl (by decide) rfl rfl (r_goto (tgt := 7) hX dX4_houseTold_49 (by decide) (r_iload hX dX4_houseTold_7 rfl (r_iconstZ hX dX4_houseTold_9 (r_icmp_geZ (tgt := 52) hX dX4_houseTold_10 (by decide) (by decide) (by decide) (fun _ => ?_) (fun q => absurd (by decide) q)))))))
              have ed : zFD S = 1 := zFst_1 (x := true) (a := 1) (y := false) (b := 1) (z := false) (decide_eq_true (by omega)) rfl (decide_eq_false (by omega)) rfl (decide_eq_false (by omega)) rfl
              have em : zFM S = 3 := zFst_1 (x := false) (a := 0) (y := false) (b := 0) (z := true) (decide_eq_false (by omega)) rfl (decide_eq_false (by omega)) rfl (decide_eq_true (by omega)) rfl
              exact r_loc (lv' := [(0, some (.ref (ae 0))), (1, some (.int (iZ w))), (2, some (.int (iZ 1))), (3, some (.int (iZ 3)))]) (by exact ⟨rfl, rfl, rfl, rfl, trivial⟩) (Nat.le_refl _) (Nat.le_refl _) (fin 1 3 (by rw [ed]; rfl) (by rw [em]; rfl))
          · refine r_iload hX dX4_houseTold_23 rfl (r_istore_n hX dX4_houseTold_25 rfl (by decide) rfl (r_aload_n hX dX4_houseTold_26 rfl rfl (r_get hX kf_X4_13 14 rfl rfl dX4_houseTold_27 (r_iload hX dX4_houseTold_30 rfl (r_laldZ hX 16 1 rfl rfl 3 (by decide) (by decide) (by decide) dX4_houseTold_32 (r_aload_n hX dX4_houseTold_33 rfl rfl (r_get hX kf_X4_13 14 rfl rfl dX4_houseTold_34 ?_)))))))
            refine r_iload_n hX dX4_houseTold_37 rfl rfl (r_laldZ hX 16 1 rfl rfl 0 (by decide) (by decide) (by decide) dX4_houseTold_38 (r_lif_geZ (tgt := 46) hX dX4_houseTold_39 dX4_houseTold_40 (by decide) (by first | with_reducible assumption | decide | omega) (by first | with_reducible assumption | decide | omega) (fun c51 => ?_) (fun c51 => ?_)))
            · refine r_iincZ (z := 1) (y := 4) hX dX4_houseTold_46 rfl (by decide) rfl rfl (r_goto (tgt := 7) hX dX4_houseTold_49 (by decide) (r_iload hX dX4_houseTold_7 rfl (r_iconstZ hX dX4_houseTold_9 (r_icmp_geZ (tgt := 52) hX dX4_houseTold_10 (by decide) (by decide) (by decide) (fun _ => ?_) (fun q => absurd (by decide) q)))))
              have ed : zFD S = 3 := zFst_1 (x := true) (a := 1) (y := false) (b := 1) (z := true) (decide_eq_true (by omega)) rfl (decide_eq_false (by omega)) rfl (decide_eq_true (by omega)) rfl
              have em : zFM S = 0 := zFst_1 (x := false) (a := 0) (y := false) (b := 0) (z := false) (decide_eq_false (by omega)) rfl (decide_eq_false (by omega)) rfl (decide_eq_false (by omega)) rfl
              exact r_loc (lv' := [(0, some (.ref (ae 0))), (1, some (.int (iZ w))), (2, some (.int (iZ 3))), (3, some (.int (iZ 0)))]) (by exact ⟨rfl, rfl, rfl, rfl, trivial⟩) (Nat.le_refl _) (Nat.le_refl _) (fin 3 0 (by rw [ed]; rfl) (by rw [em]; rfl))
            · refine r_iload hX dX4_houseTold_43 rfl (r_istore_n hX dX4_houseTold_45 rfl (by decide) rfl (r_iincZ (z := 1) (y := 4) hX dX4_houseTold_46 rfl (by decide) rfl rfl (r_goto (tgt := 7) hX dX4_houseTold_49 (by decide) (r_iload hX dX4_houseTold_7 rfl (r_iconstZ hX dX4_houseTold_9 (r_icmp_geZ (tgt := 52) hX dX4_houseTold_10 (by decide) (by decide) (by decide) (fun _ => ?_) (fun q => absurd (by decide) q)))))))
              have ed : zFD S = 3 := zFst_1 (x := true) (a := 1) (y := false) (b := 1) (z := true) (decide_eq_true (by omega)) rfl (decide_eq_false (by omega)) rfl (decide_eq_true (by omega)) rfl
              have em : zFM S = 3 := zFst_1 (x := false) (a := 0) (y := false) (b := 0) (z := true) (decide_eq_false (by omega)) rfl (decide_eq_false (by omega)) rfl (decide_eq_true (by omega)) rfl
              exact r_loc (lv' := [(0, some (.ref (ae 0))), (1, some (.int (iZ w))), (2, some (.int (iZ 3))), (3, some (.int (iZ 3)))]) (by exact ⟨rfl, rfl, rfl, rfl, trivial⟩) (Nat.le_refl _) (Nat.le_refl _) (fin 3 3 (by rw [ed]; rfl) (by rw [em]; rfl))
        · refine r_iload hX dX4_houseTold_43 rfl (r_istore_n hX dX4_houseTold_45 rfl (by decide) rfl (r_iincZ (z := 1) (y := 3) hX dX4_houseTold_46 rfl (by decide) rfl rfl (r_goto (tgt := 7) hX dX4_houseTold_49 (by decide) (r_iload hX dX4_houseTold_7 rfl (r_iconstZ hX dX4_houseTold_9 (r_icmp_geZ (tgt := 52) hX dX4_houseTold_10 (by decide) (by decide) (by decide) (fun q => absurd q (by decide)) (fun _ => ?_)))))))
          refine r_aload_n hX dX4_houseTold_13 rfl rfl (r_iload hX dX4_houseTold_14 rfl (r_iload_n hX dX4_houseTold_16 rfl rfl (r_callV hX (z_X4_ordered ad ae cs K S th rest hS _ 3 (by first | with_reducible assumption | decide | omega) (by first | with_reducible assumption | decide | omega) _ 1 (by first | with_reducible assumption | decide | omega) (by first | with_reducible assumption | decide | omega)) kv_X4_196 14 rfl rfl rfl rfl (Nat.le_of_ble_eq_true rfl) ⟨(Nat.le_of_ble_eq_true rfl), (Nat.le_of_ble_eq_true rfl)⟩ ⟨(Nat.le_of_ble_eq_true rfl), (Nat.le_of_ble_eq_true rfl)⟩ dX4_houseTold_17 (fun _ _ z => False.elim z) (fun v9 ws9 h52 => ?_))))
          obtain ⟨rfl, hw9⟩ := h52
          subst ws9
          dsimp only [mPush]
          have hto52 := zTo_b (sse S 3) (sna S 3) (sow S 3) (sse S 1) (sna S 1) (sow S 1)
          refine r_if_geZ (tgt := 26) hX dX4_houseTold_20 (by decide) (by first | with_reducible assumption | decide | omega) (fun c53 => ?_) (fun c53 => ?_)
          · refine r_aload_n hX dX4_houseTold_26 rfl rfl (r_get hX kf_X4_13 14 rfl rfl dX4_houseTold_27 (r_iload hX dX4_houseTold_30 rfl (r_laldZ hX 16 1 rfl rfl 3 (by decide) (by decide) (by decide) dX4_houseTold_32 (r_aload_n hX dX4_houseTold_33 rfl rfl (r_get hX kf_X4_13 14 rfl rfl dX4_houseTold_34 (r_iload_n hX dX4_houseTold_37 rfl rfl (r_laldZ hX 16 1 rfl rfl 2 (by decide) (by decide) (by decide) dX4_houseTold_38 ?_)))))))
            refine r_lif_geZ (tgt := 46) hX dX4_houseTold_39 dX4_houseTold_40 (by decide) (by first | with_reducible assumption | decide | omega) (by first | with_reducible assumption | decide | omega) (fun c54 => ?_) (fun c54 => ?_)
            · refine r_iincZ (z := 1) (y := 4) hX dX4_houseTold_46 rfl (by decide) rfl rfl (r_goto (tgt := 7) hX dX4_houseTold_49 (by decide) (r_iload hX dX4_houseTold_7 rfl (r_iconstZ hX dX4_houseTold_9 (r_icmp_geZ (tgt := 52) hX dX4_houseTold_10 (by decide) (by decide) (by decide) (fun _ => ?_) (fun q => absurd (by decide) q)))))
              have ed : zFD S = 1 := zFst_1 (x := true) (a := 1) (y := false) (b := 1) (z := false) (decide_eq_true (by omega)) rfl (decide_eq_false (by omega)) rfl (decide_eq_false (by omega)) rfl
              have em : zFM S = 2 := zFst_1 (x := false) (a := 0) (y := true) (b := 2) (z := false) (decide_eq_false (by omega)) rfl (decide_eq_true (by omega)) rfl (decide_eq_false (by omega)) rfl
              exact r_loc (lv' := [(0, some (.ref (ae 0))), (1, some (.int (iZ w))), (2, some (.int (iZ 1))), (3, some (.int (iZ 2)))]) (by exact ⟨rfl, rfl, rfl, rfl, trivial⟩) (Nat.le_refl _) (Nat.le_refl _) (fin 1 2 (by rw [ed]; rfl) (by rw [em]; rfl))
            · refine r_iload hX dX4_houseTold_43 rfl (r_istore_n hX dX4_houseTold_45 rfl (by decide) rfl (r_iincZ (z := 1) (y := 4) hX dX4_houseTold_46 rfl (by decide) rfl rfl (r_goto (tgt := 7) hX dX4_houseTold_49 (by decide) (r_iload hX dX4_houseTold_7 rfl (r_iconstZ hX dX4_houseTold_9 (r_icmp_geZ (tgt := 52) hX dX4_houseTold_10 (by decide) (by decide) (by decide) (fun _ => ?_) (fun q => absurd (by decide) q)))))))
              have ed : zFD S = 1 := zFst_1 (x := true) (a := 1) (y := false) (b := 1) (z := false) (decide_eq_true (by omega)) rfl (decide_eq_false (by omega)) rfl (decide_eq_false (by omega)) rfl
              have em : zFM S = 3 := zFst_1 (x := false) (a := 0) (y := true) (b := 2) (z := true) (decide_eq_false (by omega)) rfl (decide_eq_true (by omega)) rfl (decide_eq_true (by omega)) rfl
              exact r_loc (lv' := [(0, some (.ref (ae 0))), (1, some (.int (iZ w))), (2, some (.int (iZ 1))), (3, some (.int (iZ 3)))]) (by exact ⟨rfl, rfl, rfl, rfl, trivial⟩) (Nat.le_refl _) (Nat.le_refl _) (fin 1 3 (by rw [ed]; rfl) (by rw [em]; rfl))
          · refine r_iload hX dX4_houseTold_23 rfl (r_istore_n hX dX4_houseTold_25 rfl (by decide) rfl (r_aload_n hX dX4_houseTold_26 rfl rfl (r_get hX kf_X4_13 14 rfl rfl dX4_houseTold_27 (r_iload hX dX4_houseTold_30 rfl (r_laldZ hX 16 1 rfl rfl 3 (by decide) (by decide) (by decide) dX4_houseTold_32 (r_aload_n hX dX4_houseTold_33 rfl rfl (r_get hX kf_X4_13 14 rfl rfl dX4_houseTold_34 ?_)))))))
            refine r_iload_n hX dX4_houseTold_37 rfl rfl (r_laldZ hX 16 1 rfl rfl 2 (by decide) (by decide) (by decide) dX4_houseTold_38 (r_lif_geZ (tgt := 46) hX dX4_houseTold_39 dX4_houseTold_40 (by decide) (by first | with_reducible assumption | decide | omega) (by first | with_reducible assumption | decide | omega) (fun c55 => ?_) (fun c55 => ?_)))
            · refine r_iincZ (z := 1) (y := 4) hX dX4_houseTold_46 rfl (by decide) rfl rfl (r_goto (tgt := 7) hX dX4_houseTold_49 (by decide) (r_iload hX dX4_houseTold_7 rfl (r_iconstZ hX dX4_houseTold_9 (r_icmp_geZ (tgt := 52) hX dX4_houseTold_10 (by decide) (by decide) (by decide) (fun _ => ?_) (fun q => absurd (by decide) q)))))
              have ed : zFD S = 3 := zFst_1 (x := true) (a := 1) (y := false) (b := 1) (z := true) (decide_eq_true (by omega)) rfl (decide_eq_false (by omega)) rfl (decide_eq_true (by omega)) rfl
              have em : zFM S = 2 := zFst_1 (x := false) (a := 0) (y := true) (b := 2) (z := false) (decide_eq_false (by omega)) rfl (decide_eq_true (by omega)) rfl (decide_eq_false (by omega)) rfl
              exact r_loc (lv' := [(0, some (.ref (ae 0))), (1, some (.int (iZ w))), (2, some (.int (iZ 3))), (3, some (.int (iZ 2)))]) (by exact ⟨rfl, rfl, rfl, rfl, trivial⟩) (Nat.le_refl _) (Nat.le_refl _) (fin 3 2 (by rw [ed]; rfl) (by rw [em]; rfl))
            · refine r_iload hX dX4_houseTold_43 rfl (r_istore_n hX dX4_houseTold_45 rfl (by decide) rfl (r_iincZ (z := 1) (y := 4) hX dX4_houseTold_46 rfl (by decide) rfl rfl (r_goto (tgt := 7) hX dX4_houseTold_49 (by decide) (r_iload hX dX4_houseTold_7 rfl (r_iconstZ hX dX4_houseTold_9 (r_icmp_geZ (tgt := 52) hX dX4_houseTold_10 (by decide) (by decide) (by decide) (fun _ => ?_) (fun q => absurd (by decide) q)))))))
              have ed : zFD S = 3 := zFst_1 (x := true) (a := 1) (y := false) (b := 1) (z := true) (decide_eq_true (by omega)) rfl (decide_eq_false (by omega)) rfl (decide_eq_true (by omega)) rfl
              have em : zFM S = 3 := zFst_1 (x := false) (a := 0) (y := true) (b := 2) (z := true) (decide_eq_false (by omega)) rfl (decide_eq_true (by omega)) rfl (decide_eq_true (by omega)) rfl
              exact r_loc (lv' := [(0, some (.ref (ae 0))), (1, some (.int (iZ w))), (2, some (.int (iZ 3))), (3, some (.int (iZ 3)))]) (by exact ⟨rfl, rfl, rfl, rfl, trivial⟩) (Nat.le_refl _) (Nat.le_refl _) (fin 3 3 (by rw [ed]; rfl) (by rw [em]; rfl))
      · refine r_iload hX dX4_houseTold_23 rfl (r_istore_n hX dX4_houseTold_25 rfl (by decide) rfl (r_aload_n hX dX4_houseTold_26 rfl rfl (r_get hX kf_X4_13 14 rfl rfl dX4_houseTold_27 (r_iload hX dX4_houseTold_30 rfl (r_laldZ hX 16 1 rfl rfl 2 (by decide) (by decide) (by decide) dX4_houseTold_32 (r_aload_n hX dX4_houseTold_33 rfl rfl (r_get hX kf_X4_13 14 rfl rfl dX4_houseTold_34 ?_)))))))
        refine r_iload_n hX dX4_houseTold_37 rfl rfl (r_laldZ hX 16 1 rfl rfl 0 (by decide) (by decide) (by decide) dX4_houseTold_38 (r_lif_geZ (tgt := 46) hX dX4_houseTold_39 dX4_houseTold_40 (by decide) (by first | with_reducible assumption | decide | omega) (by first | with_reducible assumption | decide | omega) (fun c56 => ?_) (fun c56 => ?_)))
        · refine r_iincZ (z := 1) (y := 3) hX dX4_houseTold_46 rfl (by decide) rfl rfl (r_goto (tgt := 7) hX dX4_houseTold_49 (by decide) (r_iload hX dX4_houseTold_7 rfl (r_iconstZ hX dX4_houseTold_9 (r_icmp_geZ (tgt := 52) hX dX4_houseTold_10 (by decide) (by decide) (by decide) (fun q => absurd q (by decide)) (fun _ => ?_)))))
          refine r_aload_n hX dX4_houseTold_13 rfl rfl (r_iload hX dX4_houseTold_14 rfl (r_iload_n hX dX4_houseTold_16 rfl rfl (r_callV hX (z_X4_ordered ad ae cs K S th rest hS _ 3 (by first | with_reducible assumption | decide | omega) (by first | with_reducible assumption | decide | omega) _ 2 (by first | with_reducible assumption | decide | omega) (by first | with_reducible assumption | decide | omega)) kv_X4_196 14 rfl rfl rfl rfl (Nat.le_of_ble_eq_true rfl) ⟨(Nat.le_of_ble_eq_true rfl), (Nat.le_of_ble_eq_true rfl)⟩ ⟨(Nat.le_of_ble_eq_true rfl), (Nat.le_of_ble_eq_true rfl)⟩ dX4_houseTold_17 (fun _ _ z => False.elim z) (fun v9 ws9 h57 => ?_))))
          obtain ⟨rfl, hw9⟩ := h57
          subst ws9
          dsimp only [mPush]
          have hto57 := zTo_b (sse S 3) (sna S 3) (sow S 3) (sse S 2) (sna S 2) (sow S 2)
          refine r_if_geZ (tgt := 26) hX dX4_houseTold_20 (by decide) (by first | with_reducible assumption | decide | omega) (fun c58 => ?_) (fun c58 => ?_)
          · refine r_aload_n hX dX4_houseTold_26 rfl rfl (r_get hX kf_X4_13 14 rfl rfl dX4_houseTold_27 (r_iload hX dX4_houseTold_30 rfl (r_laldZ hX 16 1 rfl rfl 3 (by decide) (by decide) (by decide) dX4_houseTold_32 (r_aload_n hX dX4_houseTold_33 rfl rfl (r_get hX kf_X4_13 14 rfl rfl dX4_houseTold_34 (r_iload_n hX dX4_houseTold_37 rfl rfl (r_laldZ hX 16 1 rfl rfl 0 (by decide) (by decide) (by decide) dX4_houseTold_38 ?_)))))))
            refine r_lif_geZ (tgt := 46) hX dX4_houseTold_39 dX4_houseTold_40 (by decide) (by first | with_reducible assumption | decide | omega) (by first | with_reducible assumption | decide | omega) (fun c59 => ?_) (fun c59 => ?_)
            · refine r_iincZ (z := 1) (y := 4) hX dX4_houseTold_46 rfl (by decide) rfl rfl (r_goto (tgt := 7) hX dX4_houseTold_49 (by decide) (r_iload hX dX4_houseTold_7 rfl (r_iconstZ hX dX4_houseTold_9 (r_icmp_geZ (tgt := 52) hX dX4_houseTold_10 (by decide) (by decide) (by decide) (fun _ => ?_) (fun q => absurd (by decide) q)))))
              have ed : zFD S = 2 := zFst_1 (x := true) (a := 1) (y := true) (b := 2) (z := false) (decide_eq_true (by omega)) rfl (decide_eq_true (by omega)) rfl (decide_eq_false (by omega)) rfl
              have em : zFM S = 0 := zFst_1 (x := false) (a := 0) (y := false) (b := 0) (z := false) (decide_eq_false (by omega)) rfl (decide_eq_false (by omega)) rfl (decide_eq_false (by omega)) rfl
              exact r_loc (lv' := [(0, some (.ref (ae 0))), (1, some (.int (iZ w))), (2, some (.int (iZ 2))), (3, some (.int (iZ 0)))]) (by exact ⟨rfl, rfl, rfl, rfl, trivial⟩) (Nat.le_refl _) (Nat.le_refl _) (fin 2 0 (by rw [ed]; rfl) (by rw [em]; rfl))
            · refine r_iload hX dX4_houseTold_43 rfl (r_istore_n hX dX4_houseTold_45 rfl (by decide) rfl (r_iincZ (z := 1) (y := 4) hX dX4_houseTold_46 rfl (by decide) rfl rfl (r_goto (tgt := 7) hX dX4_houseTold_49 (by decide) (r_iload hX dX4_houseTold_7 rfl (r_iconstZ hX dX4_houseTold_9 (r_icmp_geZ (tgt := 52) hX dX4_houseTold_10 (by decide) (by decide) (by decide) (fun _ => ?_) (fun q => absurd (by decide) q)))))))
              have ed : zFD S = 2 := zFst_1 (x := true) (a := 1) (y := true) (b := 2) (z := false) (decide_eq_true (by omega)) rfl (decide_eq_true (by omega)) rfl (decide_eq_false (by omega)) rfl
              have em : zFM S = 3 := zFst_1 (x := false) (a := 0) (y := false) (b := 0) (z := true) (decide_eq_false (by omega)) rfl (decide_eq_false (by omega)) rfl (decide_eq_true (by omega)) rfl
              exact r_loc (lv' := [(0, some (.ref (ae 0))), (1, some (.int (iZ w))), (2, some (.int (iZ 2))), (3, some (.int (iZ 3)))]) (by exact ⟨rfl, rfl, rfl, rfl, trivial⟩) (Nat.le_refl _) (Nat.le_refl _) (fin 2 3 (by rw [ed]; rfl) (by rw [em]; rfl))
          · refine r_iload hX dX4_houseTold_23 rfl (r_istore_n hX dX4_houseTold_25 rfl (by decide) rfl (r_aload_n hX dX4_houseTold_26 rfl rfl (r_get hX kf_X4_13 14 rfl rfl dX4_houseTold_27 (r_iload hX dX4_houseTold_30 rfl (r_laldZ hX 16 1 rfl rfl 3 (by decide) (by decide) (by decide) dX4_houseTold_32 (r_aload_n hX dX4_houseTold_33 rfl rfl (r_get hX kf_X4_13 14 rfl rfl dX4_houseTold_34 ?_)))))))
            refine r_iload_n hX dX4_houseTold_37 rfl rfl (r_laldZ hX 16 1 rfl rfl 0 (by decide) (by decide) (by decide) dX4_houseTold_38 (r_lif_geZ (tgt := 46) hX dX4_houseTold_39 dX4_houseTold_40 (by decide) (by first | with_reducible assumption | decide | omega) (by first | with_reducible assumption | decide | omega) (fun c60 => ?_) (fun c60 => ?_)))
            · refine r_iincZ (z := 1) (y := 4) hX dX4_houseTold_46 rfl (by decide) rfl rfl (r_goto (tgt := 7) hX dX4_houseTold_49 (by decide) (r_iload hX dX4_houseTold_7 rfl (r_iconstZ hX dX4_houseTold_9 (r_icmp_geZ (tgt := 52) hX dX4_houseTold_10 (by decide) (by decide) (by decide) (fun _ => ?_) (fun q => absurd (by decide) q)))))
              have ed : zFD S = 3 := zFst_1 (x := true) (a := 1) (y := true) (b := 2) (z := true) (decide_eq_true (by omega)) rfl (decide_eq_true (by omega)) rfl (decide_eq_true (by omega)) rfl
              have em : zFM S = 0 := zFst_1 (x := false) (a := 0) (y := false) (b := 0) (z := false) (decide_eq_false (by omega)) rfl (decide_eq_false (by omega)) rfl (decide_eq_false (by omega)) rfl
              exact r_loc (lv' := [(0, some (.ref (ae 0))), (1, some (.int (iZ w))), (2, some (.int (iZ 3))), (3, some (.int (iZ 0)))]) (by exact ⟨rfl, rfl, rfl, rfl, trivial⟩) (Nat.le_refl _) (Nat.le_refl _) (fin 3 0 (by rw [ed]; rfl) (by rw [em]; rfl))
            · refine r_iload hX dX4_houseTold_43 rfl (r_istore_n hX dX4_houseTold_45 rfl (by decide) rfl (r_iincZ (z := 1) (y := 4) hX dX4_houseTold_46 rfl (by decide) rfl rfl (r_goto (tgt := 7) hX dX4_houseTold_49 (by decide) (r_iload hX dX4_houseTold_7 rfl (r_iconstZ hX dX4_houseTold_9 (r_icmp_geZ (tgt := 52) hX dX4_houseTold_10 (by decide) (by decide) (by decide) (fun _ => ?_) (fun q => absurd (by decide) q)))))))
              have ed : zFD S = 3 := zFst_1 (x := true) (a := 1) (y := true) (b := 2) (z := true) (decide_eq_true (by omega)) rfl (decide_eq_true (by omega)) rfl (decide_eq_true (by omega)) rfl
              have em : zFM S = 3 := zFst_1 (x := false) (a := 0) (y := false) (b := 0) (z := true) (decide_eq_false (by omega)) rfl (decide_eq_false (by omega)) rfl (decide_eq_true (by omega)) rfl
              exact r_loc (lv' := [(0, some (.ref (ae 0))), (1, some (.int (iZ w))), (2, some (.int (iZ 3))), (3, some (.int (iZ 3)))]) (by exact ⟨rfl, rfl, rfl, rfl, trivial⟩) (Nat.le_refl _) (Nat.le_refl _) (fin 3 3 (by rw [ed]; rfl) (by rw [em]; rfl))
        · refine r_iload hX dX4_houseTold_43 rfl (r_istore_n hX dX4_houseTold_45 rfl (by decide) rfl (r_iincZ (z := 1) (y := 3) hX dX4_houseTold_46 rfl (by decide) rfl rfl (r_goto (tgt := 7) hX dX4_houseTold_49 (by decide) (r_iload hX dX4_houseTold_7 rfl (r_iconstZ hX dX4_houseTold_9 (r_icmp_geZ (tgt := 52) hX dX4_houseTold_10 (by decide) (by decide) (by decide) (fun q => absurd q (by decide)) (fun _ => ?_)))))))
          refine r_aload_n hX dX4_houseTold_13 rfl rfl (r_iload hX dX4_houseTold_14 rfl (r_iload_n hX dX4_houseTold_16 rfl rfl (r_callV hX (z_X4_ordered ad ae cs K S th rest hS _ 3 (by first | with_reducible assumption | decide | omega) (by first | with_reducible assumption | decide | omega) _ 2 (by first | with_reducible assumption | decide | omega) (by first | with_reducible assumption | decide | omega)) kv_X4_196 14 rfl rfl rfl rfl (Nat.le_of_ble_eq_true rfl) ⟨(Nat.le_of_ble_eq_true rfl), (Nat.le_of_ble_eq_true rfl)⟩ ⟨(Nat.le_of_ble_eq_true rfl), (Nat.le_of_ble_eq_true rfl)⟩ dX4_houseTold_17 (fun _ _ z => False.elim z) (fun v9 ws9 h61 => ?_))))
          obtain ⟨rfl, hw9⟩ := h61
          subst ws9
          dsimp only [mPush]
          have hto61 := zTo_b (sse S 3) (sna S 3) (sow S 3) (sse S 2) (sna S 2) (sow S 2)
          refine r_if_geZ (tgt := 26) hX dX4_houseTold_20 (by decide) (by first | with_reducible assumption | decide | omega) (fun c62 => ?_) (fun c62 => ?_)
          · refine r_aload_n hX dX4_houseTold_26 rfl rfl (r_get hX kf_X4_13 14 rfl rfl dX4_houseTold_27 (r_iload hX dX4_houseTold_30 rfl (r_laldZ hX 16 1 rfl rfl 3 (by decide) (by decide) (by decide) dX4_houseTold_32 (r_aload_n hX dX4_houseTold_33 rfl rfl (r_get hX kf_X4_13 14 rfl rfl dX4_houseTold_34 (r_iload_n hX dX4_houseTold_37 rfl rfl (r_laldZ hX 16 1 rfl rfl 2 (by decide) (by decide) (by decide) dX4_houseTold_38 ?_)))))))
            refine r_lif_geZ (tgt := 46) hX dX4_houseTold_39 dX4_houseTold_40 (by decide) (by first | with_reducible assumption | decide | omega) (by first | with_reducible assumption | decide | omega) (fun c63 => ?_) (fun c63 => ?_)
            · refine r_iincZ (z := 1) (y := 4) hX dX4_houseTold_46 rfl (by decide) rfl rfl (r_goto (tgt := 7) hX dX4_houseTold_49 (by decide) (r_iload hX dX4_houseTold_7 rfl (r_iconstZ hX dX4_houseTold_9 (r_icmp_geZ (tgt := 52) hX dX4_houseTold_10 (by decide) (by decide) (by decide) (fun _ => ?_) (fun q => absurd (by decide) q)))))
              have ed : zFD S = 2 := zFst_1 (x := true) (a := 1) (y := true) (b := 2) (z := false) (decide_eq_true (by omega)) rfl (decide_eq_true (by omega)) rfl (decide_eq_false (by omega)) rfl
              have em : zFM S = 2 := zFst_1 (x := false) (a := 0) (y := true) (b := 2) (z := false) (decide_eq_false (by omega)) rfl (decide_eq_true (by omega)) rfl (decide_eq_false (by omega)) rfl
              exact r_loc (lv' := [(0, some (.ref (ae 0))), (1, some (.int (iZ w))), (2, some (.int (iZ 2))), (3, some (.int (iZ 2)))]) (by exact ⟨rfl, rfl, rfl, rfl, trivial⟩) (Nat.le_refl _) (Nat.le_refl _) (fin 2 2 (by rw [ed]; rfl) (by rw [em]; rfl))
            · refine r_iload hX dX4_houseTold_43 rfl (r_istore_n hX dX4_houseTold_45 rfl (by decide) rfl (r_iincZ (z := 1) (y := 4) hX dX4_houseTold_46 rfl (by decide) rfl rfl (r_goto (tgt := 7) hX dX4_houseTold_49 (by decide) (r_iload hX dX4_houseTold_7 rfl (r_iconstZ hX dX4_houseTold_9 (r_icmp_geZ (tgt := 52) hX dX4_houseTold_10 (by decide) (by decide) (by decide) (fun _ => ?_) (fun q => absurd (by decide) q)))))))
              have ed : zFD S = 2 := zFst_1 (x := true) (a := 1) (y := true) (b := 2) (z := false) (decide_eq_true (by omega)) rfl (decide_eq_true (by omega)) rfl (decide_eq_false (by omega)) rfl
              have em : zFM S = 3 := zFst_1 (x := false) (a := 0) (y := true) (b := 2) (z := true) (decide_eq_false (by omega)) rfl (decide_eq_true (by omega)) rfl (decide_eq_true (by omega)) rfl
              exact r_loc (lv' := [(0, some (.ref (ae 0))), (1, some (.int (iZ w))), (2, some (.int (iZ 2))), (3, some (.int (iZ 3)))]) (by exact ⟨rfl, rfl, rfl, rfl, trivial⟩) (Nat.le_refl _) (Nat.le_refl _) (fin 2 3 (by rw [ed]; rfl) (by rw [em]; rfl))
          · refine r_iload hX dX4_houseTold_23 rfl (r_istore_n hX dX4_houseTold_25 rfl (by decide) rfl (r_aload_n hX dX4_houseTold_26 rfl rfl (r_get hX kf_X4_13 14 rfl rfl dX4_houseTold_27 (r_iload hX dX4_houseTold_30 rfl (r_laldZ hX 16 1 rfl rfl 3 (by decide) (by decide) (by decide) dX4_houseTold_32 (r_aload_n hX dX4_houseTold_33 rfl rfl (r_get hX kf_X4_13 14 rfl rfl dX4_houseTold_34 ?_)))))))
            refine r_iload_n hX dX4_houseTold_37 rfl rfl (r_laldZ hX 16 1 rfl rfl 2 (by decide) (by decide) (by decide) dX4_houseTold_38 (r_lif_geZ (tgt := 46) hX dX4_houseTold_39 dX4_houseTold_40 (by decide) (by first | with_reducible assumption | decide | omega) (by first | with_reducible assumption | decide | omega) (fun c64 => ?_) (fun c64 => ?_)))
            · refine r_iincZ (z := 1) (y := 4) hX dX4_houseTold_46 rfl (by decide) rfl rfl (r_goto (tgt := 7) hX dX4_houseTold_49 (by decide) (r_iload hX dX4_houseTold_7 rfl (r_iconstZ hX dX4_houseTold_9 (r_icmp_geZ (tgt := 52) hX dX4_houseTold_10 (by decide) (by decide) (by decide) (fun _ => ?_) (fun q => absurd (by decide) q)))))
              have ed : zFD S = 3 := zFst_1 (x := true) (a := 1) (y := true) (b := 2) (z := true) (decide_eq_true (by omega)) rfl (decide_eq_true (by omega)) rfl (decide_eq_true (by omega)) rfl
              have em : zFM S = 2 := zFst_1 (x := false) (a := 0) (y := true) (b := 2) (z := false) (decide_eq_false (by omega)) rfl (decide_eq_true (by omega)) rfl (decide_eq_false (by omega)) rfl
              exact r_loc (lv' := [(0, some (.ref (ae 0))), (1, some (.int (iZ w))), (2, some (.int (iZ 3))), (3, some (.int (iZ 2)))]) (by exact ⟨rfl, rfl, rfl, rfl, trivial⟩) (Nat.le_refl _) (Nat.le_refl _) (fin 3 2 (by rw [ed]; rfl) (by rw [em]; rfl))
            · refine r_iload hX dX4_houseTold_43 rfl (r_istore_n hX dX4_houseTold_45 rfl (by decide) rfl (r_iincZ (z := 1) (y := 4) hX dX4_houseTold_46 rfl (by decide) rfl rfl (r_goto (tgt := 7) hX dX4_houseTold_49 (by decide) (r_iload hX dX4_houseTold_7 rfl (r_iconstZ hX dX4_houseTold_9 (r_icmp_geZ (tgt := 52) hX dX4_houseTold_10 (by decide) (by decide) (by decide) (fun _ => ?_) (fun q => absurd (by decide) q)))))))
              have ed : zFD S = 3 := zFst_1 (x := true) (a := 1) (y := true) (b := 2) (z := true) (decide_eq_true (by omega)) rfl (decide_eq_true (by omega)) rfl (decide_eq_true (by omega)) rfl
              have em : zFM S = 3 := zFst_1 (x := false) (a := 0) (y := true) (b := 2) (z := true) (decide_eq_false (by omega)) rfl (decide_eq_true (by omega)) rfl (decide_eq_true (by omega)) rfl
              exact r_loc (lv' := [(0, some (.ref (ae 0))), (1, some (.int (iZ w))), (2, some (.int (iZ 3))), (3, some (.int (iZ 3)))]) (by exact ⟨rfl, rfl, rfl, rfl, trivial⟩) (Nat.le_refl _) (Nat.le_refl _) (fin 3 3 (by rw [ed]; rfl) (by rw [em]; rfl))
    · refine r_iload hX dX4_houseTold_43 rfl (r_istore_n hX dX4_houseTold_45 rfl (by decide) rfl (r_iincZ (z := 1) (y := 2) hX dX4_houseTold_46 rfl (by decide) rfl rfl (r_goto (tgt := 7) hX dX4_houseTold_49 (by decide) (r_iload hX dX4_houseTold_7 rfl (r_iconstZ hX dX4_houseTold_9 (r_icmp_geZ (tgt := 52) hX dX4_houseTold_10 (by decide) (by decide) (by decide) (fun q => absurd q (by decide)) (fun _ => ?_)))))))
      refine r_aload_n hX dX4_houseTold_13 rfl rfl (r_iload hX dX4_houseTold_14 rfl (r_iload_n hX dX4_houseTold_16 rfl rfl (r_callV hX (z_X4_ordered ad ae cs K S th rest hS _ 2 (by first | with_reducible assumption | decide | omega) (by first | with_reducible assumption | decide | omega) _ 1 (by first | with_reducible assumption | decide | omega) (by first | with_reducible assumption | decide | omega)) kv_X4_196 14 rfl rfl rfl rfl (Nat.le_of_ble_eq_true rfl) ⟨(Nat.le_of_ble_eq_true rfl), (Nat.le_of_ble_eq_true rfl)⟩ ⟨(Nat.le_of_ble_eq_true rfl), (Nat.le_of_ble_eq_true rfl)⟩ dX4_houseTold_17 (fun _ _ z => False.elim z) (fun v9 ws9 h65 => ?_))))
      obtain ⟨rfl, hw9⟩ := h65
      subst ws9
      dsimp only [mPush]
      have hto65 := zTo_b (sse S 2) (sna S 2) (sow S 2) (sse S 1) (sna S 1) (sow S 1)
      refine r_if_geZ (tgt := 26) hX dX4_houseTold_20 (by decide) (by first | with_reducible assumption | decide | omega) (fun c66 => ?_) (fun c66 => ?_)
      · refine r_aload_n hX dX4_houseTold_26 rfl rfl (r_get hX kf_X4_13 14 rfl rfl dX4_houseTold_27 (r_iload hX dX4_houseTold_30 rfl (r_laldZ hX 16 1 rfl rfl 2 (by decide) (by decide) (by decide) dX4_houseTold_32 (r_aload_n hX dX4_houseTold_33 rfl rfl (r_get hX kf_X4_13 14 rfl rfl dX4_houseTold_34 (r_iload_n hX dX4_houseTold_37 rfl rfl (r_laldZ hX 16 1 rfl rfl 1 (by decide) (by decide) (by decide) dX4_houseTold_38 ?_)))))))
        refine r_lif_geZ (tgt := 46) hX dX4_houseTold_39 dX4_houseTold_40 (by decide) (by first | with_reducible assumption | decide | omega) (by first | with_reducible assumption | decide | omega) (fun c67 => ?_) (fun c67 => ?_)
        · refine r_iincZ (z := 1) (y := 3) hX dX4_houseTold_46 rfl (by decide) rfl rfl (r_goto (tgt := 7) hX dX4_houseTold_49 (by decide) (r_iload hX dX4_houseTold_7 rfl (r_iconstZ hX dX4_houseTold_9 (r_icmp_geZ (tgt := 52) hX dX4_houseTold_10 (by decide) (by decide) (by decide) (fun q => absurd q (by decide)) (fun _ => ?_)))))
          refine r_aload_n hX dX4_houseTold_13 rfl rfl (r_iload hX dX4_houseTold_14 rfl (r_iload_n hX dX4_houseTold_16 rfl rfl (r_callV hX (z_X4_ordered ad ae cs K S th rest hS _ 3 (by first | with_reducible assumption | decide | omega) (by first | with_reducible assumption | decide | omega) _ 1 (by first | with_reducible assumption | decide | omega) (by first | with_reducible assumption | decide | omega)) kv_X4_196 14 rfl rfl rfl rfl (Nat.le_of_ble_eq_true rfl) ⟨(Nat.le_of_ble_eq_true rfl), (Nat.le_of_ble_eq_true rfl)⟩ ⟨(Nat.le_of_ble_eq_true rfl), (Nat.le_of_ble_eq_true rfl)⟩ dX4_houseTold_17 (fun _ _ z => False.elim z) (fun v9 ws9 h68 => ?_))))
          obtain ⟨rfl, hw9⟩ := h68
          subst ws9
          dsimp only [mPush]
          have hto68 := zTo_b (sse S 3) (sna S 3) (sow S 3) (sse S 1) (sna S 1) (sow S 1)
          refine r_if_geZ (tgt := 26) hX dX4_houseTold_20 (by decide) (by first | with_reducible assumption | decide | omega) (fun c69 => ?_) (fun c69 => ?_)
          · refine r_aload_n hX dX4_houseTold_26 rfl rfl (r_get hX kf_X4_13 14 rfl rfl dX4_houseTold_27 (r_iload hX dX4_houseTold_30 rfl (r_laldZ hX 16 1 rfl rfl 3 (by decide) (by decide) (by decide) dX4_houseTold_32 (r_aload_n hX dX4_houseTold_33 rfl rfl (r_get hX kf_X4_13 14 rfl rfl dX4_houseTold_34 (r_iload_n hX dX4_houseTold_37 rfl rfl (r_laldZ hX 16 1 rfl rfl 1 (by decide) (by decide) (by decide) dX4_houseTold_38 ?_)))))))
            refine r_lif_geZ (tgt := 46) hX dX4_houseTold_39 dX4_houseTold_40 (by decide) (by first | with_reducible assumption | decide | omega) (by first | with_reducible assumption | decide | omega) (fun c70 => ?_) (fun c70 => ?_)
            · refine r_iincZ (z := 1) (y := 4) hX dX4_houseTold_46 rfl (by decide) rfl rfl (r_goto (tgt := 7) hX dX4_houseTold_49 (by decide) (r_iload hX dX4_houseTold_7 rfl (r_iconstZ hX dX4_houseTold_9 (r_icmp_geZ (tgt := 52) hX dX4_houseTold_10 (by decide) (by decide) (by decide) (fun _ => ?_) (fun q => absurd (by decide) q)))))
              have ed : zFD S = 1 := zFst_1 (x := true) (a := 1) (y := false) (b := 1) (z := false) (decide_eq_true (by omega)) rfl (decide_eq_false (by omega)) rfl (decide_eq_false (by omega)) rfl
              have em : zFM S = 1 := zFst_1 (x := true) (a := 1) (y := false) (b := 1) (z := false) (decide_eq_true (by omega)) rfl (decide_eq_false (by omega)) rfl (decide_eq_false (by omega)) rfl
              exact r_loc (lv' := [(0, some (.ref (ae 0))), (1, some (.int (iZ w))), (2, some (.int (iZ 1))), (3, some (.int (iZ 1)))]) (by exact ⟨rfl, rfl, rfl, rfl, trivial⟩) (Nat.le_refl _) (Nat.le_refl _) (fin 1 1 (by rw [ed]; rfl) (by rw [em]; rfl))
            · refine r_iload hX dX4_houseTold_43 rfl (r_istore_n hX dX4_houseTold_45 rfl (by decide) rfl (r_iincZ (z := 1) (y := 4) hX dX4_houseTold_46 rfl (by decide) rfl rfl (r_goto (tgt := 7) hX dX4_houseTold_49 (by decide) (r_iload hX dX4_houseTold_7 rfl (r_iconstZ hX dX4_houseTold_9 (r_icmp_geZ (tgt := 52) hX dX4_houseTold_10 (by decide) (by decide) (by decide) (fun _ => ?_) (fun q => absurd (by decide) q)))))))
              have ed : zFD S = 1 := zFst_1 (x := true) (a := 1) (y := false) (b := 1) (z := false) (decide_eq_true (by omega)) rfl (decide_eq_false (by omega)) rfl (decide_eq_false (by omega)) rfl
              have em : zFM S = 3 := zFst_1 (x := true) (a := 1) (y := false) (b := 1) (z := true) (decide_eq_true (by omega)) rfl (decide_eq_false (by omega)) rfl (decide_eq_true (by omega)) rfl
              exact r_loc (lv' := [(0, some (.ref (ae 0))), (1, some (.int (iZ w))), (2, some (.int (iZ 1))), (3, some (.int (iZ 3)))]) (by exact ⟨rfl, rfl, rfl, rfl, trivial⟩) (Nat.le_refl _) (Nat.le_refl _) (fin 1 3 (by rw [ed]; rfl) (by rw [em]; rfl))
          · refine r_iload hX dX4_houseTold_23 rfl (r_istore_n hX dX4_houseTold_25 rfl (by decide) rfl (r_aload_n hX dX4_houseTold_26 rfl rfl (r_get hX kf_X4_13 14 rfl rfl dX4_houseTold_27 (r_iload hX dX4_houseTold_30 rfl (r_laldZ hX 16 1 rfl rfl 3 (by decide) (by decide) (by decide) dX4_houseTold_32 (r_aload_n hX dX4_houseTold_33 rfl rfl (r_get hX kf_X4_13 14 rfl rfl dX4_houseTold_34 ?_)))))))
            refine r_iload_n hX dX4_houseTold_37 rfl rfl (r_laldZ hX 16 1 rfl rfl 1 (by decide) (by decide) (by decide) dX4_houseTold_38 (r_lif_geZ (tgt := 46) hX dX4_houseTold_39 dX4_houseTold_40 (by decide) (by first | with_reducible assumption | decide | omega) (by first | with_reducible assumption | decide | omega) (fun c71 => ?_) (fun c71 => ?_)))
            · refine r_iincZ (z := 1) (y := 4) hX dX4_houseTold_46 rfl (by decide) rfl rfl (r_goto (tgt := 7) hX dX4_houseTold_49 (by decide) (r_iload hX dX4_houseTold_7 rfl (r_iconstZ hX dX4_houseTold_9 (r_icmp_geZ (tgt := 52) hX dX4_houseTold_10 (by decide) (by decide) (by decide) (fun _ => ?_) (fun q => absurd (by decide) q)))))
              have ed : zFD S = 3 := zFst_1 (x := true) (a := 1) (y := false) (b := 1) (z := true) (decide_eq_true (by omega)) rfl (decide_eq_false (by omega)) rfl (decide_eq_true (by omega)) rfl
              have em : zFM S = 1 := zFst_1 (x := true) (a := 1) (y := false) (b := 1) (z := false) (decide_eq_true (by omega)) rfl (decide_eq_false (by omega)) rfl (decide_eq_false (by omega)) rfl
              exact r_loc (lv' := [(0, some (.ref (ae 0))), (1, some (.int (iZ w))), (2, some (.int (iZ 3))), (3, some (.int (iZ 1)))]) (by exact ⟨rfl, rfl, rfl, rfl, trivial⟩) (Nat.le_refl _) (Nat.le_refl _) (fin 3 1 (by rw [ed]; rfl) (by rw [em]; rfl))
            · refine r_iload hX dX4_houseTold_43 rfl (r_istore_n hX dX4_houseTold_45 rfl (by decide) rfl (r_iincZ (z := 1) (y := 4) hX dX4_houseTold_46 rfl (by decide) rfl rfl (r_goto (tgt := 7) hX dX4_houseTold_49 (by decide) (r_iload hX dX4_houseTold_7 rfl (r_iconstZ hX dX4_houseTold_9 (r_icmp_geZ (tgt := 52) hX dX4_houseTold_10 (by decide) (by decide) (by decide) (fun _ => ?_) (fun q => absurd (by decide) q)))))))
              have ed : zFD S = 3 := zFst_1 (x := true) (a := 1) (y := false) (b := 1) (z := true) (decide_eq_true (by omega)) rfl (decide_eq_false (by omega)) rfl (decide_eq_true (by omega)) rfl
              have em : zFM S = 3 := zFst_1 (x := true) (a := 1) (y := false) (b := 1) (z := true) (decide_eq_true (by omega)) rfl (decide_eq_false (by omega)) rfl (decide_eq_true (by omega)) rfl
              exact r_loc (lv' := [(0, some (.ref (ae 0))), (1, some (.int (iZ w))), (2, some (.int (iZ 3))), (3, some (.int (iZ 3)))]) (by exact ⟨rfl, rfl, rfl, rfl, trivial⟩) (Nat.le_refl _) (Nat.le_refl _) (fin 3 3 (by rw [ed]; rfl) (by rw [em]; rfl))
        · refine r_iload hX dX4_houseTold_43 rfl (r_istore_n hX dX4_houseTold_45 rfl (by decide) rfl (r_iincZ (z := 1) (y := 3) hX dX4_houseTold_46 rfl (by decide) rfl rfl (r_goto (tgt := 7) hX dX4_houseTold_49 (by decide) (r_iload hX dX4_houseTold_7 rfl (r_iconstZ hX dX4_houseTold_9 (r_icmp_geZ (tgt := 52) hX dX4_houseTold_10 (by decide) (by decide) (by decide) (fun q => absurd q (by decide)) (fun _ => ?_)))))))
          refine r_aload_n hX dX4_houseTold_13 rfl rfl (r_iload hX dX4_houseTold_14 rfl (r_iload_n hX dX4_houseTold_16 rfl rfl (r_callV hX (z_X4_ordered ad ae cs K S th rest hS _ 3 (by first | with_reducible assumption | decide | omega) (by first | with_reducible assumption | decide | omega) _ 1 (by first | with_reducible assumption | decide | omega) (by first | with_reducible assumption | decide | omega)) kv_X4_196 14 rfl rfl rfl rfl (Nat.le_of_ble_eq_true rfl) ⟨(Nat.le_of_ble_eq_true rfl), (Nat.le_of_ble_eq_true rfl)⟩ ⟨(Nat.le_of_ble_eq_true rfl), (Nat.le_of_ble_eq_true rfl)⟩ dX4_houseTold_17 (fun _ _ z => False.elim z) (fun v9 ws9 h72 => ?_))))
          obtain ⟨rfl, hw9⟩ := h72
          subst ws9
          dsimp only [mPush]
          have hto72 := zTo_b (sse S 3) (sna S 3) (sow S 3) (sse S 1) (sna S 1) (sow S 1)
          refine r_if_geZ (tgt := 26) hX dX4_houseTold_20 (by decide) (by first | with_reducible assumption | decide | omega) (fun c73 => ?_) (fun c73 => ?_)
          · refine r_aload_n hX dX4_houseTold_26 rfl rfl (r_get hX kf_X4_13 14 rfl rfl dX4_houseTold_27 (r_iload hX dX4_houseTold_30 rfl (r_laldZ hX 16 1 rfl rfl 3 (by decide) (by decide) (by decide) dX4_houseTold_32 (r_aload_n hX dX4_houseTold_33 rfl rfl (r_get hX kf_X4_13 14 rfl rfl dX4_houseTold_34 (r_iload_n hX dX4_houseTold_37 rfl rfl (r_laldZ hX 16 1 rfl rfl 2 (by decide) (by decide) (by decide) dX4_houseTold_38 ?_)))))))
            refine r_lif_geZ (tgt := 46) hX dX4_houseTold_39 dX4_houseTold_40 (by decide) (by first | with_reducible assumption | decide | omega) (by first | with_reducible assumption | decide | omega) (fun c74 => ?_) (fun c74 => ?_)
            · refine r_iincZ (z := 1) (y := 4) hX dX4_houseTold_46 rfl (by decide) rfl rfl (r_goto (tgt := 7) hX dX4_houseTold_49 (by decide) (r_iload hX dX4_houseTold_7 rfl (r_iconstZ hX dX4_houseTold_9 (r_icmp_geZ (tgt := 52) hX dX4_houseTold_10 (by decide) (by decide) (by decide) (fun _ => ?_) (fun q => absurd (by decide) q)))))
              have ed : zFD S = 1 := zFst_1 (x := true) (a := 1) (y := false) (b := 1) (z := false) (decide_eq_true (by omega)) rfl (decide_eq_false (by omega)) rfl (decide_eq_false (by omega)) rfl
              have em : zFM S = 2 := zFst_1 (x := true) (a := 1) (y := true) (b := 2) (z := false) (decide_eq_true (by omega)) rfl (decide_eq_true (by omega)) rfl (decide_eq_false (by omega)) rfl
              exact r_loc (lv' := [(0, some (.ref (ae 0))), (1, some (.int (iZ w))), (2, some (.int (iZ 1))), (3, some (.int (iZ 2)))]) (by exact ⟨rfl, rfl, rfl, rfl, trivial⟩) (Nat.le_refl _) (Nat.le_refl _) (fin 1 2 (by rw [ed]; rfl) (by rw [em]; rfl))
            · refine r_iload hX dX4_houseTold_43 rfl (r_istore_n hX dX4_houseTold_45 rfl (by decide) rfl (r_iincZ (z := 1) (y := 4) hX dX4_houseTold_46 rfl (by decide) rfl rfl (r_goto (tgt := 7) hX dX4_houseTold_49 (by decide) (r_iload hX dX4_houseTold_7 rfl (r_iconstZ hX dX4_houseTold_9 (r_icmp_geZ (tgt := 52) hX dX4_houseTold_10 (by decide) (by decide) (by decide) (fun _ => ?_) (fun q => absurd (by decide) q)))))))
              have ed : zFD S = 1 := zFst_1 (x := true) (a := 1) (y := false) (b := 1) (z := false) (decide_eq_true (by omega)) rfl (decide_eq_false (by omega)) rfl (decide_eq_false (by omega)) rfl
              have em : zFM S = 3 := zFst_1 (x := true) (a := 1) (y := true) (b := 2) (z := true) (decide_eq_true (by omega)) rfl (decide_eq_true (by omega)) rfl (decide_eq_true (by omega)) rfl
              exact r_loc (lv' := [(0, some (.ref (ae 0))), (1, some (.int (iZ w))), (2, some (.int (iZ 1))), (3, some (.int (iZ 3)))]) (by exact ⟨rfl, rfl, rfl, rfl, trivial⟩) (Nat.le_refl _) (Nat.le_refl _) (fin 1 3 (by rw [ed]; rfl) (by rw [em]; rfl))
          · refine r_iload hX dX4_houseTold_23 rfl (r_istore_n hX dX4_houseTold_25 rfl (by decide) rfl (r_aload_n hX dX4_houseTold_26 rfl rfl (r_get hX kf_X4_13 14 rfl rfl dX4_houseTold_27 (r_iload hX dX4_houseTold_30 rfl (r_laldZ hX 16 1 rfl rfl 3 (by decide) (by decide) (by decide) dX4_houseTold_32 (r_aload_n hX dX4_houseTold_33 rfl rfl (r_get hX kf_X4_13 14 rfl rfl dX4_houseTold_34 ?_)))))))
            refine r_iload_n hX dX4_houseTold_37 rfl rfl (r_laldZ hX 16 1 rfl rfl 2 (by decide) (by decide) (by decide) dX4_houseTold_38 (r_lif_geZ (tgt := 46) hX dX4_houseTold_39 dX4_houseTold_40 (by decide) (by first | with_reducible assumption | decide | omega) (by first | with_reducible assumption | decide | omega) (fun c75 => ?_) (fun c75 => ?_)))
            · refine r_iincZ (z := 1) (y := 4) hX dX4_houseTold_46 rfl (by decide) rfl rfl (r_goto (tgt := 7) hX dX4_houseTold_49 (by decide) (r_iload hX dX4_houseTold_7 rfl (r_iconstZ hX dX4_houseTold_9 (r_icmp_geZ (tgt := 52) hX dX4_houseTold_10 (by decide) (by decide) (by decide) (fun _ => ?_) (fun q => absurd (by decide) q)))))
              have ed : zFD S = 3 := zFst_1 (x := true) (a := 1) (y := false) (b := 1) (z := true) (decide_eq_true (by omega)) rfl (decide_eq_false (by omega)) rfl (decide_eq_true (by omega)) rfl
              have em : zFM S = 2 := zFst_1 (x := true) (a := 1) (y := true) (b := 2) (z := false) (decide_eq_true (by omega)) rfl (decide_eq_true (by omega)) rfl (decide_eq_false (by omega)) rfl
              exact r_loc (lv' := [(0, some (.ref (ae 0))), (1, some (.int (iZ w))), (2, some (.int (iZ 3))), (3, some (.int (iZ 2)))]) (by exact ⟨rfl, rfl, rfl, rfl, trivial⟩) (Nat.le_refl _) (Nat.le_refl _) (fin 3 2 (by rw [ed]; rfl) (by rw [em]; rfl))
            · refine r_iload hX dX4_houseTold_43 rfl (r_istore_n hX dX4_houseTold_45 rfl (by decide) rfl (r_iincZ (z := 1) (y := 4) hX dX4_houseTold_46 rfl (by decide) rfl rfl (r_goto (tgt := 7) hX dX4_houseTold_49 (by decide) (r_iload hX dX4_houseTold_7 rfl (r_iconstZ hX dX4_houseTold_9 (r_icmp_geZ (tgt := 52) hX dX4_houseTold_10 (by decide) (by decide) (by decide) (fun _ => ?_) (fun q => absurd (by decide) q)))))))
              have ed : zFD S = 3 := zFst_1 (x := true) (a := 1) (y := false) (b := 1) (z := true) (decide_eq_true (by omega)) rfl (decide_eq_false (by omega)) rfl (decide_eq_true (by omega)) rfl
              have em : zFM S = 3 := zFst_1 (x := true) (a := 1) (y := true) (b := 2) (z := true) (decide_eq_true (by omega)) rfl (decide_eq_true (by omega)) rfl (decide_eq_true (by omega)) rfl
              exact r_loc (lv' := [(0, some (.ref (ae 0))), (1, some (.int (iZ w))), (2, some (.int (iZ 3))), (3, some (.int (iZ 3)))]) (by exact ⟨rfl, rfl, rfl, rfl, trivial⟩) (Nat.le_refl _) (Nat.le_refl _) (fin 3 3 (by rw [ed]; rfl) (by rw [em]; rfl))
      · refine r_iload hX dX4_houseTold_23 rfl (r_istore_n hX dX4_houseTold_25 rfl (by decide) rfl (r_aload_n hX dX4_houseTold_26 rfl rfl (r_get hX kf_X4_13 14 rfl rfl dX4_houseTold_27 (r_iload hX dX4_houseTold_30 rfl (r_laldZ hX 16 1 rfl rfl 2 (by decide) (by decide) (by decide) dX4_houseTold_32 (r_aload_n hX dX4_houseTold_33 rfl rfl (r_get hX kf_X4_13 14 rfl rfl dX4_houseTold_34 ?_)))))))
        refine r_iload_n hX dX4_houseTold_37 rfl rfl (r_laldZ hX 16 1 rfl rfl 1 (by decide) (by decide) (by decide) dX4_houseTold_38 (r_lif_geZ (tgt := 46) hX dX4_houseTold_39 dX4_houseTold_40 (by decide) (by first | with_reducible assumption | decide | omega) (by first | with_reducible assumption | decide | omega) (fun c76 => ?_) (fun c76 => ?_)))
        · refine r_iincZ (z := 1) (y := 3) hX dX4_houseTold_46 rfl (by decide) rfl rfl (r_goto (tgt := 7) hX dX4_houseTold_49 (by decide) (r_iload hX dX4_houseTold_7 rfl (r_iconstZ hX dX4_houseTold_9 (r_icmp_geZ (tgt := 52) hX dX4_houseTold_10 (by decide) (by decide) (by decide) (fun q => absurd q (by decide)) (fun _ => ?_)))))
          refine r_aload_n hX dX4_houseTold_13 rfl rfl (r_iload hX dX4_houseTold_14 rfl (r_iload_n hX dX4_houseTold_16 rfl rfl (r_callV hX (z_X4_ordered ad ae cs K S th rest hS _ 3 (by first | with_reducible assumption | decide | omega) (by first | with_reducible assumption | decide | omega) _ 2 (by first | with_reducible assumption | decide | omega) (by first | with_reducible assumption | decide | omega)) kv_X4_196 14 rfl rfl rfl rfl (Nat.le_of_ble_eq_true rfl) ⟨(Nat.le_of_ble_eq_true rfl), (Nat.le_of_ble_eq_true rfl)⟩ ⟨(Nat.le_of_ble_eq_true rfl), (Nat.le_of_ble_eq_true rfl)⟩ dX4_houseTold_17 (fun _ _ z => False.elim z) (fun v9 ws9 h77 => ?_))))
          obtain ⟨rfl, hw9⟩ := h77
          subst ws9
          dsimp only [mPush]
          have hto77 := zTo_b (sse S 3) (sna S 3) (sow S 3) (sse S 2) (sna S 2) (sow S 2)
          refine r_if_geZ (tgt := 26) hX dX4_houseTold_20 (by decide) (by first | with_reducible assumption | decide | omega) (fun c78 => ?_) (fun c78 => ?_)
          · refine r_aload_n hX dX4_houseTold_26 rfl rfl (r_get hX kf_X4_13 14 rfl rfl dX4_houseTold_27 (r_iload hX dX4_houseTold_30 rfl (r_laldZ hX 16 1 rfl rfl 3 (by decide) (by decide) (by decide) dX4_houseTold_32 (r_aload_n hX dX4_houseTold_33 rfl rfl (r_get hX kf_X4_13 14 rfl rfl dX4_houseTold_34 (r_iload_n hX dX4_houseTold_37 rfl rfl (r_laldZ hX 16 1 rfl rfl 1 (by decide) (by decide) (by decide) dX4_houseTold_38 ?_)))))))
            refine r_lif_geZ (tgt := 46) hX dX4_houseTold_39 dX4_houseTold_40 (by decide) (by first | with_reducible assumption | decide | omega) (by first | with_reducible assumption | decide | omega) (fun c79 => ?_) (fun c79 => ?_)
            · refine r_iincZ (z := 1) (y := 4) hX dX4_houseTold_46 rfl (by decide) rfl rfl (r_goto (tgt := 7) hX dX4_houseTold_49 (by decide) (r_iload hX dX4_houseTold_7 rfl (r_iconstZ hX dX4_houseTold_9 (r_icmp_geZ (tgt := 52) hX dX4_houseTold_10 (by decide) (by decide) (by decide) (fun _ => ?_) (fun q => absurd (by decide) q)))))
              have ed : zFD S = 2 := zFst_1 (x := true) (a := 1) (y := true) (b := 2) (z := false) (decide_eq_true (by omega)) rfl (decide_eq_true (by omega)) rfl (decide_eq_false (by omega)) rfl
              have em : zFM S = 1 := zFst_1 (x := true) (a := 1) (y := false) (b := 1) (z := false) (decide_eq_true (by omega)) rfl (decide_eq_false (by omega)) rfl (decide_eq_false (by omega)) rfl
              exact r_loc (lv' := [(0, some (.ref (ae 0))), (1, some (.int (iZ w))), (2, some (.int (iZ 2))), (3, some (.int (iZ 1)))]) (by exact ⟨rfl, rfl, rfl, rfl, trivial⟩) (Nat.le_refl _) (Nat.le_refl _) (fin 2 1 (by rw [ed]; rfl) (by rw [em]; rfl))
            · refine r_iload hX dX4_houseTold_43 rfl (r_istore_n hX dX4_houseTold_45 rfl (by decide) rfl (r_iincZ (z := 1) (y := 4) hX dX4_houseTold_46 rfl (by decide) rfl rfl (r_goto (tgt := 7) hX dX4_houseTold_49 (by decide) (r_iload hX dX4_houseTold_7 rfl (r_iconstZ hX dX4_houseTold_9 (r_icmp_geZ (tgt := 52) hX dX4_houseTold_10 (by decide) (by decide) (by decide) (fun _ => ?_) (fun q => absurd (by decide) q)))))))
              have ed : zFD S = 2 := zFst_1 (x := true) (a := 1) (y := true) (b := 2) (z := false) (decide_eq_true (by omega)) rfl (decide_eq_true (by omega)) rfl (decide_eq_false (by omega)) rfl
              have em : zFM S = 3 := zFst_1 (x := true) (a := 1) (y := false) (b := 1) (z := true) (decide_eq_true (by omega)) rfl (decide_eq_false (by omega)) rfl (decide_eq_true (by omega)) rfl
              exact r_loc (lv' := [(0, some (.ref (ae 0))), (1, some (.int (iZ w))), (2, some (.int (iZ 2))), (3, some (.int (iZ 3)))]) (by exact ⟨rfl, rfl, rfl, rfl, trivial⟩) (Nat.le_refl _) (Nat.le_refl _) (fin 2 3 (by rw [ed]; rfl) (by rw [em]; rfl))
          · refine r_iload hX dX4_houseTold_23 rfl (r_istore_n hX dX4_houseTold_25 rfl (by decide) rfl (r_aload_n hX dX4_houseTold_26 rfl rfl (r_get hX kf_X4_13 14 rfl rfl dX4_houseTold_27 (r_iload hX dX4_houseTold_30 rfl (r_laldZ hX 16 1 rfl rfl 3 (by decide) (by decide) (by decide) dX4_houseTold_32 (r_aload_n hX dX4_houseTold_33 rfl rfl (r_get hX kf_X4_13 14 rfl rfl dX4_houseTold_34 ?_)))))))
            refine r_iload_n hX dX4_houseTold_37 rfl rfl (r_laldZ hX 16 1 rfl rfl 1 (by decide) (by decide) (by decide) dX4_houseTold_38 (r_lif_geZ (tgt := 46) hX dX4_houseTold_39 dX4_houseTold_40 (by decide) (by first | with_reducible assumption | decide | omega) (by first | with_reducible assumption | decide | omega) (fun c80 => ?_) (fun c80 => ?_)))
            · refine r_iincZ (z := 1) (y := 4) hX dX4_houseTold_46 rfl (by decide) rfl rfl (r_goto (tgt := 7) hX dX4_houseTold_49 (by decide) (r_iload hX dX4_houseTold_7 rfl (r_iconstZ hX dX4_houseTold_9 (r_icmp_geZ (tgt := 52) hX dX4_houseTold_10 (by decide) (by decide) (by decide) (fun _ => ?_) (fun q => absurd (by decide) q)))))
              have ed : zFD S = 3 := zFst_1 (x := true) (a := 1) (y := true) (b := 2) (z := true) (decide_eq_true (by omega)) rfl (decide_eq_true (by omega)) rfl (decide_eq_true (by omega)) rfl
              have em : zFM S = 1 := zFst_1 (x := true) (a := 1) (y := false) (b := 1) (z := false) (decide_eq_true (by omega)) rfl (decide_eq_false (by omega)) rfl (decide_eq_false (by omega)) rfl
              exact r_loc (lv' := [(0, some (.ref (ae 0))), (1, some (.int (iZ w))), (2, some (.int (iZ 3))), (3, some (.int (iZ 1)))]) (by exact ⟨rfl, rfl, rfl, rfl, trivial⟩) (Nat.le_refl _) (Nat.le_refl _) (fin 3 1 (by rw [ed]; rfl) (by rw [em]; rfl))
            · refine r_iload hX dX4_houseTold_43 rfl (r_istore_n hX dX4_houseTold_45 rfl (by decide) rfl (r_iincZ (z := 1) (y := 4) hX dX4_houseTold_46 rfl (by decide) rfl rfl (r_goto (tgt := 7) hX dX4_houseTold_49 (by decide) (r_iload hX dX4_houseTold_7 rfl (r_iconstZ hX dX4_houseTold_9 (r_icmp_geZ (tgt := 52) hX dX4_houseTold_10 (by decide) (by decide) (by decide) (fun _ => ?_) (fun q => absurd (by decide) q)))))))
              have ed : zFD S = 3 := zFst_1 (x := true) (a := 1) (y := true) (b := 2) (z := true) (decide_eq_true (by omega)) rfl (decide_eq_true (by omega)) rfl (decide_eq_true (by omega)) rfl
              have em : zFM S = 3 := zFst_1 (x := true) (a := 1) (y := false) (b := 1) (z := true) (decide_eq_true (by omega)) rfl (decide_eq_false (by omega)) rfl (decide_eq_true (by omega)) rfl
              exact r_loc (lv' := [(0, some (.ref (ae 0))), (1, some (.int (iZ w))), (2, some (.int (iZ 3))), (3, some (.int (iZ 3)))]) (by exact ⟨rfl, rfl, rfl, rfl, trivial⟩) (Nat.le_refl _) (Nat.le_refl _) (fin 3 3 (by rw [ed]; rfl) (by rw [em]; rfl))
        · refine r_iload hX dX4_houseTold_43 rfl (r_istore_n hX dX4_houseTold_45 rfl (by decide) rfl (r_iincZ (z := 1) (y := 3) hX dX4_houseTold_46 rfl (by decide) rfl rfl (r_goto (tgt := 7) hX dX4_houseTold_49 (by decide) (r_iload hX dX4_houseTold_7 rfl (r_iconstZ hX dX4_houseTold_9 (r_icmp_geZ (tgt := 52) hX dX4_houseTold_10 (by decide) (by decide) (by decide) (fun q => absurd q (by decide)) (fun _ => ?_)))))))
          refine r_aload_n hX dX4_houseTold_13 rfl rfl (r_iload hX dX4_houseTold_14 rfl (r_iload_n hX dX4_houseTold_16 rfl rfl (r_callV hX (z_X4_ordered ad ae cs K S th rest hS _ 3 (by first | with_reducible assumption | decide | omega) (by first | with_reducible assumption | decide | omega) _ 2 (by first | with_reducible assumption | decide | omega) (by first | with_reducible assumption | decide | omega)) kv_X4_196 14 rfl rfl rfl rfl (Nat.le_of_ble_eq_true rfl) ⟨(Nat.le_of_ble_eq_true rfl), (Nat.le_of_ble_eq_true rfl)⟩ ⟨(Nat.le_of_ble_eq_true rfl), (Nat.le_of_ble_eq_true rfl)⟩ dX4_houseTold_17 (fun _ _ z => False.elim z) (fun v9 ws9 h81 => ?_))))
          obtain ⟨rfl, hw9⟩ := h81
          subst ws9
          dsimp only [mPush]
          have hto81 := zTo_b (sse S 3) (sna S 3) (sow S 3) (sse S 2) (sna S 2) (sow S 2)
          refine r_if_geZ (tgt := 26) hX dX4_houseTold_20 (by decide) (by first | with_reducible assumption | decide | omega) (fun c82 => ?_) (fun c82 => ?_)
          · refine r_aload_n hX dX4_houseTold_26 rfl rfl (r_get hX kf_X4_13 14 rfl rfl dX4_houseTold_27 (r_iload hX dX4_houseTold_30 rfl (r_laldZ hX 16 1 rfl rfl 3 (by decide) (by decide) (by decide) dX4_houseTold_32 (r_aload_n hX dX4_houseTold_33 rfl rfl (r_get hX kf_X4_13 14 rfl rfl dX4_houseTold_34 (r_iload_n hX dX4_houseTold_37 rfl rfl (r_laldZ hX 16 1 rfl rfl 2 (by decide) (by decide) (by decide) dX4_houseTold_38 ?_)))))))
            refine r_lif_geZ (tgt := 46) hX dX4_houseTold_39 dX4_houseTold_40 (by decide) (by first | with_reducible assumption | decide | omega) (by first | with_reducible assumption | decide | omega) (fun c83 => ?_) (fun c83 => ?_)
            · refine r_iincZ (z := 1) (y := 4) hX dX4_houseTold_46 rfl (by decide) rfl rfl (r_goto (tgt := 7) hX dX4_houseTold_49 (by decide) (r_iload hX dX4_houseTold_7 rfl (r_iconstZ hX dX4_houseTold_9 (r_icmp_geZ (tgt := 52) hX dX4_houseTold_10 (by decide) (by decide) (by decide) (fun _ => ?_) (fun q => absurd (by decide) q)))))
              have ed : zFD S = 2 := zFst_1 (x := true) (a := 1) (y := true) (b := 2) (z := false) (decide_eq_true (by omega)) rfl (decide_eq_true (by omega)) rfl (decide_eq_false (by omega)) rfl
              have em : zFM S = 2 := zFst_1 (x := true) (a := 1) (y := true) (b := 2) (z := false) (decide_eq_true (by omega)) rfl (decide_eq_true (by omega)) rfl (decide_eq_false (by omega)) rfl
              exact r_loc (lv' := [(0, some (.ref (ae 0))), (1, some (.int (iZ w))), (2, some (.int (iZ 2))), (3, some (.int (iZ 2)))]) (by exact ⟨rfl, rfl, rfl, rfl, trivial⟩) (Nat.le_refl _) (Nat.le_refl _) (fin 2 2 (by rw [ed]; rfl) (by rw [em]; rfl))
            · refine r_iload hX dX4_houseTold_43 rfl (r_istore_n hX dX4_houseTold_45 rfl (by decide) rfl (r_iincZ (z := 1) (y := 4) hX dX4_houseTold_46 rfl (by decide) rfl rfl (r_goto (tgt := 7) hX dX4_houseTold_49 (by decide) (r_iload hX dX4_houseTold_7 rfl (r_iconstZ hX dX4_houseTold_9 (r_icmp_geZ (tgt := 52) hX dX4_houseTold_10 (by decide) (by decide) (by decide) (fun _ => ?_) (fun q => absurd (by decide) q)))))))
              have ed : zFD S = 2 := zFst_1 (x := true) (a := 1) (y := true) (b := 2) (z := false) (decide_eq_true (by omega)) rfl (decide_eq_true (by omega)) rfl (decide_eq_false (by omega)) rfl
              have em : zFM S = 3 := zFst_1 (x := true) (a := 1) (y := true) (b := 2) (z := true) (decide_eq_true (by omega)) rfl (decide_eq_true (by omega)) rfl (decide_eq_true (by omega)) rfl
              exact r_loc (lv' := [(0, some (.ref (ae 0))), (1, some (.int (iZ w))), (2, some (.int (iZ 2))), (3, some (.int (iZ 3)))]) (by exact ⟨rfl, rfl, rfl, rfl, trivial⟩) (Nat.le_refl _) (Nat.le_refl _) (fin 2 3 (by rw [ed]; rfl) (by rw [em]; rfl))
          · refine r_iload hX dX4_houseTold_23 rfl (r_istore_n hX dX4_houseTold_25 rfl (by decide) rfl (r_aload_n hX dX4_houseTold_26 rfl rfl (r_get hX kf_X4_13 14 rfl rfl dX4_houseTold_27 (r_iload hX dX4_houseTold_30 rfl (r_laldZ hX 16 1 rfl rfl 3 (by decide) (by decide) (by decide) dX4_houseTold_32 (r_aload_n hX dX4_houseTold_33 rfl rfl (r_get hX kf_X4_13 14 rfl rfl dX4_houseTold_34 ?_)))))))
            refine r_iload_n hX dX4_houseTold_37 rfl rfl (r_laldZ hX 16 1 rfl rfl 2 (by decide) (by decide) (by decide) dX4_houseTold_38 (r_lif_geZ (tgt := 46) hX dX4_houseTold_39 dX4_houseTold_40 (by decide) (by first | with_reducible assumption | decide | omega) (by first | with_reducible assumption | decide | omega) (fun c84 => ?_) (fun c84 => ?_)))
            · refine r_iincZ (z := 1) (y := 4) hX dX4_houseTold_46 rfl (by decide) rfl rfl (r_goto (tgt := 7) hX dX4_houseTold_49 (by decide) (r_iload hX dX4_houseTold_7 rfl (r_iconstZ hX dX4_houseTold_9 (r_icmp_geZ (tgt := 52) hX dX4_houseTold_10 (by decide) (by decide) (by decide) (fun _ => ?_) (fun q => absurd (by decide) q)))))
              have ed : zFD S = 3 := zFst_1 (x := true) (a := 1) (y := true) (b := 2) (z := true) (decide_eq_true (by omega)) rfl (decide_eq_true (by omega)) rfl (decide_eq_true (by omega)) rfl
              have em : zFM S = 2 := zFst_1 (x := true) (a := 1) (y := true) (b := 2) (z := false) (decide_eq_true (by omega)) rfl (decide_eq_true (by omega)) rfl (decide_eq_false (by omega)) rfl
              exact r_loc (lv' := [(0, some (.ref (ae 0))), (1, some (.int (iZ w))), (2, some (.int (iZ 3))), (3, some (.int (iZ 2)))]) (by exact ⟨rfl, rfl, rfl, rfl, trivial⟩) (Nat.le_refl _) (Nat.le_refl _) (fin 3 2 (by rw [ed]; rfl) (by rw [em]; rfl))
            · refine r_iload hX dX4_houseTold_43 rfl (r_istore_n hX dX4_houseTold_45 rfl (by decide) rfl (r_iincZ (z := 1) (y := 4) hX dX4_houseTold_46 rfl (by decide) rfl rfl (r_lc5 (i0 := 0) (i1 := 1) (i2 := 2) (i3 := 3) (i4 := 4) rfl rfl rfl rfl rfl (r_goto (tgt := 7) hX dX4_houseTold_49 (by decide) (r_iload hX dX4_houseTold_7 rfl (r_iconstZ hX dX4_houseTold_9 (r_icmp_geZ (tgt := 52) hX dX4_houseTold_10 (by decide) (by decide) (by decide) (fun _ => ?_) (fun q => absurd (by decide) q))))))))
              have ed : zFD S = 3 := zFst_1 (x := true) (a := 1) (y := true) (b := 2) (z := true) (decide_eq_true (by omega)) rfl (decide_eq_true (by omega)) rfl (decide_eq_true (by omega)) rfl
              have em : zFM S = 3 := zFst_1 (x := true) (a := 1) (y := true) (b := 2) (z := true) (decide_eq_true (by omega)) rfl (decide_eq_true (by omega)) rfl (decide_eq_true (by omega)) rfl
              exact r_loc (lv' := [(0, some (.ref (ae 0))), (1, some (.int (iZ w))), (2, some (.int (iZ 3))), (3, some (.int (iZ 3)))]) (by exact ⟨rfl, rfl, rfl, rfl, trivial⟩) (Nat.le_refl _) (Nat.le_refl _) (fin 3 3 (by rw [ed]; rfl) (by rw [em]; rfl))
set_option maxHeartbeats 4000000 in
set_option maxRecDepth 20000 in
theorem z_X4_house (ad ae : Nat → Nat) (cs : ClassId × ClassId × ClassId) (K : mK) (S : mS) (th : Int32) (rest : va_W) (hS : sWF S) (a0 : Int) (h0 : rJ a0)  : mCt (mTy cs) yX4_house cX4_house 2 (some .int) ⟨4, 0, 0, 89⟩ [.ref (ae 0), .int (iZ a0)] (mRw ad ae cs K (mJof S th) rest) (fun v ws' => ∃ r : Int32, v = some (.int r) ∧ (((0 ≤ a0 ∧ a0 ≤ 3) ∧ r = zHo S a0 ∧ ws' = mRw ad ae cs K (mJof S 0) rest) ∨ (¬ (0 ≤ a0 ∧ a0 ≤ 3) ∧ ws' = mRw ad ae cs K (mJof S 1) rest))) mNo := by
  refine mCt.of (by decide +kernel) (Nat.le_of_ble_eq_true rfl) (fun X hX hE => ?_)
  replace hX : mOK X RX4 cX4_house 2 ⟨4, 0, 0, 89⟩ [] (mTy cs) := hX
  refine r_aload_n hX dX4_house_0 rfl rfl (r_iload_n hX dX4_house_1 rfl rfl (r_i2lZ hX dX4_house_2 (by first | with_reducible assumption | decide | omega) (r_lconstZ (v := 0) hX dX4_house_3 rfl (r_ldc2Z (z := 3) hX kc_X4_36 (by decide +kernel) dX4_house_4 (r_callS hX (z_X4_isIn _ _ _ _ _ (by first | with_reducible assumption | decide | omega) (by first | with_reducible assumption | decide | omega) (by first | with_reducible assumption | decide | omega)) ks_X4_38 rfl rfl (Nat.le_of_ble_eq_true rfl) ⟨(Nat.le_of_ble_eq_true rfl), (Nat.le_of_ble_eq_true rfl)⟩ ⟨(Nat.le_of_ble_eq_true rfl), (Nat.le_of_ble_eq_true rfl)⟩ dX4_house_7 (fun _ _ z => False.elim z) (fun v9 ws9 h1 => ?_))))))
  obtain ⟨rfl, hw9⟩ := h1
  subst ws9
  dsimp only [mPush]
  refine r_if_neB (tgt := 17) hX dX4_house_10 (by decide) (fun c2 => ?_) (fun c2 => ?_)
  · have c2 := of_decide_eq_true c2
    refine r_iconst (v := b2i false) hX dX4_house_17 (by decide) (r_iconst (v := b2i false) hX dX4_house_18 (by decide) (r_callV hX (z_X4_isStopped ad ae cs K S th rest false false) kv_X4_68 14 rfl rfl rfl rfl (Nat.le_of_ble_eq_true rfl) ⟨(Nat.le_of_ble_eq_true rfl), (Nat.le_of_ble_eq_true rfl)⟩ ⟨(Nat.le_of_ble_eq_true rfl), (Nat.le_of_ble_eq_true rfl)⟩ dX4_house_19 (fun _ _ z => False.elim z) (fun v9 ws9 h3 => ?_)))
    obtain ⟨rfl, hw9⟩ := h3
    subst ws9
    dsimp only [mPush]
    refine r_if_eqB (tgt := 29) hX dX4_house_22 (by decide) (fun c4 => ?_) (fun c4 => ?_)
    · obtain ⟨⟨hx, hy⟩, e0⟩ := zst0 c4
      rw [e0]
      refine r_aload_n hX dX4_house_29 rfl rfl (r_iload_n hX dX4_house_30 rfl rfl (r_callV hX (z_X4_houseTold ad ae cs K S 0 rest hS _ (by first | with_reducible assumption | decide | omega)) kv_X4_222 14 rfl rfl rfl rfl (Nat.le_of_ble_eq_true rfl) ⟨(Nat.le_of_ble_eq_true rfl), (Nat.le_of_ble_eq_true rfl)⟩ ⟨(Nat.le_of_ble_eq_true rfl), (Nat.le_of_ble_eq_true rfl)⟩ dX4_house_31 (fun _ _ z => False.elim z) (fun v9 ws9 h5 => ?_)))
      obtain ⟨rfl, hw9⟩ := h5
      subst ws9
      dsimp only [mPush]
      exact r_iret hX hE dX4_house_34 (Nat.le_of_ble_eq_true rfl) (Nat.le_of_ble_eq_true rfl) ⟨_, rfl, Or.inl ⟨by omega, rfl, rfl⟩⟩
    · rcases zst1 c4 with ⟨hx, e0⟩ | ⟨hx, hy, e0⟩
      · exact absurd hx (by decide)
      · exact absurd hy (by decide)
  · have c2 := of_decide_eq_false c2
    refine r_iconst (v := b2i true) hX dX4_house_13 (by decide) (r_goto (tgt := 18) hX dX4_house_14 (by decide) (r_iconst (v := b2i false) hX dX4_house_18 (by decide) (r_callV hX (z_X4_isStopped ad ae cs K S th rest true false) kv_X4_68 14 rfl rfl rfl rfl (Nat.le_of_ble_eq_true rfl) ⟨(Nat.le_of_ble_eq_true rfl), (Nat.le_of_ble_eq_true rfl)⟩ ⟨(Nat.le_of_ble_eq_true rfl), (Nat.le_of_ble_eq_true rfl)⟩ dX4_house_19 (fun _ _ z => False.elim z) (fun v9 ws9 h6 => ?_))))
    obtain ⟨rfl, hw9⟩ := h6
    subst ws9
    dsimp only [mPush]
    refine r_if_eqB (tgt := 29) hX dX4_house_22 (by decide) (fun c7 => ?_) (fun c7 => ?_)
    · exact absurd c7 (by simp)
    · rcases zst1 c7 with ⟨hx, e0⟩ | ⟨hx, hy, e0⟩
      · rw [e0]
        refine r_iconstZ hX dX4_house_25 (r_goto (tgt := 34) hX dX4_house_26 (by decide) ?_)
        exact r_iret hX hE dX4_house_34 (Nat.le_of_ble_eq_true rfl) (Nat.le_of_ble_eq_true rfl) ⟨_, rfl, Or.inr ⟨by omega, rfl⟩⟩
      · exact absurd hx (by decide)
end
