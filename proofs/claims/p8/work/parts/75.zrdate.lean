/-! The reference, exact (rows by a program of this repository). -/
set_option maxHeartbeats 4000000 in
set_option maxRecDepth 20000 in
theorem z_X4_date (ad ae : Nat → Nat) (cs : ClassId × ClassId × ClassId) (K : mK) (S : mS) (th : Int32) (rest : va_W) (hS : sWF S) (a0 : Int) (h0 : rJ a0) (a1 : Int) (h1 : rJ a1) (a2 : Int) (h2 : rJ a2) (a3 : Int) (h3 : rJ a3) (a4 : Int) (h4 : rJ a4) (a5 : Int) (h5 : rJ a5)  : mCt (mTy cs) yX4_date cX4_date 7 (some .int) ⟨4, 0, 0, 94⟩ [.ref (ae 0), .int (iZ a0), .int (iZ a1), .int (iZ a2), .int (iZ a3), .int (iZ a4), .int (iZ a5)] (mRw ad ae cs K (mJof S th) rest) (fun v ws' => ∃ r : Int32, v = some (.int r) ∧ (((((0 ≤ a0 ∧ a0 < 4) ∧ (0 ≤ a5 ∧ a5 < 4)) ∧ ((0 ≤ a2 ∧ a2 ≤ 9999) ∧ (0 ≤ a3 ∧ a3 ≤ 86399) ∧ (0 ≤ a4 ∧ a4 ≤ 999999999))) ∧ r = iZ (oDate S a0.toNat a1 a2 a3 a4 (sof S a5.toNat)).1 ∧ ws' = mRw ad ae cs K (mJof (oDate S a0.toNat a1 a2 a3 a4 (sof S a5.toNat)).2 0) rest) ∨ (¬ ((0 ≤ a0 ∧ a0 < 4) ∧ (0 ≤ a5 ∧ a5 < 4)) ∧ ws' = mRw ad ae cs K (mJof S 1) rest) ∨ (((0 ≤ a0 ∧ a0 < 4) ∧ (0 ≤ a5 ∧ a5 < 4)) ∧ ¬ ((0 ≤ a2 ∧ a2 ≤ 9999) ∧ (0 ≤ a3 ∧ a3 ≤ 86399) ∧ (0 ≤ a4 ∧ a4 ≤ 999999999)) ∧ ws' = mRw ad ae cs K (mJof S 2) rest))) mNo := by
  refine mCt.of (by decide +kernel) (Nat.le_of_ble_eq_true rfl) (fun X hX hE => ?_)
  replace hX : mOK X RX4 cX4_date 7 ⟨4, 0, 0, 94⟩ [] (mTy cs) := hX
  refine r_aload_n hX dX4_date_0 rfl rfl ?_
  refine r_iload_n hX dX4_date_1 rfl rfl ?_
  refine r_callS hX (z_X4_isNone _ _ _ (by omega)) ks_X4_61 rfl rfl (Nat.le_of_ble_eq_true rfl) ⟨(Nat.le_of_ble_eq_true rfl), (Nat.le_of_ble_eq_true rfl)⟩ ⟨(Nat.le_of_ble_eq_true rfl), (Nat.le_of_ble_eq_true rfl)⟩ dX4_date_2 (fun _ _ z => False.elim z) (fun v9 ws9 h1 => ?_)
  obtain ⟨rfl, hw9⟩ := h1
  subst ws9
  dsimp only [mPush]
  refine r_if_neB (tgt := 16) hX dX4_date_5 (by decide) (fun c2 => ?_) (fun c2 => ?_)
  · have c2 := of_decide_eq_true c2
    refine r_iconst (v := b2i true) hX dX4_date_16 (by decide) ?_
    refine r_goto (tgt := 21) hX dX4_date_17 (by decide) ?_
    refine r_iload_n hX dX4_date_21 rfl rfl ?_
    refine r_i2lZ hX dX4_date_22 (by omega) ?_
    refine r_lconstZ (v := 0) hX dX4_date_23 rfl ?_
    refine r_ldc2Z (z := 9999) hX kc_X4_153 (by decide) dX4_date_24 ?_
    refine r_callS hX (z_X4_isIn _ _ _ _ _ (by omega) (by omega) (by omega)) ks_X4_38 rfl rfl (Nat.le_of_ble_eq_true rfl) ⟨(Nat.le_of_ble_eq_true rfl), (Nat.le_of_ble_eq_true rfl)⟩ ⟨(Nat.le_of_ble_eq_true rfl), (Nat.le_of_ble_eq_true rfl)⟩ dX4_date_27 (fun _ _ z => False.elim z) (fun v9 ws9 h3 => ?_)
    obtain ⟨rfl, hw9⟩ := h3
    subst ws9
    dsimp only [mPush]
    refine r_if_eqB (tgt := 43) hX dX4_date_30 (by decide) (fun c4 => ?_) (fun c4 => ?_)
    · have c4 := of_decide_eq_false c4
      refine r_iconst (v := b2i true) hX dX4_date_43 (by decide) ?_
      refine r_goto (tgt := 48) hX dX4_date_44 (by decide) ?_
      refine r_callV hX (z_X4_isStopped ad ae cs K S th rest true true) kv_X4_68 14 rfl rfl rfl rfl (Nat.le_of_ble_eq_true rfl) ⟨(Nat.le_of_ble_eq_true rfl), (Nat.le_of_ble_eq_true rfl)⟩ ⟨(Nat.le_of_ble_eq_true rfl), (Nat.le_of_ble_eq_true rfl)⟩ dX4_date_48 (fun _ _ z => False.elim z) (fun v9 ws9 h5 => ?_)
      obtain ⟨rfl, hw9⟩ := h5
      subst ws9
      dsimp only [mPush]
      refine r_if_eqB (tgt := 56) hX dX4_date_51 (by decide) (fun c6 => ?_) (fun c6 => ?_)
      · exact absurd c6 (by simp)
      · rcases zst1 c6 with ⟨hx, e0⟩ | ⟨hx, hy, e0⟩
        · rw [e0]
          refine r_iconstZ hX dX4_date_54 ?_
          exact r_iret hX hE dX4_date_55 (Nat.le_of_ble_eq_true rfl) (Nat.le_of_ble_eq_true rfl) ⟨_, rfl, Or.inr (Or.inl ⟨by omega, rfl⟩)⟩
        · exact absurd hx (by decide)
    · have c4 := of_decide_eq_true c4
      refine r_iload hX dX4_date_33 rfl ?_
      refine r_iload hX dX4_date_35 rfl ?_
      refine r_callS hX (z_X4_isTime _ _ _ _ (by omega) (by omega)) ks_X4_155 rfl rfl (Nat.le_of_ble_eq_true rfl) ⟨(Nat.le_of_ble_eq_true rfl), (Nat.le_of_ble_eq_true rfl)⟩ ⟨(Nat.le_of_ble_eq_true rfl), (Nat.le_of_ble_eq_true rfl)⟩ dX4_date_37 (fun _ _ z => False.elim z) (fun v9 ws9 h7 => ?_)
      obtain ⟨rfl, hw9⟩ := h7
      subst ws9
      dsimp only [mPush]
      refine r_if_neB (tgt := 47) hX dX4_date_40 (by decide) (fun c8 => ?_) (fun c8 => ?_)
      · have c8 := of_decide_eq_true c8
        refine r_iconst (v := b2i false) hX dX4_date_47 (by decide) ?_
        refine r_callV hX (z_X4_isStopped ad ae cs K S th rest true false) kv_X4_68 14 rfl rfl rfl rfl (Nat.le_of_ble_eq_true rfl) ⟨(Nat.le_of_ble_eq_true rfl), (Nat.le_of_ble_eq_true rfl)⟩ ⟨(Nat.le_of_ble_eq_true rfl), (Nat.le_of_ble_eq_true rfl)⟩ dX4_date_48 (fun _ _ z => False.elim z) (fun v9 ws9 h9 => ?_)
        obtain ⟨rfl, hw9⟩ := h9
        subst ws9
        dsimp only [mPush]
        refine r_if_eqB (tgt := 56) hX dX4_date_51 (by decide) (fun c10 => ?_) (fun c10 => ?_)
        · exact absurd c10 (by simp)
        · rcases zst1 c10 with ⟨hx, e0⟩ | ⟨hx, hy, e0⟩
          · rw [e0]
            refine r_iconstZ hX dX4_date_54 ?_
            exact r_iret hX hE dX4_date_55 (Nat.le_of_ble_eq_true rfl) (Nat.le_of_ble_eq_true rfl) ⟨_, rfl, Or.inr (Or.inl ⟨by omega, rfl⟩)⟩
          · exact absurd hx (by decide)
      · have c8 := of_decide_eq_false c8
        refine r_iconst (v := b2i true) hX dX4_date_43 (by decide) ?_
        refine r_goto (tgt := 48) hX dX4_date_44 (by decide) ?_
        refine r_callV hX (z_X4_isStopped ad ae cs K S th rest true true) kv_X4_68 14 rfl rfl rfl rfl (Nat.le_of_ble_eq_true rfl) ⟨(Nat.le_of_ble_eq_true rfl), (Nat.le_of_ble_eq_true rfl)⟩ ⟨(Nat.le_of_ble_eq_true rfl), (Nat.le_of_ble_eq_true rfl)⟩ dX4_date_48 (fun _ _ z => False.elim z) (fun v9 ws9 h11 => ?_)
        obtain ⟨rfl, hw9⟩ := h11
        subst ws9
        dsimp only [mPush]
        refine r_if_eqB (tgt := 56) hX dX4_date_51 (by decide) (fun c12 => ?_) (fun c12 => ?_)
        · exact absurd c12 (by simp)
        · rcases zst1 c12 with ⟨hx, e0⟩ | ⟨hx, hy, e0⟩
          · rw [e0]
            refine r_iconstZ hX dX4_date_54 ?_
            exact r_iret hX hE dX4_date_55 (Nat.le_of_ble_eq_true rfl) (Nat.le_of_ble_eq_true rfl) ⟨_, rfl, Or.inr (Or.inl ⟨by omega, rfl⟩)⟩
          · exact absurd hx (by decide)
  · have c2 := of_decide_eq_false c2
    refine r_iload hX dX4_date_8 rfl ?_
    refine r_callS hX (z_X4_isNone _ _ _ (by omega)) ks_X4_61 rfl rfl (Nat.le_of_ble_eq_true rfl) ⟨(Nat.le_of_ble_eq_true rfl), (Nat.le_of_ble_eq_true rfl)⟩ ⟨(Nat.le_of_ble_eq_true rfl), (Nat.le_of_ble_eq_true rfl)⟩ dX4_date_10 (fun _ _ z => False.elim z) (fun v9 ws9 h13 => ?_)
    obtain ⟨rfl, hw9⟩ := h13
    subst ws9
    dsimp only [mPush]
    refine r_if_eqB (tgt := 20) hX dX4_date_13 (by decide) (fun c14 => ?_) (fun c14 => ?_)
    · have c14 := of_decide_eq_false c14
      refine r_iconst (v := b2i false) hX dX4_date_20 (by decide) ?_
      refine r_iload_n hX dX4_date_21 rfl rfl ?_
      refine r_i2lZ hX dX4_date_22 (by omega) ?_
      refine r_lconstZ (v := 0) hX dX4_date_23 rfl ?_
      refine r_ldc2Z (z := 9999) hX kc_X4_153 (by decide) dX4_date_24 ?_
      refine r_callS hX (z_X4_isIn _ _ _ _ _ (by omega) (by omega) (by omega)) ks_X4_38 rfl rfl (Nat.le_of_ble_eq_true rfl) ⟨(Nat.le_of_ble_eq_true rfl), (Nat.le_of_ble_eq_true rfl)⟩ ⟨(Nat.le_of_ble_eq_true rfl), (Nat.le_of_ble_eq_true rfl)⟩ dX4_date_27 (fun _ _ z => False.elim z) (fun v9 ws9 h15 => ?_)
      obtain ⟨rfl, hw9⟩ := h15
      subst ws9
      dsimp only [mPush]
      refine r_if_eqB (tgt := 43) hX dX4_date_30 (by decide) (fun c16 => ?_) (fun c16 => ?_)
      · have c16 := of_decide_eq_false c16
        refine r_iconst (v := b2i true) hX dX4_date_43 (by decide) ?_
        refine r_goto (tgt := 48) hX dX4_date_44 (by decide) ?_
        refine r_callV hX (z_X4_isStopped ad ae cs K S th rest false true) kv_X4_68 14 rfl rfl rfl rfl (Nat.le_of_ble_eq_true rfl) ⟨(Nat.le_of_ble_eq_true rfl), (Nat.le_of_ble_eq_true rfl)⟩ ⟨(Nat.le_of_ble_eq_true rfl), (Nat.le_of_ble_eq_true rfl)⟩ dX4_date_48 (fun _ _ z => False.elim z) (fun v9 ws9 h17 => ?_)
        obtain ⟨rfl, hw9⟩ := h17
        subst ws9
        dsimp only [mPush]
        refine r_if_eqB (tgt := 56) hX dX4_date_51 (by decide) (fun c18 => ?_) (fun c18 => ?_)
        · exact absurd c18 (by simp)
        · rcases zst1 c18 with ⟨hx, e0⟩ | ⟨hx, hy, e0⟩
          · exact absurd hx (by decide)
          · rw [e0]
            refine r_iconstZ hX dX4_date_54 ?_
            exact r_iret hX hE dX4_date_55 (Nat.le_of_ble_eq_true rfl) (Nat.le_of_ble_eq_true rfl) ⟨_, rfl, Or.inr (Or.inr ⟨by omega, by omega, rfl⟩)⟩
      · have c16 := of_decide_eq_true c16
        refine r_iload hX dX4_date_33 rfl ?_
        refine r_iload hX dX4_date_35 rfl ?_
        refine r_callS hX (z_X4_isTime _ _ _ _ (by omega) (by omega)) ks_X4_155 rfl rfl (Nat.le_of_ble_eq_true rfl) ⟨(Nat.le_of_ble_eq_true rfl), (Nat.le_of_ble_eq_true rfl)⟩ ⟨(Nat.le_of_ble_eq_true rfl), (Nat.le_of_ble_eq_true rfl)⟩ dX4_date_37 (fun _ _ z => False.elim z) (fun v9 ws9 h19 => ?_)
        obtain ⟨rfl, hw9⟩ := h19
        subst ws9
        dsimp only [mPush]
        refine r_if_neB (tgt := 47) hX dX4_date_40 (by decide) (fun c20 => ?_) (fun c20 => ?_)
        · have c20 := of_decide_eq_true c20
          refine r_iconst (v := b2i false) hX dX4_date_47 (by decide) ?_
          refine r_callV hX (z_X4_isStopped ad ae cs K S th rest false false) kv_X4_68 14 rfl rfl rfl rfl (Nat.le_of_ble_eq_true rfl) ⟨(Nat.le_of_ble_eq_true rfl), (Nat.le_of_ble_eq_true rfl)⟩ ⟨(Nat.le_of_ble_eq_true rfl), (Nat.le_of_ble_eq_true rfl)⟩ dX4_date_48 (fun _ _ z => False.elim z) (fun v9 ws9 h21 => ?_)
          obtain ⟨rfl, hw9⟩ := h21
          subst ws9
          dsimp only [mPush]
          refine r_if_eqB (tgt := 56) hX dX4_date_51 (by decide) (fun c22 => ?_) (fun c22 => ?_)
          · obtain ⟨⟨hx, hy⟩, e0⟩ := zst0 c22
            rw [e0]
            have hdmx := dm_b a1.toNat (a2 / 100).toNat
            refine r_iload_n hX dX4_date_56 rfl rfl ?_
            refine r_iload_n hX dX4_date_57 rfl rfl ?_
            refine r_bipushZ hX dX4_date_58 (by decide) ?_
            refine r_idivZ hX dX4_date_60 (by omega) (by decide) ?_
            refine r_iload_n hX dX4_date_61 rfl rfl ?_
            refine r_bipushZ hX dX4_date_62 (by decide) ?_
            refine r_iremZ hX dX4_date_64 (by omega) (by decide) ?_
            refine r_callS hX (z_X4_isThere _ _ _ _ _ (by omega) (by omega) (by omega)) ks_X4_159 rfl rfl (Nat.le_of_ble_eq_true rfl) ⟨(Nat.le_of_ble_eq_true rfl), (Nat.le_of_ble_eq_true rfl)⟩ ⟨(Nat.le_of_ble_eq_true rfl), (Nat.le_of_ble_eq_true rfl)⟩ dX4_date_65 (fun _ _ z => False.elim z) (fun v9 ws9 h23 => ?_)
            obtain ⟨rfl, hw9⟩ := h23
            subst ws9
            dsimp only [mPush]
            refine r_if_eqB (tgt := 102) hX dX4_date_68 (by decide) (fun c24 => ?_) (fun c24 => ?_)
            · have c24 := of_decide_eq_false c24
              refine r_aload_n hX dX4_date_102 rfl rfl ?_
              refine r_callV hX (z_X4_no ad ae cs K S 0 rest) kv_X4_80 14 rfl rfl rfl rfl (Nat.le_of_ble_eq_true rfl) ⟨(Nat.le_of_ble_eq_true rfl), (Nat.le_of_ble_eq_true rfl)⟩ ⟨(Nat.le_of_ble_eq_true rfl), (Nat.le_of_ble_eq_true rfl)⟩ dX4_date_103 (fun _ _ z => False.elim z) (fun v9 ws9 h25 => ?_)
              obtain ⟨rfl, hw9⟩ := h25
              subst ws9
              dsimp only [mPush]
              refine r_iret hX hE dX4_date_106 (Nat.le_of_ble_eq_true rfl) (Nat.le_of_ble_eq_true rfl) ⟨_, rfl, Or.inl ⟨by omega, ?_⟩⟩
              unfold oDate
              rw [if_neg (by omega)]
              exact ⟨rfl, rfl⟩
            · have c24 := of_decide_eq_true c24
              refine r_aload_n hX dX4_date_71 rfl rfl ?_
              refine r_iload_n hX dX4_date_72 rfl rfl ?_
              refine r_iload_n hX dX4_date_73 rfl rfl ?_
              refine r_iload_n hX dX4_date_74 rfl rfl ?_
              refine r_bipushZ hX dX4_date_75 (by decide) ?_
              refine r_idivZ hX dX4_date_77 (by omega) (by decide) ?_
              refine r_iload_n hX dX4_date_78 rfl rfl ?_
              refine r_bipushZ hX dX4_date_79 (by decide) ?_
              refine r_iremZ hX dX4_date_81 (by omega) (by decide) ?_
              refine r_callS hX (z_X4_dayOf _ _ _ (a1).toNat (by omega) (by omega) _ (a2 / 100).toNat (by omega) (by omega) _ (by omega)) ks_X4_163 rfl rfl (Nat.le_of_ble_eq_true rfl) ⟨(Nat.le_of_ble_eq_true rfl), (Nat.le_of_ble_eq_true rfl)⟩ ⟨(Nat.le_of_ble_eq_true rfl), (Nat.le_of_ble_eq_true rfl)⟩ dX4_date_82 (fun _ _ z => False.elim z) (fun v9 ws9 h26 => ?_)
              obtain ⟨rfl, hw9⟩ := h26
              subst ws9
              dsimp only [mPush]
              refine r_iload hX dX4_date_85 rfl ?_
              refine r_iload hX dX4_date_87 rfl ?_
              refine r_aload_n hX dX4_date_89 rfl rfl ?_
              refine r_get hX kf_X4_7 14 rfl rfl dX4_date_90 ?_
              refine r_iload hX dX4_date_93 rfl ?_
              refine r_ialdZ hX 15 0 rfl rfl (a5).toNat (by omega) (by omega) (by decide) dX4_date_95 ?_
              refine r_callV hX (z_X4_put ad ae cs K S 0 rest hS _ (a0).toNat (by omega) (by omega) _ _ _ _ (by omega)) kv_X4_139 14 rfl rfl rfl rfl (Nat.le_of_ble_eq_true rfl) ⟨(Nat.le_of_ble_eq_true rfl), (Nat.le_of_ble_eq_true rfl)⟩ ⟨(Nat.le_of_ble_eq_true rfl), (Nat.le_of_ble_eq_true rfl)⟩ dX4_date_96 (fun _ _ z => False.elim z) (fun v9 ws9 h27 => ?_)
              obtain ⟨rfl, hw9⟩ := h27
              subst ws9
              dsimp only [mPush]
              refine r_goto (tgt := 106) hX dX4_date_99 (by decide) ?_
              refine r_iret hX hE dX4_date_106 (Nat.le_of_ble_eq_true rfl) (Nat.le_of_ble_eq_true rfl) ⟨_, rfl, Or.inl ⟨by omega, ?_⟩⟩
              have hin := day_inZ (y := a1.toNat) (m := (a2 / 100).toNat) (e := a2 % 100) (by omega) (by omega) (by omega) (by omega) (by omega) (by omega)
              unfold oDate
              rw [if_pos (by omega), oLoc_y (by omega)]
              exact ⟨congrArg iZ (by omega), rfl⟩
          · rcases zst1 c22 with ⟨hx, e0⟩ | ⟨hx, hy, e0⟩
            · exact absurd hx (by decide)
            · exact absurd hy (by decide)
        · have c20 := of_decide_eq_false c20
          refine r_iconst (v := b2i true) hX dX4_date_43 (by decide) ?_
          refine r_goto (tgt := 48) hX dX4_date_44 (by decide) ?_
          refine r_callV hX (z_X4_isStopped ad ae cs K S th rest false true) kv_X4_68 14 rfl rfl rfl rfl (Nat.le_of_ble_eq_true rfl) ⟨(Nat.le_of_ble_eq_true rfl), (Nat.le_of_ble_eq_true rfl)⟩ ⟨(Nat.le_of_ble_eq_true rfl), (Nat.le_of_ble_eq_true rfl)⟩ dX4_date_48 (fun _ _ z => False.elim z) (fun v9 ws9 h28 => ?_)
          obtain ⟨rfl, hw9⟩ := h28
          subst ws9
          dsimp only [mPush]
          refine r_if_eqB (tgt := 56) hX dX4_date_51 (by decide) (fun c29 => ?_) (fun c29 => ?_)
          · exact absurd c29 (by simp)
          · rcases zst1 c29 with ⟨hx, e0⟩ | ⟨hx, hy, e0⟩
            · exact absurd hx (by decide)
            · rw [e0]
              refine r_iconstZ hX dX4_date_54 ?_
              exact r_iret hX hE dX4_date_55 (Nat.le_of_ble_eq_true rfl) (Nat.le_of_ble_eq_true rfl) ⟨_, rfl, Or.inr (Or.inr ⟨by omega, by omega, rfl⟩)⟩
    · have c14 := of_decide_eq_true c14
      refine r_iconst (v := b2i true) hX dX4_date_16 (by decide) ?_
      refine r_goto (tgt := 21) hX dX4_date_17 (by decide) ?_
      refine r_iload_n hX dX4_date_21 rfl rfl ?_
      refine r_i2lZ hX dX4_date_22 (by omega) ?_
      refine r_lconstZ (v := 0) hX dX4_date_23 rfl ?_
      refine r_ldc2Z (z := 9999) hX kc_X4_153 (by decide) dX4_date_24 ?_
      refine r_callS hX (z_X4_isIn _ _ _ _ _ (by omega) (by omega) (by omega)) ks_X4_38 rfl rfl (Nat.le_of_ble_eq_true rfl) ⟨(Nat.le_of_ble_eq_true rfl), (Nat.le_of_ble_eq_true rfl)⟩ ⟨(Nat.le_of_ble_eq_true rfl), (Nat.le_of_ble_eq_true rfl)⟩ dX4_date_27 (fun _ _ z => False.elim z) (fun v9 ws9 h30 => ?_)
      obtain ⟨rfl, hw9⟩ := h30
      subst ws9
      dsimp only [mPush]
      refine r_if_eqB (tgt := 43) hX dX4_date_30 (by decide) (fun c31 => ?_) (fun c31 => ?_)
      · have c31 := of_decide_eq_false c31
        refine r_iconst (v := b2i true) hX dX4_date_43 (by decide) ?_
        refine r_goto (tgt := 48) hX dX4_date_44 (by decide) ?_
        refine r_callV hX (z_X4_isStopped ad ae cs K S th rest true true) kv_X4_68 14 rfl rfl rfl rfl (Nat.le_of_ble_eq_true rfl) ⟨(Nat.le_of_ble_eq_true rfl), (Nat.le_of_ble_eq_true rfl)⟩ ⟨(Nat.le_of_ble_eq_true rfl), (Nat.le_of_ble_eq_true rfl)⟩ dX4_date_48 (fun _ _ z => False.elim z) (fun v9 ws9 h32 => ?_)
        obtain ⟨rfl, hw9⟩ := h32
        subst ws9
        dsimp only [mPush]
        refine r_if_eqB (tgt := 56) hX dX4_date_51 (by decide) (fun c33 => ?_) (fun c33 => ?_)
        · exact absurd c33 (by simp)
        · rcases zst1 c33 with ⟨hx, e0⟩ | ⟨hx, hy, e0⟩
          · rw [e0]
            refine r_iconstZ hX dX4_date_54 ?_
            exact r_iret hX hE dX4_date_55 (Nat.le_of_ble_eq_true rfl) (Nat.le_of_ble_eq_true rfl) ⟨_, rfl, Or.inr (Or.inl ⟨by omega, rfl⟩)⟩
          · exact absurd hx (by decide)
      · have c31 := of_decide_eq_true c31
        refine r_iload hX dX4_date_33 rfl ?_
        refine r_iload hX dX4_date_35 rfl ?_
        refine r_callS hX (z_X4_isTime _ _ _ _ (by omega) (by omega)) ks_X4_155 rfl rfl (Nat.le_of_ble_eq_true rfl) ⟨(Nat.le_of_ble_eq_true rfl), (Nat.le_of_ble_eq_true rfl)⟩ ⟨(Nat.le_of_ble_eq_true rfl), (Nat.le_of_ble_eq_true rfl)⟩ dX4_date_37 (fun _ _ z => False.elim z) (fun v9 ws9 h34 => ?_)
        obtain ⟨rfl, hw9⟩ := h34
        subst ws9
        dsimp only [mPush]
        refine r_if_neB (tgt := 47) hX dX4_date_40 (by decide) (fun c35 => ?_) (fun c35 => ?_)
        · have c35 := of_decide_eq_true c35
          refine r_iconst (v := b2i false) hX dX4_date_47 (by decide) ?_
          refine r_callV hX (z_X4_isStopped ad ae cs K S th rest true false) kv_X4_68 14 rfl rfl rfl rfl (Nat.le_of_ble_eq_true rfl) ⟨(Nat.le_of_ble_eq_true rfl), (Nat.le_of_ble_eq_true rfl)⟩ ⟨(Nat.le_of_ble_eq_true rfl), (Nat.le_of_ble_eq_true rfl)⟩ dX4_date_48 (fun _ _ z => False.elim z) (fun v9 ws9 h36 => ?_)
          obtain ⟨rfl, hw9⟩ := h36
          subst ws9
          dsimp only [mPush]
          refine r_if_eqB (tgt := 56) hX dX4_date_51 (by decide) (fun c37 => ?_) (fun c37 => ?_)
          · exact absurd c37 (by simp)
          · rcases zst1 c37 with ⟨hx, e0⟩ | ⟨hx, hy, e0⟩
            · rw [e0]
              refine r_iconstZ hX dX4_date_54 ?_
              exact r_iret hX hE dX4_date_55 (Nat.le_of_ble_eq_true rfl) (Nat.le_of_ble_eq_true rfl) ⟨_, rfl, Or.inr (Or.inl ⟨by omega, rfl⟩)⟩
            · exact absurd hx (by decide)
        · have c35 := of_decide_eq_false c35
          refine r_iconst (v := b2i true) hX dX4_date_43 (by decide) ?_
          refine r_goto (tgt := 48) hX dX4_date_44 (by decide) ?_
          refine r_callV hX (z_X4_isStopped ad ae cs K S th rest true true) kv_X4_68 14 rfl rfl rfl rfl (Nat.le_of_ble_eq_true rfl) ⟨(Nat.le_of_ble_eq_true rfl), (Nat.le_of_ble_eq_true rfl)⟩ ⟨(Nat.le_of_ble_eq_true rfl), (Nat.le_of_ble_eq_true rfl)⟩ dX4_date_48 (fun _ _ z => False.elim z) (fun v9 ws9 h38 => ?_)
          obtain ⟨rfl, hw9⟩ := h38
          subst ws9
          dsimp only [mPush]
          refine r_if_eqB (tgt := 56) hX dX4_date_51 (by decide) (fun c39 => ?_) (fun c39 => ?_)
          · exact absurd c39 (by simp)
          · rcases zst1 c39 with ⟨hx, e0⟩ | ⟨hx, hy, e0⟩
            · rw [e0]
              refine r_iconstZ hX dX4_date_54 ?_
              exact r_iret hX hE dX4_date_55 (Nat.le_of_ble_eq_true rfl) (Nat.le_of_ble_eq_true rfl) ⟨_, rfl, Or.inr (Or.inl ⟨by omega, rfl⟩)⟩
            · exact absurd hx (by decide)
set_option maxHeartbeats 4000000 in
set_option maxRecDepth 20000 in
theorem z_X4_dateOf (ad ae : Nat → Nat) (cs : ClassId × ClassId × ClassId) (K : mK) (S : mS) (th : Int32) (rest : va_W) (hS : sWF S) (a0 : Int) (h0 : rJ a0) (a1 : Int) (h1 : rJ a1) (a2 : Int) (h2 : rJ a2)  : mCt (mTy cs) yX4_dateOf cX4_dateOf 4 (some .int) ⟨5, 0, 0, 120⟩ [.ref (ae 0), .int (iZ a0), .int (iZ a1), .int (iZ a2)] (mRw ad ae cs K (mJof S th) rest) (fun v ws' => ∃ r : Int32, v = some (.int r) ∧ (((((0 ≤ a0 ∧ a0 < 4) ∧ (0 ≤ a1 ∧ a1 < 4) ∧ (0 ≤ a2 ∧ a2 < 4)) ∧ (0 ≤ (0 : Int))) ∧ r = iZ (oLoc S a0.toNat (snu S a1.toNat / 1000000000 + sof S a2.toNat) (snu S a1.toNat % 1000000000) (sof S a2.toNat)).1 ∧ ws' = mRw ad ae cs K (mJof (oLoc S a0.toNat (snu S a1.toNat / 1000000000 + sof S a2.toNat) (snu S a1.toNat % 1000000000) (sof S a2.toNat)).2 0) rest) ∨ (¬ ((0 ≤ a0 ∧ a0 < 4) ∧ (0 ≤ a1 ∧ a1 < 4) ∧ (0 ≤ a2 ∧ a2 < 4)) ∧ ws' = mRw ad ae cs K (mJof S 1) rest) ∨ (((0 ≤ a0 ∧ a0 < 4) ∧ (0 ≤ a1 ∧ a1 < 4) ∧ (0 ≤ a2 ∧ a2 < 4)) ∧ ¬ (0 ≤ (0 : Int)) ∧ ws' = mRw ad ae cs K (mJof S 2) rest))) mNo := by
  refine mCt.of (by decide +kernel) (Nat.le_of_ble_eq_true rfl) (fun X hX hE => ?_)
  replace hX : mOK X RX4 cX4_dateOf 4 ⟨5, 0, 0, 120⟩ [] (mTy cs) := hX
  refine r_aload_n hX dX4_dateOf_0 rfl rfl ?_
  refine r_iload_n hX dX4_dateOf_1 rfl rfl ?_
  refine r_callS hX (z_X4_isNone _ _ _ (by omega)) ks_X4_61 rfl rfl (Nat.le_of_ble_eq_true rfl) ⟨(Nat.le_of_ble_eq_true rfl), (Nat.le_of_ble_eq_true rfl)⟩ ⟨(Nat.le_of_ble_eq_true rfl), (Nat.le_of_ble_eq_true rfl)⟩ dX4_dateOf_2 (fun _ _ z => False.elim z) (fun v9 ws9 h1 => ?_)
  obtain ⟨rfl, hw9⟩ := h1
  subst ws9
  dsimp only [mPush]
  refine r_if_neB (tgt := 22) hX dX4_dateOf_5 (by decide) (fun c2 => ?_) (fun c2 => ?_)
  · have c2 := of_decide_eq_true c2
    refine r_iconst (v := b2i true) hX dX4_dateOf_22 (by decide) ?_
    refine r_goto (tgt := 27) hX dX4_dateOf_23 (by decide) ?_
    refine r_iconst (v := b2i false) hX dX4_dateOf_27 (by decide) ?_
    refine r_callV hX (z_X4_isStopped ad ae cs K S th rest true false) kv_X4_68 14 rfl rfl rfl rfl (Nat.le_of_ble_eq_true rfl) ⟨(Nat.le_of_ble_eq_true rfl), (Nat.le_of_ble_eq_true rfl)⟩ ⟨(Nat.le_of_ble_eq_true rfl), (Nat.le_of_ble_eq_true rfl)⟩ dX4_dateOf_28 (fun _ _ z => False.elim z) (fun v9 ws9 h3 => ?_)
    obtain ⟨rfl, hw9⟩ := h3
    subst ws9
    dsimp only [mPush]
    refine r_if_eqB (tgt := 36) hX dX4_dateOf_31 (by decide) (fun c4 => ?_) (fun c4 => ?_)
    · exact absurd c4 (by simp)
    · rcases zst1 c4 with ⟨hx, e0⟩ | ⟨hx, hy, e0⟩
      · rw [e0]
        refine r_iconstZ hX dX4_dateOf_34 ?_
        exact r_iret hX hE dX4_dateOf_35 (Nat.le_of_ble_eq_true rfl) (Nat.le_of_ble_eq_true rfl) ⟨_, rfl, Or.inr (Or.inl ⟨by omega, rfl⟩)⟩
      · exact absurd hx (by decide)
  · have c2 := of_decide_eq_false c2
    refine r_iload_n hX dX4_dateOf_8 rfl rfl ?_
    refine r_callS hX (z_X4_isNone _ _ _ (by omega)) ks_X4_61 rfl rfl (Nat.le_of_ble_eq_true rfl) ⟨(Nat.le_of_ble_eq_true rfl), (Nat.le_of_ble_eq_true rfl)⟩ ⟨(Nat.le_of_ble_eq_true rfl), (Nat.le_of_ble_eq_true rfl)⟩ dX4_dateOf_9 (fun _ _ z => False.elim z) (fun v9 ws9 h5 => ?_)
    obtain ⟨rfl, hw9⟩ := h5
    subst ws9
    dsimp only [mPush]
    refine r_if_neB (tgt := 22) hX dX4_dateOf_12 (by decide) (fun c6 => ?_) (fun c6 => ?_)
    · have c6 := of_decide_eq_true c6
      refine r_iconst (v := b2i true) hX dX4_dateOf_22 (by decide) ?_
      refine r_goto (tgt := 27) hX dX4_dateOf_23 (by decide) ?_
      refine r_iconst (v := b2i false) hX dX4_dateOf_27 (by decide) ?_
      refine r_callV hX (z_X4_isStopped ad ae cs K S th rest true false) kv_X4_68 14 rfl rfl rfl rfl (Nat.le_of_ble_eq_true rfl) ⟨(Nat.le_of_ble_eq_true rfl), (Nat.le_of_ble_eq_true rfl)⟩ ⟨(Nat.le_of_ble_eq_true rfl), (Nat.le_of_ble_eq_true rfl)⟩ dX4_dateOf_28 (fun _ _ z => False.elim z) (fun v9 ws9 h7 => ?_)
      obtain ⟨rfl, hw9⟩ := h7
      subst ws9
      dsimp only [mPush]
      refine r_if_eqB (tgt := 36) hX dX4_dateOf_31 (by decide) (fun c8 => ?_) (fun c8 => ?_)
      · exact absurd c8 (by simp)
      · rcases zst1 c8 with ⟨hx, e0⟩ | ⟨hx, hy, e0⟩
        · rw [e0]
          refine r_iconstZ hX dX4_dateOf_34 ?_
          exact r_iret hX hE dX4_dateOf_35 (Nat.le_of_ble_eq_true rfl) (Nat.le_of_ble_eq_true rfl) ⟨_, rfl, Or.inr (Or.inl ⟨by omega, rfl⟩)⟩
        · exact absurd hx (by decide)
    · have c6 := of_decide_eq_false c6
      refine r_iload_n hX dX4_dateOf_15 rfl rfl ?_
      refine r_callS hX (z_X4_isNone _ _ _ (by omega)) ks_X4_61 rfl rfl (Nat.le_of_ble_eq_true rfl) ⟨(Nat.le_of_ble_eq_true rfl), (Nat.le_of_ble_eq_true rfl)⟩ ⟨(Nat.le_of_ble_eq_true rfl), (Nat.le_of_ble_eq_true rfl)⟩ dX4_dateOf_16 (fun _ _ z => False.elim z) (fun v9 ws9 h9 => ?_)
      obtain ⟨rfl, hw9⟩ := h9
      subst ws9
      dsimp only [mPush]
      refine r_if_eqB (tgt := 26) hX dX4_dateOf_19 (by decide) (fun c10 => ?_) (fun c10 => ?_)
      · have c10 := of_decide_eq_false c10
        refine r_iconst (v := b2i false) hX dX4_dateOf_26 (by decide) ?_
        refine r_iconst (v := b2i false) hX dX4_dateOf_27 (by decide) ?_
        refine r_callV hX (z_X4_isStopped ad ae cs K S th rest false false) kv_X4_68 14 rfl rfl rfl rfl (Nat.le_of_ble_eq_true rfl) ⟨(Nat.le_of_ble_eq_true rfl), (Nat.le_of_ble_eq_true rfl)⟩ ⟨(Nat.le_of_ble_eq_true rfl), (Nat.le_of_ble_eq_true rfl)⟩ dX4_dateOf_28 (fun _ _ z => False.elim z) (fun v9 ws9 h11 => ?_)
        obtain ⟨rfl, hw9⟩ := h11
        subst ws9
        dsimp only [mPush]
        refine r_if_eqB (tgt := 36) hX dX4_dateOf_31 (by decide) (fun c12 => ?_) (fun c12 => ?_)
        · obtain ⟨⟨hx, hy⟩, e0⟩ := zst0 c12
          rw [e0]
          have hnu := hS.2.1 a1.toNat (by omega)
          have hof := hS.1 a2.toNat (by omega)
          refine r_aload_n hX dX4_dateOf_36 rfl rfl ?_
          refine r_iload_n hX dX4_dateOf_37 rfl rfl ?_
          refine r_lconstZ (v := 0) hX dX4_dateOf_38 rfl ?_
          refine r_aload_n hX dX4_dateOf_39 rfl rfl ?_
          refine r_get hX kf_X4_13 14 rfl rfl dX4_dateOf_40 ?_
          refine r_iload_n hX dX4_dateOf_43 rfl rfl ?_
          refine r_laldZ hX 16 1 rfl rfl (a1).toNat (by omega) (by omega) (by decide) dX4_dateOf_44 ?_
          refine r_ldc2Z (z := 1000000000) hX kc_X4_96 (by decide) dX4_dateOf_45 ?_
          refine r_callS hX (c_X4_whole_x _ _ _ _ (by omega) (by omega) (by omega) (by omega)) ks_X4_92 rfl rfl (Nat.le_of_ble_eq_true rfl) ⟨(Nat.le_of_ble_eq_true rfl), (Nat.le_of_ble_eq_true rfl)⟩ ⟨(Nat.le_of_ble_eq_true rfl), (Nat.le_of_ble_eq_true rfl)⟩ dX4_dateOf_48 (fun _ _ z => False.elim z) (fun v9 ws9 h13 => ?_)
          obtain ⟨rfl, hw9⟩ := h13
          subst ws9
          dsimp only [mPush]
          refine r_aload_n hX dX4_dateOf_51 rfl rfl ?_
          refine r_get hX kf_X4_7 14 rfl rfl dX4_dateOf_52 ?_
          refine r_iload_n hX dX4_dateOf_55 rfl rfl ?_
          refine r_ialdZ hX 15 0 rfl rfl (a2).toNat (by omega) (by omega) (by decide) dX4_dateOf_56 ?_
          refine r_i2lZ hX dX4_dateOf_57 (by omega) ?_
          refine r_laddZ hX dX4_dateOf_58 ?_
          refine r_aload_n hX dX4_dateOf_59 rfl rfl ?_
          refine r_get hX kf_X4_13 14 rfl rfl dX4_dateOf_60 ?_
          refine r_iload_n hX dX4_dateOf_63 rfl rfl ?_
          refine r_laldZ hX 16 1 rfl rfl (a1).toNat (by omega) (by omega) (by decide) dX4_dateOf_64 ?_
          refine r_ldc2Z (z := 1000000000) hX kc_X4_96 (by decide) dX4_dateOf_65 ?_
          refine r_callS hX (c_X4_rest_x _ _ _ _ (by omega) (by omega) (by omega) (by omega)) ks_X4_102 rfl rfl (Nat.le_of_ble_eq_true rfl) ⟨(Nat.le_of_ble_eq_true rfl), (Nat.le_of_ble_eq_true rfl)⟩ ⟨(Nat.le_of_ble_eq_true rfl), (Nat.le_of_ble_eq_true rfl)⟩ dX4_dateOf_68 (fun _ _ z => False.elim z) (fun v9 ws9 h14 => ?_)
          obtain ⟨rfl, hw9⟩ := h14
          subst ws9
          dsimp only [mPush]
          refine r_aload_n hX dX4_dateOf_71 rfl rfl ?_
          refine r_get hX kf_X4_7 14 rfl rfl dX4_dateOf_72 ?_
          refine r_iload_n hX dX4_dateOf_75 rfl rfl ?_
          refine r_ialdZ hX 15 0 rfl rfl (a2).toNat (by omega) (by omega) (by decide) dX4_dateOf_76 ?_
          refine r_callV hX (z_X4_put_ ad ae cs K S 0 rest hS _ (a0).toNat (by omega) (by omega) _ _ _ _ (by omega) (by omega)) kv_X4_167 14 rfl rfl rfl rfl (Nat.le_of_ble_eq_true rfl) ⟨(Nat.le_of_ble_eq_true rfl), (Nat.le_of_ble_eq_true rfl)⟩ ⟨(Nat.le_of_ble_eq_true rfl), (Nat.le_of_ble_eq_true rfl)⟩ dX4_dateOf_77 (fun _ _ z => False.elim z) (fun v9 ws9 h15 => ?_)
          obtain ⟨rfl, hw9⟩ := h15
          subst ws9
          dsimp only [mPush]
          refine r_iret hX hE dX4_dateOf_80 (Nat.le_of_ble_eq_true rfl) (Nat.le_of_ble_eq_true rfl) ⟨_, rfl, Or.inl ⟨by omega, ?_⟩⟩
          exact oeR (oLoc_c (by omega) (by omega) (by omega))
        · rcases zst1 c12 with ⟨hx, e0⟩ | ⟨hx, hy, e0⟩
          · exact absurd hx (by decide)
          · exact absurd hy (by decide)
      · have c10 := of_decide_eq_true c10
        refine r_iconst (v := b2i true) hX dX4_dateOf_22 (by decide) ?_
        refine r_goto (tgt := 27) hX dX4_dateOf_23 (by decide) ?_
        refine r_iconst (v := b2i false) hX dX4_dateOf_27 (by decide) ?_
        refine r_callV hX (z_X4_isStopped ad ae cs K S th rest true false) kv_X4_68 14 rfl rfl rfl rfl (Nat.le_of_ble_eq_true rfl) ⟨(Nat.le_of_ble_eq_true rfl), (Nat.le_of_ble_eq_true rfl)⟩ ⟨(Nat.le_of_ble_eq_true rfl), (Nat.le_of_ble_eq_true rfl)⟩ dX4_dateOf_28 (fun _ _ z => False.elim z) (fun v9 ws9 h16 => ?_)
        obtain ⟨rfl, hw9⟩ := h16
        subst ws9
        dsimp only [mPush]
        refine r_if_eqB (tgt := 36) hX dX4_dateOf_31 (by decide) (fun c17 => ?_) (fun c17 => ?_)
        · exact absurd c17 (by simp)
        · rcases zst1 c17 with ⟨hx, e0⟩ | ⟨hx, hy, e0⟩
          · rw [e0]
            refine r_iconstZ hX dX4_dateOf_34 ?_
            exact r_iret hX hE dX4_dateOf_35 (Nat.le_of_ble_eq_true rfl) (Nat.le_of_ble_eq_true rfl) ⟨_, rfl, Or.inr (Or.inl ⟨by omega, rfl⟩)⟩
          · exact absurd hx (by decide)
set_option maxHeartbeats 4000000 in
set_option maxRecDepth 20000 in
theorem z_X4_anew (ad ae : Nat → Nat) (cs : ClassId × ClassId × ClassId) (K : mK) (S : mS) (th : Int32) (rest : va_W) (hS : sWF S) (a0 : Int) (h0 : rJ a0) (a1 : Int) (h1 : rJ a1) (b2 : Bool)  : mCt (mTy cs) yX4_anew cX4_anew 5 (some .int) ⟨5, 0, 0, 120⟩ [.ref (ae 0), .int (iZ a0), .int (iZ a1), .int (b2i b2)] (mRw ad ae cs K (mJof S th) rest) (fun v ws' => ∃ r : Int32, v = some (.int r) ∧ (((((0 ≤ a0 ∧ a0 < 4) ∧ (0 ≤ a1 ∧ a1 < 4)) ∧ (0 ≤ (0 : Int))) ∧ r = iZ (oLoc S a0.toNat (cond b2 (sse S a0.toNat) (sse S a0.toNat - sow S a0.toNat + sof S a1.toNat)) (sna S a0.toNat) (sof S a1.toNat)).1 ∧ ws' = mRw ad ae cs K (mJof (oLoc S a0.toNat (cond b2 (sse S a0.toNat) (sse S a0.toNat - sow S a0.toNat + sof S a1.toNat)) (sna S a0.toNat) (sof S a1.toNat)).2 0) rest) ∨ (¬ ((0 ≤ a0 ∧ a0 < 4) ∧ (0 ≤ a1 ∧ a1 < 4)) ∧ ws' = mRw ad ae cs K (mJof S 1) rest) ∨ (((0 ≤ a0 ∧ a0 < 4) ∧ (0 ≤ a1 ∧ a1 < 4)) ∧ ¬ (0 ≤ (0 : Int)) ∧ ws' = mRw ad ae cs K (mJof S 2) rest))) mNo := by
  refine mCt.of (by decide +kernel) (Nat.le_of_ble_eq_true rfl) (fun X hX hE => ?_)
  replace hX : mOK X RX4 cX4_anew 5 ⟨5, 0, 0, 120⟩ [] (mTy cs) := hX
  refine r_aload_n hX dX4_anew_0 rfl rfl ?_
  refine r_iload_n hX dX4_anew_1 rfl rfl ?_
  refine r_callS hX (z_X4_isNone _ _ _ (by omega)) ks_X4_61 rfl rfl (Nat.le_of_ble_eq_true rfl) ⟨(Nat.le_of_ble_eq_true rfl), (Nat.le_of_ble_eq_true rfl)⟩ ⟨(Nat.le_of_ble_eq_true rfl), (Nat.le_of_ble_eq_true rfl)⟩ dX4_anew_2 (fun _ _ z => False.elim z) (fun v9 ws9 h1 => ?_)
  obtain ⟨rfl, hw9⟩ := h1
  subst ws9
  dsimp only [mPush]
  refine r_if_neB (tgt := 15) hX dX4_anew_5 (by decide) (fun c2 => ?_) (fun c2 => ?_)
  · have c2 := of_decide_eq_true c2
    refine r_iconst (v := b2i true) hX dX4_anew_15 (by decide) ?_
    refine r_goto (tgt := 20) hX dX4_anew_16 (by decide) ?_
    refine r_iconst (v := b2i false) hX dX4_anew_20 (by decide) ?_
    refine r_callV hX (z_X4_isStopped ad ae cs K S th rest true false) kv_X4_68 14 rfl rfl rfl rfl (Nat.le_of_ble_eq_true rfl) ⟨(Nat.le_of_ble_eq_true rfl), (Nat.le_of_ble_eq_true rfl)⟩ ⟨(Nat.le_of_ble_eq_true rfl), (Nat.le_of_ble_eq_true rfl)⟩ dX4_anew_21 (fun _ _ z => False.elim z) (fun v9 ws9 h3 => ?_)
    obtain ⟨rfl, hw9⟩ := h3
    subst ws9
    dsimp only [mPush]
    refine r_if_eqB (tgt := 29) hX dX4_anew_24 (by decide) (fun c4 => ?_) (fun c4 => ?_)
    · exact absurd c4 (by simp)
    · rcases zst1 c4 with ⟨hx, e0⟩ | ⟨hx, hy, e0⟩
      · rw [e0]
        refine r_iconstZ hX dX4_anew_27 ?_
        exact r_iret hX hE dX4_anew_28 (Nat.le_of_ble_eq_true rfl) (Nat.le_of_ble_eq_true rfl) ⟨_, rfl, Or.inr (Or.inl ⟨by omega, rfl⟩)⟩
      · exact absurd hx (by decide)
  · have c2 := of_decide_eq_false c2
    refine r_iload_n hX dX4_anew_8 rfl rfl ?_
    refine r_callS hX (z_X4_isNone _ _ _ (by omega)) ks_X4_61 rfl rfl (Nat.le_of_ble_eq_true rfl) ⟨(Nat.le_of_ble_eq_true rfl), (Nat.le_of_ble_eq_true rfl)⟩ ⟨(Nat.le_of_ble_eq_true rfl), (Nat.le_of_ble_eq_true rfl)⟩ dX4_anew_9 (fun _ _ z => False.elim z) (fun v9 ws9 h5 => ?_)
    obtain ⟨rfl, hw9⟩ := h5
    subst ws9
    dsimp only [mPush]
    refine r_if_eqB (tgt := 19) hX dX4_anew_12 (by decide) (fun c6 => ?_) (fun c6 => ?_)
    · have c6 := of_decide_eq_false c6
      refine r_iconst (v := b2i false) hX dX4_anew_19 (by decide) ?_
      refine r_iconst (v := b2i false) hX dX4_anew_20 (by decide) ?_
      refine r_callV hX (z_X4_isStopped ad ae cs K S th rest false false) kv_X4_68 14 rfl rfl rfl rfl (Nat.le_of_ble_eq_true rfl) ⟨(Nat.le_of_ble_eq_true rfl), (Nat.le_of_ble_eq_true rfl)⟩ ⟨(Nat.le_of_ble_eq_true rfl), (Nat.le_of_ble_eq_true rfl)⟩ dX4_anew_21 (fun _ _ z => False.elim z) (fun v9 ws9 h7 => ?_)
      obtain ⟨rfl, hw9⟩ := h7
      subst ws9
      dsimp only [mPush]
      refine r_if_eqB (tgt := 29) hX dX4_anew_24 (by decide) (fun c8 => ?_) (fun c8 => ?_)
      · obtain ⟨⟨hx, hy⟩, e0⟩ := zst0 c8
        rw [e0]
        have hr0 := zrg hS (d := a0.toNat) (by omega)
        have hof := hS.1 a1.toNat (by omega)
        refine r_iload_n hX dX4_anew_29 rfl rfl ?_
        refine r_if_eqB (tgt := 37) hX dX4_anew_30 (by decide) (fun c9 => ?_) (fun c9 => ?_)
        · have c9 := id c9
          refine r_aload_n hX dX4_anew_37 rfl rfl ?_
          refine r_get hX kf_X4_7 14 rfl rfl dX4_anew_38 ?_
          refine r_iload_n hX dX4_anew_41 rfl rfl ?_
          refine r_ialdZ hX 15 0 rfl rfl (a1).toNat (by omega) (by omega) (by decide) dX4_anew_42 ?_
          refine r_aload_n hX dX4_anew_43 rfl rfl ?_
          refine r_get hX kf_X4_26 14 rfl rfl dX4_anew_44 ?_
          refine r_iload_n hX dX4_anew_47 rfl rfl ?_
          refine r_ialdZ hX 20 0 rfl rfl (a0).toNat (by omega) (by omega) (by decide) dX4_anew_48 ?_
          refine r_isubZ hX dX4_anew_49 ?_
          refine r_istore hX dX4_anew_50 (by decide) rfl ?_
          refine r_aload_n hX dX4_anew_52 rfl rfl ?_
          refine r_iload_n hX dX4_anew_53 rfl rfl ?_
          refine r_aload_n hX dX4_anew_54 rfl rfl ?_
          refine r_get hX kf_X4_17 14 rfl rfl dX4_anew_55 ?_
          refine r_iload_n hX dX4_anew_58 rfl rfl ?_
          refine r_ialdZ hX 17 0 rfl rfl (a0).toNat (by omega) (by omega) (by decide) dX4_anew_59 ?_
          refine r_i2lZ hX dX4_anew_60 (by omega) ?_
          refine r_aload_n hX dX4_anew_61 rfl rfl ?_
          refine r_get hX kf_X4_20 14 rfl rfl dX4_anew_62 ?_
          refine r_iload_n hX dX4_anew_65 rfl rfl ?_
          refine r_ialdZ hX 18 0 rfl rfl (a0).toNat (by omega) (by omega) (by decide) dX4_anew_66 ?_
          refine r_i2lZ hX dX4_anew_67 (by omega) ?_
          refine r_iload hX dX4_anew_68 rfl ?_
          refine r_i2lZ hX dX4_anew_70 (by omega) ?_
          refine r_laddZ hX dX4_anew_71 ?_
          refine r_aload_n hX dX4_anew_72 rfl rfl ?_
          refine r_get hX kf_X4_23 14 rfl rfl dX4_anew_73 ?_
          refine r_iload_n hX dX4_anew_76 rfl rfl ?_
          refine r_ialdZ hX 19 0 rfl rfl (a0).toNat (by omega) (by omega) (by decide) dX4_anew_77 ?_
          refine r_aload_n hX dX4_anew_78 rfl rfl ?_
          refine r_get hX kf_X4_7 14 rfl rfl dX4_anew_79 ?_
          refine r_iload_n hX dX4_anew_82 rfl rfl ?_
          refine r_ialdZ hX 15 0 rfl rfl (a1).toNat (by omega) (by omega) (by decide) dX4_anew_83 ?_
          refine r_callV hX (z_X4_put_ ad ae cs K S 0 rest hS _ (a0).toNat (by omega) (by omega) _ _ _ _ (by omega) (by omega)) kv_X4_167 14 rfl rfl rfl rfl (Nat.le_of_ble_eq_true rfl) ⟨(Nat.le_of_ble_eq_true rfl), (Nat.le_of_ble_eq_true rfl)⟩ ⟨(Nat.le_of_ble_eq_true rfl), (Nat.le_of_ble_eq_true rfl)⟩ dX4_anew_84 (fun _ _ z => False.elim z) (fun v9 ws9 h10 => ?_)
          obtain ⟨rfl, hw9⟩ := h10
          subst ws9
          dsimp only [mPush]
          refine r_iret hX hE dX4_anew_87 (Nat.le_of_ble_eq_true rfl) (Nat.le_of_ble_eq_true rfl) ⟨_, rfl, Or.inl ⟨by omega, ?_⟩⟩
          first | rw [show b2 = true by assumption] | rw [show b2 = false by assumption]
          simp only [cond]
          exact oeR (oLoc_c (by omega) (by omega) (by omega))
        · have c9 := id c9
          refine r_iconstZ hX dX4_anew_33 ?_
          refine r_goto (tgt := 50) hX dX4_anew_34 (by decide) ?_
          refine r_istore hX dX4_anew_50 (by decide) rfl ?_
          refine r_aload_n hX dX4_anew_52 rfl rfl ?_
          refine r_iload_n hX dX4_anew_53 rfl rfl ?_
          refine r_aload_n hX dX4_anew_54 rfl rfl ?_
          refine r_get hX kf_X4_17 14 rfl rfl dX4_anew_55 ?_
          refine r_iload_n hX dX4_anew_58 rfl rfl ?_
          refine r_ialdZ hX 17 0 rfl rfl (a0).toNat (by omega) (by omega) (by decide) dX4_anew_59 ?_
          refine r_i2lZ hX dX4_anew_60 (by omega) ?_
          refine r_aload_n hX dX4_anew_61 rfl rfl ?_
          refine r_get hX kf_X4_20 14 rfl rfl dX4_anew_62 ?_
          refine r_iload_n hX dX4_anew_65 rfl rfl ?_
          refine r_ialdZ hX 18 0 rfl rfl (a0).toNat (by omega) (by omega) (by decide) dX4_anew_66 ?_
          refine r_i2lZ hX dX4_anew_67 (by omega) ?_
          refine r_iload hX dX4_anew_68 rfl ?_
          refine r_i2lZ hX dX4_anew_70 (by decide) ?_
          refine r_laddZ hX dX4_anew_71 ?_
          refine r_aload_n hX dX4_anew_72 rfl rfl ?_
          refine r_get hX kf_X4_23 14 rfl rfl dX4_anew_73 ?_
          refine r_iload_n hX dX4_anew_76 rfl rfl ?_
          refine r_ialdZ hX 19 0 rfl rfl (a0).toNat (by omega) (by omega) (by decide) dX4_anew_77 ?_
          refine r_aload_n hX dX4_anew_78 rfl rfl ?_
          refine r_get hX kf_X4_7 14 rfl rfl dX4_anew_79 ?_
          refine r_iload_n hX dX4_anew_82 rfl rfl ?_
          refine r_ialdZ hX 15 0 rfl rfl (a1).toNat (by omega) (by omega) (by decide) dX4_anew_83 ?_
          refine r_callV hX (z_X4_put_ ad ae cs K S 0 rest hS _ (a0).toNat (by omega) (by omega) _ _ _ _ (by omega) (by omega)) kv_X4_167 14 rfl rfl rfl rfl (Nat.le_of_ble_eq_true rfl) ⟨(Nat.le_of_ble_eq_true rfl), (Nat.le_of_ble_eq_true rfl)⟩ ⟨(Nat.le_of_ble_eq_true rfl), (Nat.le_of_ble_eq_true rfl)⟩ dX4_anew_84 (fun _ _ z => False.elim z) (fun v9 ws9 h11 => ?_)
          obtain ⟨rfl, hw9⟩ := h11
          subst ws9
          dsimp only [mPush]
          refine r_iret hX hE dX4_anew_87 (Nat.le_of_ble_eq_true rfl) (Nat.le_of_ble_eq_true rfl) ⟨_, rfl, Or.inl ⟨by omega, ?_⟩⟩
          first | rw [show b2 = true by assumption] | rw [show b2 = false by assumption]
          simp only [cond]
          exact oeR (oLoc_c (by omega) (by omega) (by omega))
      · rcases zst1 c8 with ⟨hx, e0⟩ | ⟨hx, hy, e0⟩
        · exact absurd hx (by decide)
        · exact absurd hy (by decide)
    · have c6 := of_decide_eq_true c6
      refine r_iconst (v := b2i true) hX dX4_anew_15 (by decide) ?_
      refine r_goto (tgt := 20) hX dX4_anew_16 (by decide) ?_
      refine r_iconst (v := b2i false) hX dX4_anew_20 (by decide) ?_
      refine r_callV hX (z_X4_isStopped ad ae cs K S th rest true false) kv_X4_68 14 rfl rfl rfl rfl (Nat.le_of_ble_eq_true rfl) ⟨(Nat.le_of_ble_eq_true rfl), (Nat.le_of_ble_eq_true rfl)⟩ ⟨(Nat.le_of_ble_eq_true rfl), (Nat.le_of_ble_eq_true rfl)⟩ dX4_anew_21 (fun _ _ z => False.elim z) (fun v9 ws9 h12 => ?_)
      obtain ⟨rfl, hw9⟩ := h12
      subst ws9
      dsimp only [mPush]
      refine r_if_eqB (tgt := 29) hX dX4_anew_24 (by decide) (fun c13 => ?_) (fun c13 => ?_)
      · exact absurd c13 (by simp)
      · rcases zst1 c13 with ⟨hx, e0⟩ | ⟨hx, hy, e0⟩
        · rw [e0]
          refine r_iconstZ hX dX4_anew_27 ?_
          exact r_iret hX hE dX4_anew_28 (Nat.le_of_ble_eq_true rfl) (Nat.le_of_ble_eq_true rfl) ⟨_, rfl, Or.inr (Or.inl ⟨by omega, rfl⟩)⟩
        · exact absurd hx (by decide)
set_option maxHeartbeats 4000000 in
set_option maxRecDepth 20000 in
theorem z_X4_copy (ad ae : Nat → Nat) (cs : ClassId × ClassId × ClassId) (K : mK) (S : mS) (th : Int32) (rest : va_W) (hS : sWF S) (a0 : Int) (h0 : rJ a0) (a1 : Int) (h1 : rJ a1)  : mCt (mTy cs) yX4_copy cX4_copy 3 (some .int) ⟨2, 0, 0, 45⟩ [.ref (ae 0), .int (iZ a0), .int (iZ a1)] (mRw ad ae cs K (mJof S th) rest) (fun v ws' => ∃ r : Int32, v = some (.int r) ∧ (((((0 ≤ a0 ∧ a0 < 4) ∧ (0 ≤ a1 ∧ a1 < 4)) ∧ (0 ≤ (0 : Int))) ∧ r = iZ (oLoc S a0.toNat (sse S a1.toNat) (sna S a1.toNat) (sow S a1.toNat)).1 ∧ ws' = mRw ad ae cs K (mJof (oLoc S a0.toNat (sse S a1.toNat) (sna S a1.toNat) (sow S a1.toNat)).2 0) rest) ∨ (¬ ((0 ≤ a0 ∧ a0 < 4) ∧ (0 ≤ a1 ∧ a1 < 4)) ∧ ws' = mRw ad ae cs K (mJof S 1) rest) ∨ (((0 ≤ a0 ∧ a0 < 4) ∧ (0 ≤ a1 ∧ a1 < 4)) ∧ ¬ (0 ≤ (0 : Int)) ∧ ws' = mRw ad ae cs K (mJof S 2) rest))) mNo := by
  refine mCt.of (by decide +kernel) (Nat.le_of_ble_eq_true rfl) (fun X hX hE => ?_)
  replace hX : mOK X RX4 cX4_copy 3 ⟨2, 0, 0, 45⟩ [] (mTy cs) := hX
  refine r_aload_n hX dX4_copy_0 rfl rfl ?_
  refine r_iload_n hX dX4_copy_1 rfl rfl ?_
  refine r_callS hX (z_X4_isNone _ _ _ (by omega)) ks_X4_61 rfl rfl (Nat.le_of_ble_eq_true rfl) ⟨(Nat.le_of_ble_eq_true rfl), (Nat.le_of_ble_eq_true rfl)⟩ ⟨(Nat.le_of_ble_eq_true rfl), (Nat.le_of_ble_eq_true rfl)⟩ dX4_copy_2 (fun _ _ z => False.elim z) (fun v9 ws9 h1 => ?_)
  obtain ⟨rfl, hw9⟩ := h1
  subst ws9
  dsimp only [mPush]
  refine r_if_neB (tgt := 15) hX dX4_copy_5 (by decide) (fun c2 => ?_) (fun c2 => ?_)
  · have c2 := of_decide_eq_true c2
    refine r_iconst (v := b2i true) hX dX4_copy_15 (by decide) ?_
    refine r_goto (tgt := 20) hX dX4_copy_16 (by decide) ?_
    refine r_iconst (v := b2i false) hX dX4_copy_20 (by decide) ?_
    refine r_callV hX (z_X4_isStopped ad ae cs K S th rest true false) kv_X4_68 14 rfl rfl rfl rfl (Nat.le_of_ble_eq_true rfl) ⟨(Nat.le_of_ble_eq_true rfl), (Nat.le_of_ble_eq_true rfl)⟩ ⟨(Nat.le_of_ble_eq_true rfl), (Nat.le_of_ble_eq_true rfl)⟩ dX4_copy_21 (fun _ _ z => False.elim z) (fun v9 ws9 h3 => ?_)
    obtain ⟨rfl, hw9⟩ := h3
    subst ws9
    dsimp only [mPush]
    refine r_if_eqB (tgt := 31) hX dX4_copy_24 (by decide) (fun c4 => ?_) (fun c4 => ?_)
    · exact absurd c4 (by simp)
    · rcases zst1 c4 with ⟨hx, e0⟩ | ⟨hx, hy, e0⟩
      · rw [e0]
        refine r_iconstZ hX dX4_copy_27 ?_
        refine r_goto (tgt := 60) hX dX4_copy_28 (by decide) ?_
        exact r_iret hX hE dX4_copy_60 (Nat.le_of_ble_eq_true rfl) (Nat.le_of_ble_eq_true rfl) ⟨_, rfl, Or.inr (Or.inl ⟨by omega, rfl⟩)⟩
      · exact absurd hx (by decide)
  · have c2 := of_decide_eq_false c2
    refine r_iload_n hX dX4_copy_8 rfl rfl ?_
    refine r_callS hX (z_X4_isNone _ _ _ (by omega)) ks_X4_61 rfl rfl (Nat.le_of_ble_eq_true rfl) ⟨(Nat.le_of_ble_eq_true rfl), (Nat.le_of_ble_eq_true rfl)⟩ ⟨(Nat.le_of_ble_eq_true rfl), (Nat.le_of_ble_eq_true rfl)⟩ dX4_copy_9 (fun _ _ z => False.elim z) (fun v9 ws9 h5 => ?_)
    obtain ⟨rfl, hw9⟩ := h5
    subst ws9
    dsimp only [mPush]
    refine r_if_eqB (tgt := 19) hX dX4_copy_12 (by decide) (fun c6 => ?_) (fun c6 => ?_)
    · have c6 := of_decide_eq_false c6
      refine r_iconst (v := b2i false) hX dX4_copy_19 (by decide) ?_
      refine r_iconst (v := b2i false) hX dX4_copy_20 (by decide) ?_
      refine r_callV hX (z_X4_isStopped ad ae cs K S th rest false false) kv_X4_68 14 rfl rfl rfl rfl (Nat.le_of_ble_eq_true rfl) ⟨(Nat.le_of_ble_eq_true rfl), (Nat.le_of_ble_eq_true rfl)⟩ ⟨(Nat.le_of_ble_eq_true rfl), (Nat.le_of_ble_eq_true rfl)⟩ dX4_copy_21 (fun _ _ z => False.elim z) (fun v9 ws9 h7 => ?_)
      obtain ⟨rfl, hw9⟩ := h7
      subst ws9
      dsimp only [mPush]
      refine r_if_eqB (tgt := 31) hX dX4_copy_24 (by decide) (fun c8 => ?_) (fun c8 => ?_)
      · obtain ⟨⟨hx, hy⟩, e0⟩ := zst0 c8
        rw [e0]
        have hse := hS.2.2.2.1 a1.toNat (by omega)
        refine r_aload_n hX dX4_copy_31 rfl rfl ?_
        refine r_iload_n hX dX4_copy_32 rfl rfl ?_
        refine r_aload_n hX dX4_copy_33 rfl rfl ?_
        refine r_get hX kf_X4_17 14 rfl rfl dX4_copy_34 ?_
        refine r_iload_n hX dX4_copy_37 rfl rfl ?_
        refine r_ialdZ hX 17 0 rfl rfl (a1).toNat (by omega) (by omega) (by decide) dX4_copy_38 ?_
        refine r_aload_n hX dX4_copy_39 rfl rfl ?_
        refine r_get hX kf_X4_20 14 rfl rfl dX4_copy_40 ?_
        refine r_iload_n hX dX4_copy_43 rfl rfl ?_
        refine r_ialdZ hX 18 0 rfl rfl (a1).toNat (by omega) (by omega) (by decide) dX4_copy_44 ?_
        refine r_aload_n hX dX4_copy_45 rfl rfl ?_
        refine r_get hX kf_X4_23 14 rfl rfl dX4_copy_46 ?_
        refine r_iload_n hX dX4_copy_49 rfl rfl ?_
        refine r_ialdZ hX 19 0 rfl rfl (a1).toNat (by omega) (by omega) (by decide) dX4_copy_50 ?_
        refine r_aload_n hX dX4_copy_51 rfl rfl ?_
        refine r_get hX kf_X4_26 14 rfl rfl dX4_copy_52 ?_
        refine r_iload_n hX dX4_copy_55 rfl rfl ?_
        refine r_ialdZ hX 20 0 rfl rfl (a1).toNat (by omega) (by omega) (by decide) dX4_copy_56 ?_
        refine r_callV hX (z_X4_put ad ae cs K S 0 rest hS _ (a0).toNat (by omega) (by omega) _ _ _ _ (by omega)) kv_X4_139 14 rfl rfl rfl rfl (Nat.le_of_ble_eq_true rfl) ⟨(Nat.le_of_ble_eq_true rfl), (Nat.le_of_ble_eq_true rfl)⟩ ⟨(Nat.le_of_ble_eq_true rfl), (Nat.le_of_ble_eq_true rfl)⟩ dX4_copy_57 (fun _ _ z => False.elim z) (fun v9 ws9 h9 => ?_)
        obtain ⟨rfl, hw9⟩ := h9
        subst ws9
        dsimp only [mPush]
        refine r_iret hX hE dX4_copy_60 (Nat.le_of_ble_eq_true rfl) (Nat.le_of_ble_eq_true rfl) ⟨_, rfl, Or.inl ⟨by omega, ?_⟩⟩
        rw [oLoc_y (by omega)]
        exact ⟨congrArg iZ (by omega), by rw [show sse S a1.toNat / 86400 * 86400 + sse S a1.toNat % 86400 = sse S a1.toNat by omega]⟩
      · rcases zst1 c8 with ⟨hx, e0⟩ | ⟨hx, hy, e0⟩
        · exact absurd hx (by decide)
        · exact absurd hy (by decide)
    · have c6 := of_decide_eq_true c6
      refine r_iconst (v := b2i true) hX dX4_copy_15 (by decide) ?_
      refine r_goto (tgt := 20) hX dX4_copy_16 (by decide) ?_
      refine r_iconst (v := b2i false) hX dX4_copy_20 (by decide) ?_
      refine r_callV hX (z_X4_isStopped ad ae cs K S th rest true false) kv_X4_68 14 rfl rfl rfl rfl (Nat.le_of_ble_eq_true rfl) ⟨(Nat.le_of_ble_eq_true rfl), (Nat.le_of_ble_eq_true rfl)⟩ ⟨(Nat.le_of_ble_eq_true rfl), (Nat.le_of_ble_eq_true rfl)⟩ dX4_copy_21 (fun _ _ z => False.elim z) (fun v9 ws9 h10 => ?_)
      obtain ⟨rfl, hw9⟩ := h10
      subst ws9
      dsimp only [mPush]
      refine r_if_eqB (tgt := 31) hX dX4_copy_24 (by decide) (fun c11 => ?_) (fun c11 => ?_)
      · exact absurd c11 (by simp)
      · rcases zst1 c11 with ⟨hx, e0⟩ | ⟨hx, hy, e0⟩
        · rw [e0]
          refine r_iconstZ hX dX4_copy_27 ?_
          refine r_goto (tgt := 60) hX dX4_copy_28 (by decide) ?_
          exact r_iret hX hE dX4_copy_60 (Nat.le_of_ble_eq_true rfl) (Nat.le_of_ble_eq_true rfl) ⟨_, rfl, Or.inr (Or.inl ⟨by omega, rfl⟩)⟩
        · exact absurd hx (by decide)
set_option maxHeartbeats 4000000 in
set_option maxRecDepth 20000 in
theorem z_X4_ofDate (ad ae : Nat → Nat) (cs : ClassId × ClassId × ClassId) (K : mK) (S : mS) (th : Int32) (rest : va_W) (hS : sWF S) (a0 : Int) (h0 : rJ a0) (a1 : Int) (h1 : rJ a1)  : mCt (mTy cs) yX4_ofDate cX4_ofDate 3 (some .int) ⟨6, 1, 4, 142⟩ [.ref (ae 0), .int (iZ a0), .int (iZ a1)] (mRw ad ae cs K (mJof S th) rest) (fun v ws' => ∃ r : Int32, v = some (.int r) ∧ (((((0 ≤ a0 ∧ a0 < 4)) ∧ (0 ≤ a1 ∧ a1 ≤ 12)) ∧ r = iZ (zDP (sse S a0.toNat) (sna S a0.toNat) (sow S a0.toNat) a1) ∧ ws' = mRw ad ae cs K (mJof S 0) rest) ∨ (¬ ((0 ≤ a0 ∧ a0 < 4)) ∧ ws' = mRw ad ae cs K (mJof S 1) rest) ∨ (((0 ≤ a0 ∧ a0 < 4)) ∧ ¬ (0 ≤ a1 ∧ a1 ≤ 12) ∧ ws' = mRw ad ae cs K (mJof S 2) rest))) mNo := by
  refine mCt.of (by decide +kernel) (Nat.le_of_ble_eq_true rfl) (fun X hX hE => ?_)
  replace hX : mOK X RX4 cX4_ofDate 3 ⟨6, 1, 4, 142⟩ [] (mTy cs) := hX
  refine r_aload_n hX dX4_ofDate_0 rfl rfl ?_
  refine r_iload_n hX dX4_ofDate_1 rfl rfl ?_
  refine r_callS hX (z_X4_isNone _ _ _ (by omega)) ks_X4_61 rfl rfl (Nat.le_of_ble_eq_true rfl) ⟨(Nat.le_of_ble_eq_true rfl), (Nat.le_of_ble_eq_true rfl)⟩ ⟨(Nat.le_of_ble_eq_true rfl), (Nat.le_of_ble_eq_true rfl)⟩ dX4_ofDate_2 (fun _ _ z => False.elim z) (fun v9 ws9 h1 => ?_)
  obtain ⟨rfl, hw9⟩ := h1
  subst ws9
  dsimp only [mPush]
  refine r_iload_n hX dX4_ofDate_5 rfl rfl ?_
  refine r_i2lZ hX dX4_ofDate_6 (by omega) ?_
  refine r_lconstZ (v := 0) hX dX4_ofDate_7 rfl ?_
  refine r_ldc2Z (z := 12) hX kc_X4_151 (by decide) dX4_ofDate_8 ?_
  refine r_callS hX (z_X4_isIn _ _ _ _ _ (by omega) (by omega) (by omega)) ks_X4_38 rfl rfl (Nat.le_of_ble_eq_true rfl) ⟨(Nat.le_of_ble_eq_true rfl), (Nat.le_of_ble_eq_true rfl)⟩ ⟨(Nat.le_of_ble_eq_true rfl), (Nat.le_of_ble_eq_true rfl)⟩ dX4_ofDate_11 (fun _ _ z => False.elim z) (fun v9 ws9 h2 => ?_)
  obtain ⟨rfl, hw9⟩ := h2
  subst ws9
  dsimp only [mPush]
  refine r_if_neB (tgt := 21) hX dX4_ofDate_14 (by decide) (fun c3 => ?_) (fun c3 => ?_)
  · have c3 := of_decide_eq_true c3
    refine r_iconst (v := b2i false) hX dX4_ofDate_21 (by decide) ?_
    refine r_callV hX (z_X4_isStopped ad ae cs K S th rest (decide (¬ (0 ≤ a0 ∧ a0 < 4))) false) kv_X4_68 14 rfl rfl rfl rfl (Nat.le_of_ble_eq_true rfl) ⟨(Nat.le_of_ble_eq_true rfl), (Nat.le_of_ble_eq_true rfl)⟩ ⟨(Nat.le_of_ble_eq_true rfl), (Nat.le_of_ble_eq_true rfl)⟩ dX4_ofDate_22 (fun _ _ z => False.elim z) (fun v9 ws9 h4 => ?_)
    obtain ⟨rfl, hw9⟩ := h4
    subst ws9
    dsimp only [mPush]
    refine r_if_eqB (tgt := 32) hX dX4_ofDate_25 (by decide) (fun c5 => ?_) (fun c5 => ?_)
    · obtain ⟨⟨hx, hy⟩, e0⟩ := zst0 c5
      have hx := of_decide_eq_false hx
      rw [e0]
      refine r_aload_n hX dX4_ofDate_32 rfl rfl ?_
      refine r_iload_n hX dX4_ofDate_33 rfl rfl ?_
      refine r_iload_n hX dX4_ofDate_34 rfl rfl ?_
      refine r_callV hX (z_X4_told ad ae cs K S 0 rest hS _ (a0).toNat (by omega) (by omega) _ (by omega)) kv_X4_193 14 rfl rfl rfl rfl (Nat.le_of_ble_eq_true rfl) ⟨(Nat.le_of_ble_eq_true rfl), (Nat.le_of_ble_eq_true rfl)⟩ ⟨(Nat.le_of_ble_eq_true rfl), (Nat.le_of_ble_eq_true rfl)⟩ dX4_ofDate_35 (fun _ _ z => False.elim z) (fun v9 ws9 h6 => ?_)
      obtain ⟨rfl, hw9⟩ := h6
      subst ws9
      dsimp only [mPush]
      refine r_iret hX hE dX4_ofDate_38 (Nat.le_of_ble_eq_true rfl) (Nat.le_of_ble_eq_true rfl) ⟨_, rfl, Or.inl ⟨by omega, congrArg iZ ?_, rfl⟩⟩
      rfl
    · rcases zst1 c5 with ⟨hx, e0⟩ | ⟨hx, hy, e0⟩
      · rw [e0]
        have hx := of_decide_eq_true hx
        refine r_iconstZ hX dX4_ofDate_28 ?_
        refine r_goto (tgt := 38) hX dX4_ofDate_29 (by decide) ?_
        exact r_iret hX hE dX4_ofDate_38 (Nat.le_of_ble_eq_true rfl) (Nat.le_of_ble_eq_true rfl) ⟨_, rfl, Or.inr (Or.inl ⟨by omega, rfl⟩)⟩
      · exact absurd hy (by decide)
  · have c3 := of_decide_eq_false c3
    refine r_iconst (v := b2i true) hX dX4_ofDate_17 (by decide) ?_
    refine r_goto (tgt := 22) hX dX4_ofDate_18 (by decide) ?_
    refine r_callV hX (z_X4_isStopped ad ae cs K S th rest (decide (¬ (0 ≤ a0 ∧ a0 < 4))) true) kv_X4_68 14 rfl rfl rfl rfl (Nat.le_of_ble_eq_true rfl) ⟨(Nat.le_of_ble_eq_true rfl), (Nat.le_of_ble_eq_true rfl)⟩ ⟨(Nat.le_of_ble_eq_true rfl), (Nat.le_of_ble_eq_true rfl)⟩ dX4_ofDate_22 (fun _ _ z => False.elim z) (fun v9 ws9 h7 => ?_)
    obtain ⟨rfl, hw9⟩ := h7
    subst ws9
    dsimp only [mPush]
    refine r_if_eqB (tgt := 32) hX dX4_ofDate_25 (by decide) (fun c8 => ?_) (fun c8 => ?_)
    · exact absurd c8 (by simp)
    · rcases zst1 c8 with ⟨hx, e0⟩ | ⟨hx, hy, e0⟩
      · rw [e0]
        have hx := of_decide_eq_true hx
        refine r_iconstZ hX dX4_ofDate_28 ?_
        refine r_goto (tgt := 38) hX dX4_ofDate_29 (by decide) ?_
        exact r_iret hX hE dX4_ofDate_38 (Nat.le_of_ble_eq_true rfl) (Nat.le_of_ble_eq_true rfl) ⟨_, rfl, Or.inr (Or.inl ⟨by omega, rfl⟩)⟩
      · rw [e0]
        have hx := of_decide_eq_false hx
        refine r_iconstZ hX dX4_ofDate_28 ?_
        refine r_goto (tgt := 38) hX dX4_ofDate_29 (by decide) ?_
        exact r_iret hX hE dX4_ofDate_38 (Nat.le_of_ble_eq_true rfl) (Nat.le_of_ble_eq_true rfl) ⟨_, rfl, Or.inr (Or.inr ⟨by omega, by omega, rfl⟩)⟩
set_option maxHeartbeats 4000000 in
set_option maxRecDepth 20000 in
theorem z_X4_orderDate (ad ae : Nat → Nat) (cs : ClassId × ClassId × ClassId) (K : mK) (S : mS) (th : Int32) (rest : va_W) (hS : sWF S) (a0 : Int) (h0 : rJ a0) (a1 : Int) (h1 : rJ a1)  : mCt (mTy cs) yX4_orderDate cX4_orderDate 3 (some .int) ⟨3, 0, 0, 65⟩ [.ref (ae 0), .int (iZ a0), .int (iZ a1)] (mRw ad ae cs K (mJof S th) rest) (fun v ws' => ∃ r : Int32, v = some (.int r) ∧ (((((0 ≤ a0 ∧ a0 < 4) ∧ (0 ≤ a1 ∧ a1 < 4)) ∧ (0 ≤ (0 : Int))) ∧ r = iZ (zTo (sse S a0.toNat) (sna S a0.toNat) (sow S a0.toNat) (sse S a1.toNat) (sna S a1.toNat) (sow S a1.toNat)) ∧ ws' = mRw ad ae cs K (mJof S 0) rest) ∨ (¬ ((0 ≤ a0 ∧ a0 < 4) ∧ (0 ≤ a1 ∧ a1 < 4)) ∧ ws' = mRw ad ae cs K (mJof S 1) rest) ∨ (((0 ≤ a0 ∧ a0 < 4) ∧ (0 ≤ a1 ∧ a1 < 4)) ∧ ¬ (0 ≤ (0 : Int)) ∧ ws' = mRw ad ae cs K (mJof S 2) rest))) mNo := by
  refine mCt.of (by decide +kernel) (Nat.le_of_ble_eq_true rfl) (fun X hX hE => ?_)
  replace hX : mOK X RX4 cX4_orderDate 3 ⟨3, 0, 0, 65⟩ [] (mTy cs) := hX
  refine r_aload_n hX dX4_orderDate_0 rfl rfl ?_
  refine r_iload_n hX dX4_orderDate_1 rfl rfl ?_
  refine r_callS hX (z_X4_isNone _ _ _ (by omega)) ks_X4_61 rfl rfl (Nat.le_of_ble_eq_true rfl) ⟨(Nat.le_of_ble_eq_true rfl), (Nat.le_of_ble_eq_true rfl)⟩ ⟨(Nat.le_of_ble_eq_true rfl), (Nat.le_of_ble_eq_true rfl)⟩ dX4_orderDate_2 (fun _ _ z => False.elim z) (fun v9 ws9 h1 => ?_)
  obtain ⟨rfl, hw9⟩ := h1
  subst ws9
  dsimp only [mPush]
  refine r_if_neB (tgt := 15) hX dX4_orderDate_5 (by decide) (fun c2 => ?_) (fun c2 => ?_)
  · have c2 := of_decide_eq_true c2
    refine r_iconst (v := b2i true) hX dX4_orderDate_15 (by decide) ?_
    refine r_goto (tgt := 20) hX dX4_orderDate_16 (by decide) ?_
    refine r_iconst (v := b2i false) hX dX4_orderDate_20 (by decide) ?_
    refine r_callV hX (z_X4_isStopped ad ae cs K S th rest true false) kv_X4_68 14 rfl rfl rfl rfl (Nat.le_of_ble_eq_true rfl) ⟨(Nat.le_of_ble_eq_true rfl), (Nat.le_of_ble_eq_true rfl)⟩ ⟨(Nat.le_of_ble_eq_true rfl), (Nat.le_of_ble_eq_true rfl)⟩ dX4_orderDate_21 (fun _ _ z => False.elim z) (fun v9 ws9 h3 => ?_)
    obtain ⟨rfl, hw9⟩ := h3
    subst ws9
    dsimp only [mPush]
    refine r_if_eqB (tgt := 31) hX dX4_orderDate_24 (by decide) (fun c4 => ?_) (fun c4 => ?_)
    · exact absurd c4 (by simp)
    · rcases zst1 c4 with ⟨hx, e0⟩ | ⟨hx, hy, e0⟩
      · rw [e0]
        refine r_iconstZ hX dX4_orderDate_27 ?_
        refine r_goto (tgt := 37) hX dX4_orderDate_28 (by decide) ?_
        exact r_iret hX hE dX4_orderDate_37 (Nat.le_of_ble_eq_true rfl) (Nat.le_of_ble_eq_true rfl) ⟨_, rfl, Or.inr (Or.inl ⟨by omega, rfl⟩)⟩
      · exact absurd hx (by decide)
  · have c2 := of_decide_eq_false c2
    refine r_iload_n hX dX4_orderDate_8 rfl rfl ?_
    refine r_callS hX (z_X4_isNone _ _ _ (by omega)) ks_X4_61 rfl rfl (Nat.le_of_ble_eq_true rfl) ⟨(Nat.le_of_ble_eq_true rfl), (Nat.le_of_ble_eq_true rfl)⟩ ⟨(Nat.le_of_ble_eq_true rfl), (Nat.le_of_ble_eq_true rfl)⟩ dX4_orderDate_9 (fun _ _ z => False.elim z) (fun v9 ws9 h5 => ?_)
    obtain ⟨rfl, hw9⟩ := h5
    subst ws9
    dsimp only [mPush]
    refine r_if_eqB (tgt := 19) hX dX4_orderDate_12 (by decide) (fun c6 => ?_) (fun c6 => ?_)
    · have c6 := of_decide_eq_false c6
      refine r_iconst (v := b2i false) hX dX4_orderDate_19 (by decide) ?_
      refine r_iconst (v := b2i false) hX dX4_orderDate_20 (by decide) ?_
      refine r_callV hX (z_X4_isStopped ad ae cs K S th rest false false) kv_X4_68 14 rfl rfl rfl rfl (Nat.le_of_ble_eq_true rfl) ⟨(Nat.le_of_ble_eq_true rfl), (Nat.le_of_ble_eq_true rfl)⟩ ⟨(Nat.le_of_ble_eq_true rfl), (Nat.le_of_ble_eq_true rfl)⟩ dX4_orderDate_21 (fun _ _ z => False.elim z) (fun v9 ws9 h7 => ?_)
      obtain ⟨rfl, hw9⟩ := h7
      subst ws9
      dsimp only [mPush]
      refine r_if_eqB (tgt := 31) hX dX4_orderDate_24 (by decide) (fun c8 => ?_) (fun c8 => ?_)
      · obtain ⟨⟨hx, hy⟩, e0⟩ := zst0 c8
        rw [e0]
        refine r_aload_n hX dX4_orderDate_31 rfl rfl ?_
        refine r_iload_n hX dX4_orderDate_32 rfl rfl ?_
        refine r_iload_n hX dX4_orderDate_33 rfl rfl ?_
        refine r_callV hX (z_X4_ordered ad ae cs K S 0 rest hS _ (a0).toNat (by omega) (by omega) _ (a1).toNat (by omega) (by omega)) kv_X4_196 14 rfl rfl rfl rfl (Nat.le_of_ble_eq_true rfl) ⟨(Nat.le_of_ble_eq_true rfl), (Nat.le_of_ble_eq_true rfl)⟩ ⟨(Nat.le_of_ble_eq_true rfl), (Nat.le_of_ble_eq_true rfl)⟩ dX4_orderDate_34 (fun _ _ z => False.elim z) (fun v9 ws9 h9 => ?_)
        obtain ⟨rfl, hw9⟩ := h9
        subst ws9
        dsimp only [mPush]
        have hto9 := zTo_b (sse S ((a0).toNat)) (sna S ((a0).toNat)) (sow S ((a0).toNat)) (sse S ((a1).toNat)) (sna S ((a1).toNat)) (sow S ((a1).toNat))
        refine r_iret hX hE dX4_orderDate_37 (Nat.le_of_ble_eq_true rfl) (Nat.le_of_ble_eq_true rfl) ⟨_, rfl, Or.inl ⟨by omega, congrArg iZ ?_, rfl⟩⟩
        rfl
      · rcases zst1 c8 with ⟨hx, e0⟩ | ⟨hx, hy, e0⟩
        · exact absurd hx (by decide)
        · exact absurd hy (by decide)
    · have c6 := of_decide_eq_true c6
      refine r_iconst (v := b2i true) hX dX4_orderDate_15 (by decide) ?_
      refine r_goto (tgt := 20) hX dX4_orderDate_16 (by decide) ?_
      refine r_iconst (v := b2i false) hX dX4_orderDate_20 (by decide) ?_
      refine r_callV hX (z_X4_isStopped ad ae cs K S th rest true false) kv_X4_68 14 rfl rfl rfl rfl (Nat.le_of_ble_eq_true rfl) ⟨(Nat.le_of_ble_eq_true rfl), (Nat.le_of_ble_eq_true rfl)⟩ ⟨(Nat.le_of_ble_eq_true rfl), (Nat.le_of_ble_eq_true rfl)⟩ dX4_orderDate_21 (fun _ _ z => False.elim z) (fun v9 ws9 h10 => ?_)
      obtain ⟨rfl, hw9⟩ := h10
      subst ws9
      dsimp only [mPush]
      refine r_if_eqB (tgt := 31) hX dX4_orderDate_24 (by decide) (fun c11 => ?_) (fun c11 => ?_)
      · exact absurd c11 (by simp)
      · rcases zst1 c11 with ⟨hx, e0⟩ | ⟨hx, hy, e0⟩
        · rw [e0]
          refine r_iconstZ hX dX4_orderDate_27 ?_
          refine r_goto (tgt := 37) hX dX4_orderDate_28 (by decide) ?_
          exact r_iret hX hE dX4_orderDate_37 (Nat.le_of_ble_eq_true rfl) (Nat.le_of_ble_eq_true rfl) ⟨_, rfl, Or.inr (Or.inl ⟨by omega, rfl⟩)⟩
        · exact absurd hx (by decide)
set_option maxHeartbeats 4000000 in
set_option maxRecDepth 20000 in
theorem z_X4_isDate (ad ae : Nat → Nat) (cs : ClassId × ClassId × ClassId) (K : mK) (S : mS) (th : Int32) (rest : va_W) (hS : sWF S) (a0 : Int) (h0 : rJ a0) (a1 : Int) (h1 : rJ a1) (a2 : Int) (h2 : rJ a2)  : mCt (mTy cs) yX4_isDate cX4_isDate 4 (some .boolean) ⟨3, 0, 0, 66⟩ [.ref (ae 0), .int (iZ a0), .int (iZ a1), .int (iZ a2)] (mRw ad ae cs K (mJof S th) rest) (fun v ws' => ∃ r : Int32, v = some (.int r) ∧ (((((0 ≤ a0 ∧ a0 < 4) ∧ (0 ≤ a1 ∧ a1 < 4)) ∧ (0 ≤ a2 ∧ a2 ≤ 3)) ∧ r = b2i (zSo (sse S a0.toNat) (sna S a0.toNat) (sow S a0.toNat) (sse S a1.toNat) (sna S a1.toNat) (sow S a1.toNat) a2) ∧ ws' = mRw ad ae cs K (mJof S 0) rest) ∨ (¬ ((0 ≤ a0 ∧ a0 < 4) ∧ (0 ≤ a1 ∧ a1 < 4)) ∧ ws' = mRw ad ae cs K (mJof S 1) rest) ∨ (((0 ≤ a0 ∧ a0 < 4) ∧ (0 ≤ a1 ∧ a1 < 4)) ∧ ¬ (0 ≤ a2 ∧ a2 ≤ 3) ∧ ws' = mRw ad ae cs K (mJof S 2) rest))) mNo := by
  refine mCt.of (by decide +kernel) (Nat.le_of_ble_eq_true rfl) (fun X hX hE => ?_)
  replace hX : mOK X RX4 cX4_isDate 4 ⟨3, 0, 0, 66⟩ [] (mTy cs) := hX
  refine r_aload_n hX dX4_isDate_0 rfl rfl ?_
  refine r_iload_n hX dX4_isDate_1 rfl rfl ?_
  refine r_callS hX (z_X4_isNone _ _ _ (by omega)) ks_X4_61 rfl rfl (Nat.le_of_ble_eq_true rfl) ⟨(Nat.le_of_ble_eq_true rfl), (Nat.le_of_ble_eq_true rfl)⟩ ⟨(Nat.le_of_ble_eq_true rfl), (Nat.le_of_ble_eq_true rfl)⟩ dX4_isDate_2 (fun _ _ z => False.elim z) (fun v9 ws9 h1 => ?_)
  obtain ⟨rfl, hw9⟩ := h1
  subst ws9
  dsimp only [mPush]
  refine r_if_neB (tgt := 15) hX dX4_isDate_5 (by decide) (fun c2 => ?_) (fun c2 => ?_)
  · have c2 := of_decide_eq_true c2
    refine r_iconst (v := b2i true) hX dX4_isDate_15 (by decide) ?_
    refine r_goto (tgt := 20) hX dX4_isDate_16 (by decide) ?_
    refine r_iload_n hX dX4_isDate_20 rfl rfl ?_
    refine r_i2lZ hX dX4_isDate_21 (by omega) ?_
    refine r_lconstZ (v := 0) hX dX4_isDate_22 rfl ?_
    refine r_ldc2Z (z := 3) hX kc_X4_36 (by decide) dX4_isDate_23 ?_
    refine r_callS hX (z_X4_isIn _ _ _ _ _ (by omega) (by omega) (by omega)) ks_X4_38 rfl rfl (Nat.le_of_ble_eq_true rfl) ⟨(Nat.le_of_ble_eq_true rfl), (Nat.le_of_ble_eq_true rfl)⟩ ⟨(Nat.le_of_ble_eq_true rfl), (Nat.le_of_ble_eq_true rfl)⟩ dX4_isDate_26 (fun _ _ z => False.elim z) (fun v9 ws9 h3 => ?_)
    obtain ⟨rfl, hw9⟩ := h3
    subst ws9
    dsimp only [mPush]
    refine r_if_neB (tgt := 36) hX dX4_isDate_29 (by decide) (fun c4 => ?_) (fun c4 => ?_)
    · have c4 := of_decide_eq_true c4
      refine r_iconst (v := b2i false) hX dX4_isDate_36 (by decide) ?_
      refine r_callV hX (z_X4_isStopped ad ae cs K S th rest true false) kv_X4_68 14 rfl rfl rfl rfl (Nat.le_of_ble_eq_true rfl) ⟨(Nat.le_of_ble_eq_true rfl), (Nat.le_of_ble_eq_true rfl)⟩ ⟨(Nat.le_of_ble_eq_true rfl), (Nat.le_of_ble_eq_true rfl)⟩ dX4_isDate_37 (fun _ _ z => False.elim z) (fun v9 ws9 h5 => ?_)
      obtain ⟨rfl, hw9⟩ := h5
      subst ws9
      dsimp only [mPush]
      refine r_if_neB (tgt := 57) hX dX4_isDate_40 (by decide) (fun c6 => ?_) (fun c6 => ?_)
      · rcases zst1 c6 with ⟨hx, e0⟩ | ⟨hx, hy, e0⟩
        · rw [e0]
          refine r_iconstZ hX dX4_isDate_57 ?_
          exact r_zret hX hE dX4_isDate_58 (by decide) (Nat.le_of_ble_eq_true rfl) (Nat.le_of_ble_eq_true rfl) ⟨_, rfl, Or.inr (Or.inl ⟨by omega, rfl⟩)⟩
        · exact absurd hx (by decide)
      · exact absurd c6 (by simp)
    · have c4 := of_decide_eq_false c4
      refine r_iconst (v := b2i true) hX dX4_isDate_32 (by decide) ?_
      refine r_goto (tgt := 37) hX dX4_isDate_33 (by decide) ?_
      refine r_callV hX (z_X4_isStopped ad ae cs K S th rest true true) kv_X4_68 14 rfl rfl rfl rfl (Nat.le_of_ble_eq_true rfl) ⟨(Nat.le_of_ble_eq_true rfl), (Nat.le_of_ble_eq_true rfl)⟩ ⟨(Nat.le_of_ble_eq_true rfl), (Nat.le_of_ble_eq_true rfl)⟩ dX4_isDate_37 (fun _ _ z => False.elim z) (fun v9 ws9 h7 => ?_)
      obtain ⟨rfl, hw9⟩ := h7
      subst ws9
      dsimp only [mPush]
      refine r_if_neB (tgt := 57) hX dX4_isDate_40 (by decide) (fun c8 => ?_) (fun c8 => ?_)
      · rcases zst1 c8 with ⟨hx, e0⟩ | ⟨hx, hy, e0⟩
        · rw [e0]
          refine r_iconstZ hX dX4_isDate_57 ?_
          exact r_zret hX hE dX4_isDate_58 (by decide) (Nat.le_of_ble_eq_true rfl) (Nat.le_of_ble_eq_true rfl) ⟨_, rfl, Or.inr (Or.inl ⟨by omega, rfl⟩)⟩
        · exact absurd hx (by decide)
      · exact absurd c8 (by simp)
  · have c2 := of_decide_eq_false c2
    refine r_iload_n hX dX4_isDate_8 rfl rfl ?_
    refine r_callS hX (z_X4_isNone _ _ _ (by omega)) ks_X4_61 rfl rfl (Nat.le_of_ble_eq_true rfl) ⟨(Nat.le_of_ble_eq_true rfl), (Nat.le_of_ble_eq_true rfl)⟩ ⟨(Nat.le_of_ble_eq_true rfl), (Nat.le_of_ble_eq_true rfl)⟩ dX4_isDate_9 (fun _ _ z => False.elim z) (fun v9 ws9 h9 => ?_)
    obtain ⟨rfl, hw9⟩ := h9
    subst ws9
    dsimp only [mPush]
    refine r_if_eqB (tgt := 19) hX dX4_isDate_12 (by decide) (fun c10 => ?_) (fun c10 => ?_)
    · have c10 := of_decide_eq_false c10
      refine r_iconst (v := b2i false) hX dX4_isDate_19 (by decide) ?_
      refine r_iload_n hX dX4_isDate_20 rfl rfl ?_
      refine r_i2lZ hX dX4_isDate_21 (by omega) ?_
      refine r_lconstZ (v := 0) hX dX4_isDate_22 rfl ?_
      refine r_ldc2Z (z := 3) hX kc_X4_36 (by decide) dX4_isDate_23 ?_
      refine r_callS hX (z_X4_isIn _ _ _ _ _ (by omega) (by omega) (by omega)) ks_X4_38 rfl rfl (Nat.le_of_ble_eq_true rfl) ⟨(Nat.le_of_ble_eq_true rfl), (Nat.le_of_ble_eq_true rfl)⟩ ⟨(Nat.le_of_ble_eq_true rfl), (Nat.le_of_ble_eq_true rfl)⟩ dX4_isDate_26 (fun _ _ z => False.elim z) (fun v9 ws9 h11 => ?_)
      obtain ⟨rfl, hw9⟩ := h11
      subst ws9
      dsimp only [mPush]
      refine r_if_neB (tgt := 36) hX dX4_isDate_29 (by decide) (fun c12 => ?_) (fun c12 => ?_)
      · have c12 := of_decide_eq_true c12
        refine r_iconst (v := b2i false) hX dX4_isDate_36 (by decide) ?_
        refine r_callV hX (z_X4_isStopped ad ae cs K S th rest false false) kv_X4_68 14 rfl rfl rfl rfl (Nat.le_of_ble_eq_true rfl) ⟨(Nat.le_of_ble_eq_true rfl), (Nat.le_of_ble_eq_true rfl)⟩ ⟨(Nat.le_of_ble_eq_true rfl), (Nat.le_of_ble_eq_true rfl)⟩ dX4_isDate_37 (fun _ _ z => False.elim z) (fun v9 ws9 h13 => ?_)
        obtain ⟨rfl, hw9⟩ := h13
        subst ws9
        dsimp only [mPush]
        refine r_if_neB (tgt := 57) hX dX4_isDate_40 (by decide) (fun c14 => ?_) (fun c14 => ?_)
        · rcases zst1 c14 with ⟨hx, e0⟩ | ⟨hx, hy, e0⟩
          · exact absurd hx (by decide)
          · exact absurd hy (by decide)
        · obtain ⟨⟨hx, hy⟩, e0⟩ := zst0 c14
          rw [e0]
          refine r_aload_n hX dX4_isDate_43 rfl rfl ?_
          refine r_iload_n hX dX4_isDate_44 rfl rfl ?_
          refine r_iload_n hX dX4_isDate_45 rfl rfl ?_
          refine r_iload_n hX dX4_isDate_46 rfl rfl ?_
          refine r_callV hX (z_X4_is ad ae cs K S 0 rest hS _ (a0).toNat (by omega) (by omega) _ (a1).toNat (by omega) (by omega) _ (by omega)) kv_X4_199 14 rfl rfl rfl rfl (Nat.le_of_ble_eq_true rfl) ⟨(Nat.le_of_ble_eq_true rfl), (Nat.le_of_ble_eq_true rfl)⟩ ⟨(Nat.le_of_ble_eq_true rfl), (Nat.le_of_ble_eq_true rfl)⟩ dX4_isDate_47 (fun _ _ z => False.elim z) (fun v9 ws9 h15 => ?_)
          obtain ⟨rfl, hw9⟩ := h15
          subst ws9
          dsimp only [mPush]
          refine r_if_eqB (tgt := 57) hX dX4_isDate_50 (by decide) (fun c16 => ?_) (fun c16 => ?_)
          · have c16 := id c16
            refine r_iconstZ hX dX4_isDate_57 ?_
            refine r_zret hX hE dX4_isDate_58 (by decide) (Nat.le_of_ble_eq_true rfl) (Nat.le_of_ble_eq_true rfl) ⟨_, rfl, Or.inl ⟨by omega, ?_, rfl⟩⟩
            exact (b2i_f (by assumption)).symm
          · have c16 := id c16
            refine r_iconstZ hX dX4_isDate_53 ?_
            refine r_goto (tgt := 58) hX dX4_isDate_54 (by decide) ?_
            refine r_zret hX hE dX4_isDate_58 (by decide) (Nat.le_of_ble_eq_true rfl) (Nat.le_of_ble_eq_true rfl) ⟨_, rfl, Or.inl ⟨by omega, ?_, rfl⟩⟩
            exact (b2i_t (by assumption)).symm
      · have c12 := of_decide_eq_false c12
        refine r_iconst (v := b2i true) hX dX4_isDate_32 (by decide) ?_
        refine r_goto (tgt := 37) hX dX4_isDate_33 (by decide) ?_
        refine r_callV hX (z_X4_isStopped ad ae cs K S th rest false true) kv_X4_68 14 rfl rfl rfl rfl (Nat.le_of_ble_eq_true rfl) ⟨(Nat.le_of_ble_eq_true rfl), (Nat.le_of_ble_eq_true rfl)⟩ ⟨(Nat.le_of_ble_eq_true rfl), (Nat.le_of_ble_eq_true rfl)⟩ dX4_isDate_37 (fun _ _ z => False.elim z) (fun v9 ws9 h17 => ?_)
        obtain ⟨rfl, hw9⟩ := h17
        subst ws9
        dsimp only [mPush]
        refine r_if_neB (tgt := 57) hX dX4_isDate_40 (by decide) (fun c18 => ?_) (fun c18 => ?_)
        · rcases zst1 c18 with ⟨hx, e0⟩ | ⟨hx, hy, e0⟩
          · exact absurd hx (by decide)
          · rw [e0]
            refine r_iconstZ hX dX4_isDate_57 ?_
            exact r_zret hX hE dX4_isDate_58 (by decide) (Nat.le_of_ble_eq_true rfl) (Nat.le_of_ble_eq_true rfl) ⟨_, rfl, Or.inr (Or.inr ⟨by omega, by omega, rfl⟩)⟩
        · exact absurd c18 (by simp)
    · have c10 := of_decide_eq_true c10
      refine r_iconst (v := b2i true) hX dX4_isDate_15 (by decide) ?_
      refine r_goto (tgt := 20) hX dX4_isDate_16 (by decide) ?_
      refine r_iload_n hX dX4_isDate_20 rfl rfl ?_
      refine r_i2lZ hX dX4_isDate_21 (by omega) ?_
      refine r_lconstZ (v := 0) hX dX4_isDate_22 rfl ?_
      refine r_ldc2Z (z := 3) hX kc_X4_36 (by decide) dX4_isDate_23 ?_
      refine r_callS hX (z_X4_isIn _ _ _ _ _ (by omega) (by omega) (by omega)) ks_X4_38 rfl rfl (Nat.le_of_ble_eq_true rfl) ⟨(Nat.le_of_ble_eq_true rfl), (Nat.le_of_ble_eq_true rfl)⟩ ⟨(Nat.le_of_ble_eq_true rfl), (Nat.le_of_ble_eq_true rfl)⟩ dX4_isDate_26 (fun _ _ z => False.elim z) (fun v9 ws9 h19 => ?_)
      obtain ⟨rfl, hw9⟩ := h19
      subst ws9
      dsimp only [mPush]
      refine r_if_neB (tgt := 36) hX dX4_isDate_29 (by decide) (fun c20 => ?_) (fun c20 => ?_)
      · have c20 := of_decide_eq_true c20
        refine r_iconst (v := b2i false) hX dX4_isDate_36 (by decide) ?_
        refine r_callV hX (z_X4_isStopped ad ae cs K S th rest true false) kv_X4_68 14 rfl rfl rfl rfl (Nat.le_of_ble_eq_true rfl) ⟨(Nat.le_of_ble_eq_true rfl), (Nat.le_of_ble_eq_true rfl)⟩ ⟨(Nat.le_of_ble_eq_true rfl), (Nat.le_of_ble_eq_true rfl)⟩ dX4_isDate_37 (fun _ _ z => False.elim z) (fun v9 ws9 h21 => ?_)
        obtain ⟨rfl, hw9⟩ := h21
        subst ws9
        dsimp only [mPush]
        refine r_if_neB (tgt := 57) hX dX4_isDate_40 (by decide) (fun c22 => ?_) (fun c22 => ?_)
        · rcases zst1 c22 with ⟨hx, e0⟩ | ⟨hx, hy, e0⟩
          · rw [e0]
            refine r_iconstZ hX dX4_isDate_57 ?_
            exact r_zret hX hE dX4_isDate_58 (by decide) (Nat.le_of_ble_eq_true rfl) (Nat.le_of_ble_eq_true rfl) ⟨_, rfl, Or.inr (Or.inl ⟨by omega, rfl⟩)⟩
          · exact absurd hx (by decide)
        · exact absurd c22 (by simp)
      · have c20 := of_decide_eq_false c20
        refine r_iconst (v := b2i true) hX dX4_isDate_32 (by decide) ?_
        refine r_goto (tgt := 37) hX dX4_isDate_33 (by decide) ?_
        refine r_callV hX (z_X4_isStopped ad ae cs K S th rest true true) kv_X4_68 14 rfl rfl rfl rfl (Nat.le_of_ble_eq_true rfl) ⟨(Nat.le_of_ble_eq_true rfl), (Nat.le_of_ble_eq_true rfl)⟩ ⟨(Nat.le_of_ble_eq_true rfl), (Nat.le_of_ble_eq_true rfl)⟩ dX4_isDate_37 (fun _ _ z => False.elim z) (fun v9 ws9 h23 => ?_)
        obtain ⟨rfl, hw9⟩ := h23
        subst ws9
        dsimp only [mPush]
        refine r_if_neB (tgt := 57) hX dX4_isDate_40 (by decide) (fun c24 => ?_) (fun c24 => ?_)
        · rcases zst1 c24 with ⟨hx, e0⟩ | ⟨hx, hy, e0⟩
          · rw [e0]
            refine r_iconstZ hX dX4_isDate_57 ?_
            exact r_zret hX hE dX4_isDate_58 (by decide) (Nat.le_of_ble_eq_true rfl) (Nat.le_of_ble_eq_true rfl) ⟨_, rfl, Or.inr (Or.inl ⟨by omega, rfl⟩)⟩
          · exact absurd hx (by decide)
        · exact absurd c24 (by simp)

