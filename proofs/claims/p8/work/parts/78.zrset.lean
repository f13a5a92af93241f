/-! The reference, exact (rows by a program of this repository). -/
set_option maxHeartbeats 4000000 in
set_option maxRecDepth 20000 in
theorem z_X4_set (ad ae : Nat → Nat) (cs : ClassId × ClassId × ClassId) (K : mK) (S : mS) (th : Int32) (rest : va_W) (hS : sWF S) (a0 : Int) (h0 : rJ a0) (a1 : Int) (h1 : rJ a1) (a2 : Int) (h2 : rJ a2)  : mCt (mTy cs) yX4_set cX4_set 6 (some .int) ⟨5, 1, 4, 119⟩ [.ref (ae 0), .int (iZ a0), .int (iZ a1), .int (iZ a2)] (mRw ad ae cs K (mJof S th) rest) (fun v ws' => ∃ r : Int32, v = some (.int r) ∧ (((((0 ≤ a0 ∧ a0 < 4)) ∧ (0 ≤ a1 ∧ a1 ≤ 7)) ∧ r = iZ (oSet S a0.toNat a1 a2).1 ∧ ws' = mRw ad ae cs K (mJof (oSet S a0.toNat a1 a2).2 0) rest) ∨ (¬ ((0 ≤ a0 ∧ a0 < 4)) ∧ ws' = mRw ad ae cs K (mJof S 1) rest) ∨ (((0 ≤ a0 ∧ a0 < 4)) ∧ ¬ (0 ≤ a1 ∧ a1 ≤ 7) ∧ ws' = mRw ad ae cs K (mJof S 2) rest))) mNo := by
  refine mCt.of (by decide +kernel) (Nat.le_of_ble_eq_true rfl) (fun X hX hE => ?_)
  replace hX : mOK X RX4 cX4_set 6 ⟨5, 1, 4, 119⟩ [] (mTy cs) := hX
  refine r_aload_n hX dX4_set_0 rfl rfl ?_
  refine r_iload_n hX dX4_set_1 rfl rfl ?_
  refine r_callS hX (z_X4_isNone _ _ _ (by omega)) ks_X4_61 rfl rfl (Nat.le_of_ble_eq_true rfl) ⟨(Nat.le_of_ble_eq_true rfl), (Nat.le_of_ble_eq_true rfl)⟩ ⟨(Nat.le_of_ble_eq_true rfl), (Nat.le_of_ble_eq_true rfl)⟩ dX4_set_2 (fun _ _ z => False.elim z) (fun v9 ws9 h1 => ?_)
  obtain ⟨rfl, hw9⟩ := h1
  subst ws9
  dsimp only [mPush]
  refine r_iload_n hX dX4_set_5 rfl rfl ?_
  refine r_i2lZ hX dX4_set_6 (by omega) ?_
  refine r_lconstZ (v := 0) hX dX4_set_7 rfl ?_
  refine r_ldc2Z (z := 7) hX kc_X4_183 (by decide) dX4_set_8 ?_
  refine r_callS hX (z_X4_isIn _ _ _ _ _ (by omega) (by omega) (by omega)) ks_X4_38 rfl rfl (Nat.le_of_ble_eq_true rfl) ⟨(Nat.le_of_ble_eq_true rfl), (Nat.le_of_ble_eq_true rfl)⟩ ⟨(Nat.le_of_ble_eq_true rfl), (Nat.le_of_ble_eq_true rfl)⟩ dX4_set_11 (fun _ _ z => False.elim z) (fun v9 ws9 h2 => ?_)
  obtain ⟨rfl, hw9⟩ := h2
  subst ws9
  dsimp only [mPush]
  refine r_if_neB (tgt := 21) hX dX4_set_14 (by decide) (fun c3 => ?_) (fun c3 => ?_)
  · have c3 := of_decide_eq_true c3
    refine r_iconst (v := b2i false) hX dX4_set_21 (by decide) ?_
    refine r_callV hX (z_X4_isStopped ad ae cs K S th rest (decide (¬ (0 ≤ a0 ∧ a0 < 4))) false) kv_X4_68 14 rfl rfl rfl rfl (Nat.le_of_ble_eq_true rfl) ⟨(Nat.le_of_ble_eq_true rfl), (Nat.le_of_ble_eq_true rfl)⟩ ⟨(Nat.le_of_ble_eq_true rfl), (Nat.le_of_ble_eq_true rfl)⟩ dX4_set_22 (fun _ _ z => False.elim z) (fun v9 ws9 h4 => ?_)
    obtain ⟨rfl, hw9⟩ := h4
    subst ws9
    dsimp only [mPush]
    refine r_if_eqB (tgt := 30) hX dX4_set_25 (by decide) (fun c5 => ?_) (fun c5 => ?_)
    · obtain ⟨⟨hx, hy⟩, e0⟩ := zst0 c5
      have hx := of_decide_eq_false hx
      rw [e0]
      have hr0 := zrg hS (d := a0.toNat) (by omega)
      have hse := hS.2.2.2.1 a0.toNat (by omega)
      have hsd : -21915 ≤ sse S a0.toNat / 86400 ∧ sse S a0.toNat / 86400 ≤ 22279 := by omega
      have hyr := YR_spec hsd.1 hsd.2
      have hmo := MO_b (sse S a0.toNat / 86400)
      have hdom := DOM_b hsd.1 hsd.2
      have hdmb := dm_b (YR (sse S a0.toNat / 86400)) (MO (sse S a0.toNat / 86400))
      have hfo := FO_b (y := (YR (sse S a0.toNat / 86400))) (by omega)
      refine r_aload_n hX dX4_set_30 rfl rfl ?_
      refine r_get hX kf_X4_17 14 rfl rfl dX4_set_31 ?_
      refine r_iload_n hX dX4_set_34 rfl rfl ?_
      refine r_ialdZ hX 17 0 rfl rfl (a0).toNat (by omega) (by omega) (by decide) dX4_set_35 ?_
      refine r_callS hX (z_X4_parts _ _ _ (by omega)) ks_X4_170 rfl rfl (Nat.le_of_ble_eq_true rfl) ⟨(Nat.le_of_ble_eq_true rfl), (Nat.le_of_ble_eq_true rfl)⟩ ⟨(Nat.le_of_ble_eq_true rfl), (Nat.le_of_ble_eq_true rfl)⟩ dX4_set_36 (fun _ _ z => False.elim z) (fun v9 ws9 h6 => ?_)
      obtain ⟨f7, q8, hf9, rfl, hw9⟩ := h6
      subst ws9
      dsimp only [mPush]
      refine r_eqw mRw_app ?_
      refine r_astore hX dX4_set_39 (by decide) rfl ?_
      refine r_aload_n hX dX4_set_41 rfl rfl ?_
      refine r_get hX kf_X4_20 14 rfl rfl dX4_set_42 ?_
      refine r_iload_n hX dX4_set_45 rfl rfl ?_
      refine r_ialdZ hX 18 0 rfl rfl (a0).toNat (by omega) (by omega) (by decide) dX4_set_46 ?_
      refine r_istore hX dX4_set_47 (by decide) rfl ?_
      refine r_iload_n hX dX4_set_49 rfl rfl ?_
      by_cases s10 : a1 = 0
      · refine r_tableInZ (z := 0) (off := 42) (tgt := 92) hX dX4_set_50 s10 (by decide) (by decide) (by decide) rfl (by decide) ?_
        refine r_iload_n hX dX4_set_92 rfl rfl ?_
        refine r_i2lZ hX dX4_set_93 (by omega) ?_
        refine r_ldc2Z (z := 1910) hX kc_X4_147 (by decide) dX4_set_94 ?_
        refine r_ldc2Z (z := 2030) hX kc_X4_149 (by decide) dX4_set_97 ?_
        refine r_callS hX (z_X4_isIn _ _ _ _ _ (by omega) (by omega) (by omega)) ks_X4_38 rfl rfl (Nat.le_of_ble_eq_true rfl) ⟨(Nat.le_of_ble_eq_true rfl), (Nat.le_of_ble_eq_true rfl)⟩ ⟨(Nat.le_of_ble_eq_true rfl), (Nat.le_of_ble_eq_true rfl)⟩ dX4_set_100 (fun _ _ z => False.elim z) (fun v9 ws9 h11 => ?_)
        obtain ⟨rfl, hw9⟩ := h11
        subst ws9
        dsimp only [mPush]
        refine r_if_eqB (tgt := 123) hX dX4_set_103 (by decide) (fun c12 => ?_) (fun c12 => ?_)
        · have c12 := of_decide_eq_false c12
          refine r_aload_n hX dX4_set_123 rfl rfl ?_
          refine r_callV hX (z_X4_no ad ae cs K S 0 (rest ++ [(q8, .inl (cs.1, 4, .inl f7))])) kv_X4_80 14 rfl rfl rfl rfl (Nat.le_of_ble_eq_true rfl) ⟨(Nat.le_of_ble_eq_true rfl), (Nat.le_of_ble_eq_true rfl)⟩ ⟨(Nat.le_of_ble_eq_true rfl), (Nat.le_of_ble_eq_true rfl)⟩ dX4_set_124 (fun _ _ z => False.elim z) (fun v9 ws9 h13 => ?_)
          obtain ⟨rfl, hw9⟩ := h13
          subst ws9
          dsimp only [mPush]
          refine r_eqw (mRw_app (rest := rest)).symm (r_drop ?_)
          refine r_iret hX hE dX4_set_127 (Nat.le_of_ble_eq_true rfl) (Nat.le_of_ble_eq_true rfl) ⟨_, rfl, Or.inl ⟨by omega, ?_⟩⟩
          have e1 : (a2 * 12 + ((MO (sse S a0.toNat / 86400)) : Nat) - 1) / 12 = a2 := by omega
          have e2 : (a2 * 12 + ((MO (sse S a0.toNat / 86400)) : Nat) - 1) % 12 + 1 = (((MO (sse S a0.toNat / 86400)) : Nat) : Int) := by omega
          unfold oSet
          rw [if_pos (by omega)]
          unfold oDay
          rw [if_pos (by omega)]
          unfold oMon
          rw [e1, if_neg (by omega)]
          exact ⟨rfl, rfl⟩
        · have c12 := of_decide_eq_true c12
          refine r_aload_n hX dX4_set_106 rfl rfl ?_
          refine r_iload_n hX dX4_set_107 rfl rfl ?_
          refine r_iload_n hX dX4_set_108 rfl rfl ?_
          refine r_aload hX dX4_set_109 rfl ?_
          refine r_iconstZ hX dX4_set_111 ?_
          refine r_ialdZ hX (21 + (rest).length) 0 zRw_last rfl 1 (by decide) (by decide) (by decide) dX4_set_112 ?_
          rw [hf9.2.1]
          refine r_aload hX dX4_set_113 rfl ?_
          refine r_iconstZ hX dX4_set_115 ?_
          refine r_ialdZ hX (21 + (rest).length) 0 zRw_last rfl 2 (by decide) (by decide) (by decide) dX4_set_116 ?_
          rw [hf9.2.2.1]
          refine r_callV hX (z_X4_putDay ad ae cs K S 0 (rest ++ [(q8, .inl (cs.1, 4, .inl f7))]) hS _ (a0).toNat (by omega) (by omega) _ (a2).toNat (by omega) (by omega) _ (MO (sse S ((a0).toNat) / 86400)) (by omega) (by omega) _ (by omega)) kv_X4_174 14 rfl rfl rfl rfl (Nat.le_of_ble_eq_true rfl) ⟨(Nat.le_of_ble_eq_true rfl), (Nat.le_of_ble_eq_true rfl)⟩ ⟨(Nat.le_of_ble_eq_true rfl), (Nat.le_of_ble_eq_true rfl)⟩ dX4_set_117 (fun _ _ z => False.elim z) (fun v9 ws9 h14 => ?_)
          obtain ⟨rfl, hw9⟩ := h14
          subst ws9
          dsimp only [mPush]
          refine r_goto (tgt := 127) hX dX4_set_120 (by decide) ?_
          refine r_eqw (mRw_app (rest := rest)).symm (r_drop ?_)
          refine r_iret hX hE dX4_set_127 (Nat.le_of_ble_eq_true rfl) (Nat.le_of_ble_eq_true rfl) ⟨_, rfl, Or.inl ⟨by omega, ?_⟩⟩
          have e1 : (a2 * 12 + ((MO (sse S a0.toNat / 86400)) : Nat) - 1) / 12 = a2 := by omega
          have e2 : (a2 * 12 + ((MO (sse S a0.toNat / 86400)) : Nat) - 1) % 12 + 1 = (((MO (sse S a0.toNat / 86400)) : Nat) : Int) := by omega
          have hin := day_inZ (y := a2.toNat) (m := (MO (sse S a0.toNat / 86400))) (e := zMin (DOM (sse S a0.toNat / 86400)) (dm a2.toNat (MO (sse S a0.toNat / 86400)) : Nat)) (by omega) (by omega) (by omega) (by omega) (by have := dm_b a2.toNat (MO (sse S a0.toNat / 86400)); unfold zMin; split <;> omega) (zMin_r _ _)
          unfold oSet
          rw [if_pos (by omega)]
          unfold oDay
          rw [if_pos (by omega)]
          unfold oMon
          rw [e1, e2, if_pos (by omega), Int.toNat_natCast, oLoc_y (by omega)]
          exact ⟨congrArg iZ (by omega), rfl⟩
      by_cases s15 : a1 = 1
      · refine r_tableInZ (z := 1) (off := 78) (tgt := 128) hX dX4_set_50 s15 (by decide) (by decide) (by decide) rfl (by decide) ?_
        refine r_iload_n hX dX4_set_128 rfl rfl ?_
        refine r_i2lZ hX dX4_set_129 (by omega) ?_
        refine r_lconstZ (v := 1) hX dX4_set_130 rfl ?_
        refine r_ldc2Z (z := 12) hX kc_X4_151 (by decide) dX4_set_131 ?_
        refine r_callS hX (z_X4_isIn _ _ _ _ _ (by omega) (by omega) (by omega)) ks_X4_38 rfl rfl (Nat.le_of_ble_eq_true rfl) ⟨(Nat.le_of_ble_eq_true rfl), (Nat.le_of_ble_eq_true rfl)⟩ ⟨(Nat.le_of_ble_eq_true rfl), (Nat.le_of_ble_eq_true rfl)⟩ dX4_set_134 (fun _ _ z => False.elim z) (fun v9 ws9 h16 => ?_)
        obtain ⟨rfl, hw9⟩ := h16
        subst ws9
        dsimp only [mPush]
        refine r_if_eqB (tgt := 157) hX dX4_set_137 (by decide) (fun c17 => ?_) (fun c17 => ?_)
        · have c17 := of_decide_eq_false c17
          refine r_aload_n hX dX4_set_157 rfl rfl ?_
          refine r_callV hX (z_X4_no ad ae cs K S 0 (rest ++ [(q8, .inl (cs.1, 4, .inl f7))])) kv_X4_80 14 rfl rfl rfl rfl (Nat.le_of_ble_eq_true rfl) ⟨(Nat.le_of_ble_eq_true rfl), (Nat.le_of_ble_eq_true rfl)⟩ ⟨(Nat.le_of_ble_eq_true rfl), (Nat.le_of_ble_eq_true rfl)⟩ dX4_set_158 (fun _ _ z => False.elim z) (fun v9 ws9 h18 => ?_)
          obtain ⟨rfl, hw9⟩ := h18
          subst ws9
          dsimp only [mPush]
          refine r_eqw (mRw_app (rest := rest)).symm (r_drop ?_)
          refine r_iret hX hE dX4_set_161 (Nat.le_of_ble_eq_true rfl) (Nat.le_of_ble_eq_true rfl) ⟨_, rfl, Or.inl ⟨by omega, ?_⟩⟩
          unfold oSet
          rw [if_pos (by omega)]
          unfold oDay
          rw [if_neg (by omega)]
          rw [if_pos (by omega)]
          rw [if_neg (by omega)]
          exact ⟨rfl, rfl⟩
        · have c17 := of_decide_eq_true c17
          refine r_aload_n hX dX4_set_140 rfl rfl ?_
          refine r_iload_n hX dX4_set_141 rfl rfl ?_
          refine r_aload hX dX4_set_142 rfl ?_
          refine r_iconstZ hX dX4_set_144 ?_
          refine r_ialdZ hX (21 + (rest).length) 0 zRw_last rfl 0 (by decide) (by decide) (by decide) dX4_set_145 ?_
          rw [hf9.1]
          refine r_iload_n hX dX4_set_146 rfl rfl ?_
          refine r_aload hX dX4_set_147 rfl ?_
          refine r_iconstZ hX dX4_set_149 ?_
          refine r_ialdZ hX (21 + (rest).length) 0 zRw_last rfl 2 (by decide) (by decide) (by decide) dX4_set_150 ?_
          rw [hf9.2.2.1]
          refine r_callV hX (z_X4_putDay ad ae cs K S 0 (rest ++ [(q8, .inl (cs.1, 4, .inl f7))]) hS _ (a0).toNat (by omega) (by omega) _ (YR (sse S ((a0).toNat) / 86400)) (by omega) (by omega) _ (a2).toNat (by omega) (by omega) _ (by omega)) kv_X4_174 14 rfl rfl rfl rfl (Nat.le_of_ble_eq_true rfl) ⟨(Nat.le_of_ble_eq_true rfl), (Nat.le_of_ble_eq_true rfl)⟩ ⟨(Nat.le_of_ble_eq_true rfl), (Nat.le_of_ble_eq_true rfl)⟩ dX4_set_151 (fun _ _ z => False.elim z) (fun v9 ws9 h19 => ?_)
          obtain ⟨rfl, hw9⟩ := h19
          subst ws9
          dsimp only [mPush]
          refine r_goto (tgt := 161) hX dX4_set_154 (by decide) ?_
          refine r_eqw (mRw_app (rest := rest)).symm (r_drop ?_)
          refine r_iret hX hE dX4_set_161 (Nat.le_of_ble_eq_true rfl) (Nat.le_of_ble_eq_true rfl) ⟨_, rfl, Or.inl ⟨by omega, ?_⟩⟩
          have e1 : (((YR (sse S a0.toNat / 86400)) : Nat) * 12 + a2 - 1) / 12 = (((YR (sse S a0.toNat / 86400)) : Nat) : Int) := by omega
          have e2 : (((YR (sse S a0.toNat / 86400)) : Nat) * 12 + a2 - 1) % 12 + 1 = a2 := by omega
          have hin := day_inZ (y := (YR (sse S a0.toNat / 86400))) (m := a2.toNat) (e := zMin (DOM (sse S a0.toNat / 86400)) (dm (YR (sse S a0.toNat / 86400)) a2.toNat : Nat)) (by omega) (by omega) (by omega) (by omega) (by have := dm_b (YR (sse S a0.toNat / 86400)) a2.toNat; unfold zMin; split <;> omega) (zMin_r _ _)
          unfold oSet
          rw [if_pos (by omega)]
          unfold oDay
          rw [if_neg (by omega)]
          rw [if_pos (by omega)]
          rw [if_pos (by omega)]
          unfold oMon
          rw [e1, e2, if_pos (by omega), Int.toNat_natCast, oLoc_y (by omega)]
          exact ⟨congrArg iZ (by omega), rfl⟩
      by_cases s20 : a1 = 2
      · refine r_tableInZ (z := 2) (off := 112) (tgt := 162) hX dX4_set_50 s20 (by decide) (by decide) (by decide) rfl (by decide) ?_
        refine r_aload hX dX4_set_162 rfl ?_
        refine r_iconstZ hX dX4_set_164 ?_
        refine r_ialdZ hX (21 + (rest).length) 0 zRw_last rfl 0 (by decide) (by decide) (by decide) dX4_set_165 ?_
        rw [hf9.1]
        refine r_aload hX dX4_set_166 rfl ?_
        refine r_iconstZ hX dX4_set_168 ?_
        refine r_ialdZ hX (21 + (rest).length) 0 zRw_last rfl 1 (by decide) (by decide) (by decide) dX4_set_169 ?_
        rw [hf9.2.1]
        refine r_iload_n hX dX4_set_170 rfl rfl ?_
        refine r_callS hX (z_X4_isThere _ _ _ _ _ (by omega) (by omega) (by omega)) ks_X4_159 rfl rfl (Nat.le_of_ble_eq_true rfl) ⟨(Nat.le_of_ble_eq_true rfl), (Nat.le_of_ble_eq_true rfl)⟩ ⟨(Nat.le_of_ble_eq_true rfl), (Nat.le_of_ble_eq_true rfl)⟩ dX4_set_171 (fun _ _ z => False.elim z) (fun v9 ws9 h21 => ?_)
        obtain ⟨rfl, hw9⟩ := h21
        subst ws9
        dsimp only [mPush]
        refine r_if_eqB (tgt := 194) hX dX4_set_174 (by decide) (fun c22 => ?_) (fun c22 => ?_)
        · have c22 := of_decide_eq_false c22
          refine r_aload_n hX dX4_set_194 rfl rfl ?_
          refine r_callV hX (z_X4_no ad ae cs K S 0 (rest ++ [(q8, .inl (cs.1, 4, .inl f7))])) kv_X4_80 14 rfl rfl rfl rfl (Nat.le_of_ble_eq_true rfl) ⟨(Nat.le_of_ble_eq_true rfl), (Nat.le_of_ble_eq_true rfl)⟩ ⟨(Nat.le_of_ble_eq_true rfl), (Nat.le_of_ble_eq_true rfl)⟩ dX4_set_195 (fun _ _ z => False.elim z) (fun v9 ws9 h23 => ?_)
          obtain ⟨rfl, hw9⟩ := h23
          subst ws9
          dsimp only [mPush]
          refine r_eqw (mRw_app (rest := rest)).symm (r_drop ?_)
          refine r_iret hX hE dX4_set_198 (Nat.le_of_ble_eq_true rfl) (Nat.le_of_ble_eq_true rfl) ⟨_, rfl, Or.inl ⟨by omega, ?_⟩⟩
          simp only [Int.toNat_natCast] at c22
          unfold oSet
          rw [if_pos (by omega)]
          unfold oDay
          rw [if_neg (by omega)]
          rw [if_neg (by omega)]
          rw [if_pos (by omega)]
          rw [if_neg (by omega)]
          exact ⟨rfl, rfl⟩
        · have c22 := of_decide_eq_true c22
          simp only [Int.toNat_natCast] at c22
          refine r_aload_n hX dX4_set_177 rfl rfl ?_
          refine r_iload_n hX dX4_set_178 rfl rfl ?_
          refine r_aload hX dX4_set_179 rfl ?_
          refine r_iconstZ hX dX4_set_181 ?_
          refine r_ialdZ hX (21 + (rest).length) 0 zRw_last rfl 0 (by decide) (by decide) (by decide) dX4_set_182 ?_
          rw [hf9.1]
          refine r_aload hX dX4_set_183 rfl ?_
          refine r_iconstZ hX dX4_set_185 ?_
          refine r_ialdZ hX (21 + (rest).length) 0 zRw_last rfl 1 (by decide) (by decide) (by decide) dX4_set_186 ?_
          rw [hf9.2.1]
          refine r_iload_n hX dX4_set_187 rfl rfl ?_
          refine r_callV hX (z_X4_putDay ad ae cs K S 0 (rest ++ [(q8, .inl (cs.1, 4, .inl f7))]) hS _ (a0).toNat (by omega) (by omega) _ (YR (sse S ((a0).toNat) / 86400)) (by omega) (by omega) _ (MO (sse S ((a0).toNat) / 86400)) (by omega) (by omega) _ (by omega)) kv_X4_174 14 rfl rfl rfl rfl (Nat.le_of_ble_eq_true rfl) ⟨(Nat.le_of_ble_eq_true rfl), (Nat.le_of_ble_eq_true rfl)⟩ ⟨(Nat.le_of_ble_eq_true rfl), (Nat.le_of_ble_eq_true rfl)⟩ dX4_set_188 (fun _ _ z => False.elim z) (fun v9 ws9 h24 => ?_)
          obtain ⟨rfl, hw9⟩ := h24
          subst ws9
          dsimp only [mPush]
          refine r_goto (tgt := 198) hX dX4_set_191 (by decide) ?_
          refine r_eqw (mRw_app (rest := rest)).symm (r_drop ?_)
          refine r_iret hX hE dX4_set_198 (Nat.le_of_ble_eq_true rfl) (Nat.le_of_ble_eq_true rfl) ⟨_, rfl, Or.inl ⟨by omega, ?_⟩⟩
          have em : zMin a2 (dm (YR (sse S a0.toNat / 86400)) (MO (sse S a0.toNat / 86400)) : Nat) = a2 := by unfold zMin; rw [if_pos (by omega)]
          have hin := day_inZ (y := (YR (sse S a0.toNat / 86400))) (m := (MO (sse S a0.toNat / 86400))) (e := a2) (by omega) (by omega) (by omega) (by omega) (by omega) (by omega)
          unfold oSet
          rw [if_pos (by omega)]
          unfold oDay
          rw [if_neg (by omega)]
          rw [if_neg (by omega)]
          rw [if_pos (by omega)]
          rw [if_pos (by omega), oLoc_y (by omega), em]
          exact ⟨congrArg iZ (by omega), rfl⟩
      by_cases s25 : a1 = 3
      · refine r_tableInZ (z := 3) (off := 149) (tgt := 199) hX dX4_set_50 s25 (by decide) (by decide) (by decide) rfl (by decide) ?_
        refine r_iload_n hX dX4_set_199 rfl rfl ?_
        refine r_i2lZ hX dX4_set_200 (by omega) ?_
        refine r_lconstZ (v := 1) hX dX4_set_201 rfl ?_
        refine r_aload hX dX4_set_202 rfl ?_
        refine r_iconstZ hX dX4_set_204 ?_
        refine r_ialdZ hX (21 + (rest).length) 0 zRw_last rfl 0 (by decide) (by decide) (by decide) dX4_set_205 ?_
        rw [hf9.1]
        refine r_callS hX (z_X4_daysOf_ _ _ _ (YR (sse S ((a0).toNat) / 86400)) (by omega) (by omega)) ks_X4_48 rfl rfl (Nat.le_of_ble_eq_true rfl) ⟨(Nat.le_of_ble_eq_true rfl), (Nat.le_of_ble_eq_true rfl)⟩ ⟨(Nat.le_of_ble_eq_true rfl), (Nat.le_of_ble_eq_true rfl)⟩ dX4_set_206 (fun _ _ z => False.elim z) (fun v9 ws9 h26 => ?_)
        obtain ⟨rfl, hw9⟩ := h26
        subst ws9
        dsimp only [mPush]
        have hyl26 := yl_b (YR (sse S ((a0).toNat) / 86400))
        refine r_i2lZ hX dX4_set_209 (by omega) ?_
        refine r_callS hX (z_X4_isIn _ _ _ _ _ (by omega) (by omega) (by omega)) ks_X4_38 rfl rfl (Nat.le_of_ble_eq_true rfl) ⟨(Nat.le_of_ble_eq_true rfl), (Nat.le_of_ble_eq_true rfl)⟩ ⟨(Nat.le_of_ble_eq_true rfl), (Nat.le_of_ble_eq_true rfl)⟩ dX4_set_210 (fun _ _ z => False.elim z) (fun v9 ws9 h27 => ?_)
        obtain ⟨rfl, hw9⟩ := h27
        subst ws9
        dsimp only [mPush]
        refine r_if_neB (tgt := 221) hX dX4_set_213 (by decide) (fun c28 => ?_) (fun c28 => ?_)
        · have c28 := of_decide_eq_true c28
          refine r_aload_n hX dX4_set_221 rfl rfl ?_
          refine r_get hX kf_X4_17 14 rfl rfl dX4_set_222 ?_
          refine r_iload_n hX dX4_set_225 rfl rfl ?_
          refine r_aload hX dX4_set_226 rfl ?_
          refine r_iconstZ hX dX4_set_228 ?_
          refine r_ialdZ hX (21 + (rest).length) 0 zRw_last rfl 0 (by decide) (by decide) (by decide) dX4_set_229 ?_
          rw [hf9.1]
          refine r_callS hX (z_X4_firstOf _ _ _ (YR (sse S ((a0).toNat) / 86400)) (by omega) (by omega)) ks_X4_52 rfl rfl (Nat.le_of_ble_eq_true rfl) ⟨(Nat.le_of_ble_eq_true rfl), (Nat.le_of_ble_eq_true rfl)⟩ ⟨(Nat.le_of_ble_eq_true rfl), (Nat.le_of_ble_eq_true rfl)⟩ dX4_set_230 (fun _ _ z => False.elim z) (fun v9 ws9 h29 => ?_)
          obtain ⟨rfl, hw9⟩ := h29
          subst ws9
          dsimp only [mPush]
          refine r_iload_n hX dX4_set_233 rfl rfl ?_
          refine r_iaddZ hX dX4_set_234 ?_
          refine r_iconstZ hX dX4_set_235 ?_
          refine r_isubZ hX dX4_set_236 ?_
          refine r_iastZ hX 17 0 rfl rfl (a0).toNat (by omega) (by omega) (by decide) dX4_set_237 ?_
          refine r_eqw (ws' := mRw ad ae cs K ((mJof S 0).1, (mJof S 0).2.1, (mJof S 0).2.2.1, upd (mJof S 0).2.2.2.1 ((a0).toNat) (iZ (((FO (YR (sse S ((a0).toNat) / 86400))) + a2) - 1)), (mJof S 0).2.2.2.2) (rest ++ [(q8, .inl (cs.1, 4, .inl f7))])) rfl ?_
          refine r_eqw (congrArg (fun J => mRw ad ae cs K J (rest ++ [(q8, .inl (cs.1, 4, .inl f7))])) zJ_day) ?_
          refine r_aload_n hX dX4_set_238 rfl rfl ?_
          refine r_get hX kf_X4_17 14 rfl rfl dX4_set_239 ?_
          refine r_iload_n hX dX4_set_242 rfl rfl ?_
          refine r_ialdZ hX 17 0 rfl rfl (a0).toNat (by omega) (by omega) (by decide) dX4_set_243 ?_
          refine r_eqw (mRw_app (rest := rest)).symm (r_drop ?_)
          refine r_iret hX hE dX4_set_244 (Nat.le_of_ble_eq_true rfl) (Nat.le_of_ble_eq_true rfl) ⟨_, rfl, Or.inl ⟨by omega, ?_⟩⟩
          have hfs := FO_s (y := (YR (sse S a0.toNat / 86400))) (by omega)
          have hin2 := day_in2 (y := (YR (sse S a0.toNat / 86400))) (n := a2.toNat) (by omega) (by omega) (by omega) (by omega)
          unfold oSet
          rw [if_pos (by omega)]
          unfold oDay
          rw [if_neg (by omega)]
          rw [if_neg (by omega)]
          rw [if_neg (by omega)]
          rw [if_pos (by omega), oLoc_y (by omega)]
          exact ⟨congrArg iZ (by rw [zlo_day] <;> omega), rfl⟩
        · have c28 := of_decide_eq_false c28
          refine r_aload_n hX dX4_set_216 rfl rfl ?_
          refine r_callV hX (z_X4_no ad ae cs K S 0 (rest ++ [(q8, .inl (cs.1, 4, .inl f7))])) kv_X4_80 14 rfl rfl rfl rfl (Nat.le_of_ble_eq_true rfl) ⟨(Nat.le_of_ble_eq_true rfl), (Nat.le_of_ble_eq_true rfl)⟩ ⟨(Nat.le_of_ble_eq_true rfl), (Nat.le_of_ble_eq_true rfl)⟩ dX4_set_217 (fun _ _ z => False.elim z) (fun v9 ws9 h30 => ?_)
          obtain ⟨rfl, hw9⟩ := h30
          subst ws9
          dsimp only [mPush]
          refine r_eqw (mRw_app (rest := rest)).symm (r_drop ?_)
          refine r_iret hX hE dX4_set_220 (Nat.le_of_ble_eq_true rfl) (Nat.le_of_ble_eq_true rfl) ⟨_, rfl, Or.inl ⟨by omega, ?_⟩⟩
          unfold oSet
          rw [if_pos (by omega)]
          unfold oDay
          rw [if_neg (by omega)]
          rw [if_neg (by omega)]
          rw [if_neg (by omega)]
          rw [if_neg (by omega)]
          exact ⟨rfl, rfl⟩
      by_cases s31 : a1 = 4
      · refine r_tableInZ (z := 4) (off := 195) (tgt := 245) hX dX4_set_50 s31 (by decide) (by decide) (by decide) rfl (by decide) ?_
        refine r_iload_n hX dX4_set_245 rfl rfl ?_
        refine r_i2lZ hX dX4_set_246 (by omega) ?_
        refine r_lconstZ (v := 0) hX dX4_set_247 rfl ?_
        refine r_ldc2Z (z := 23) hX kc_X4_191 (by decide) dX4_set_248 ?_
        refine r_callS hX (z_X4_isIn _ _ _ _ _ (by omega) (by omega) (by omega)) ks_X4_38 rfl rfl (Nat.le_of_ble_eq_true rfl) ⟨(Nat.le_of_ble_eq_true rfl), (Nat.le_of_ble_eq_true rfl)⟩ ⟨(Nat.le_of_ble_eq_true rfl), (Nat.le_of_ble_eq_true rfl)⟩ dX4_set_251 (fun _ _ z => False.elim z) (fun v9 ws9 h32 => ?_)
        obtain ⟨rfl, hw9⟩ := h32
        subst ws9
        dsimp only [mPush]
        refine r_if_eqB (tgt := 295) hX dX4_set_254 (by decide) (fun c33 => ?_) (fun c33 => ?_)
        · have c33 := of_decide_eq_false c33
          refine r_aload_n hX dX4_set_295 rfl rfl ?_
          refine r_callV hX (z_X4_no ad ae cs K S 0 (rest ++ [(q8, .inl (cs.1, 4, .inl f7))])) kv_X4_80 14 rfl rfl rfl rfl (Nat.le_of_ble_eq_true rfl) ⟨(Nat.le_of_ble_eq_true rfl), (Nat.le_of_ble_eq_true rfl)⟩ ⟨(Nat.le_of_ble_eq_true rfl), (Nat.le_of_ble_eq_true rfl)⟩ dX4_set_296 (fun _ _ z => False.elim z) (fun v9 ws9 h34 => ?_)
          obtain ⟨rfl, hw9⟩ := h34
          subst ws9
          dsimp only [mPush]
          refine r_eqw (mRw_app (rest := rest)).symm (r_drop ?_)
          refine r_iret hX hE dX4_set_299 (Nat.le_of_ble_eq_true rfl) (Nat.le_of_ble_eq_true rfl) ⟨_, rfl, Or.inl ⟨by omega, ?_⟩⟩
          unfold oSet
          rw [if_neg (by omega)]
          unfold oTime
          rw [if_pos (by omega)]
          unfold oPart
          rw [if_neg (by omega)]
          exact ⟨rfl, rfl⟩
        · have c33 := of_decide_eq_true c33
          refine r_aload_n hX dX4_set_257 rfl rfl ?_
          refine r_iload_n hX dX4_set_258 rfl rfl ?_
          refine r_aload_n hX dX4_set_259 rfl rfl ?_
          refine r_get hX kf_X4_17 14 rfl rfl dX4_set_260 ?_
          refine r_iload_n hX dX4_set_263 rfl rfl ?_
          refine r_ialdZ hX 17 0 rfl rfl (a0).toNat (by omega) (by omega) (by decide) dX4_set_264 ?_
          refine r_sipushZ hX dX4_set_265 (by decide) ?_
          refine r_iload_n hX dX4_set_268 rfl rfl ?_
          refine r_imulZ hX dX4_set_269 ?_
          refine r_iload hX dX4_set_270 rfl ?_
          refine r_sipushZ hX dX4_set_272 (by decide) ?_
          refine r_iremZ hX dX4_set_275 (by omega) (by decide) ?_
          refine r_iaddZ hX dX4_set_276 ?_
          refine r_aload_n hX dX4_set_277 rfl rfl ?_
          refine r_get hX kf_X4_23 14 rfl rfl dX4_set_278 ?_
          refine r_iload_n hX dX4_set_281 rfl rfl ?_
          refine r_ialdZ hX 19 0 rfl rfl (a0).toNat (by omega) (by omega) (by decide) dX4_set_282 ?_
          refine r_aload_n hX dX4_set_283 rfl rfl ?_
          refine r_get hX kf_X4_26 14 rfl rfl dX4_set_284 ?_
          refine r_iload_n hX dX4_set_287 rfl rfl ?_
          refine r_ialdZ hX 20 0 rfl rfl (a0).toNat (by omega) (by omega) (by decide) dX4_set_288 ?_
          refine r_callV hX (z_X4_put ad ae cs K S 0 (rest ++ [(q8, .inl (cs.1, 4, .inl f7))]) hS _ (a0).toNat (by omega) (by omega) _ _ _ _ (by omega)) kv_X4_139 14 rfl rfl rfl rfl (Nat.le_of_ble_eq_true rfl) ⟨(Nat.le_of_ble_eq_true rfl), (Nat.le_of_ble_eq_true rfl)⟩ ⟨(Nat.le_of_ble_eq_true rfl), (Nat.le_of_ble_eq_true rfl)⟩ dX4_set_289 (fun _ _ z => False.elim z) (fun v9 ws9 h35 => ?_)
          obtain ⟨rfl, hw9⟩ := h35
          subst ws9
          dsimp only [mPush]
          refine r_goto (tgt := 299) hX dX4_set_292 (by decide) ?_
          refine r_eqw (mRw_app (rest := rest)).symm (r_drop ?_)
          refine r_iret hX hE dX4_set_299 (Nat.le_of_ble_eq_true rfl) (Nat.le_of_ble_eq_true rfl) ⟨_, rfl, Or.inl ⟨by omega, ?_⟩⟩
          unfold oSet
          rw [if_neg (by omega)]
          unfold oTime
          rw [if_pos (by omega)]
          unfold oPart
          rw [if_pos (by omega), oLoc_y (by omega)]
          exact ⟨congrArg iZ (by omega), congrArg (fun z => mRw ad ae cs K (mJof (sLo S a0.toNat (z, sna S a0.toNat, sow S a0.toNat)) 0) rest) (by omega)⟩
      by_cases s36 : a1 = 5
      · refine r_tableInZ (z := 5) (off := 250) (tgt := 300) hX dX4_set_50 s36 (by decide) (by decide) (by decide) rfl (by decide) ?_
        refine r_iload_n hX dX4_set_300 rfl rfl ?_
        refine r_i2lZ hX dX4_set_301 (by omega) ?_
        refine r_lconstZ (v := 0) hX dX4_set_302 rfl ?_
        refine r_ldc2Z (z := 59) hX kc_X4_78 (by decide) dX4_set_303 ?_
        refine r_callS hX (z_X4_isIn _ _ _ _ _ (by omega) (by omega) (by omega)) ks_X4_38 rfl rfl (Nat.le_of_ble_eq_true rfl) ⟨(Nat.le_of_ble_eq_true rfl), (Nat.le_of_ble_eq_true rfl)⟩ ⟨(Nat.le_of_ble_eq_true rfl), (Nat.le_of_ble_eq_true rfl)⟩ dX4_set_306 (fun _ _ z => False.elim z) (fun v9 ws9 h37 => ?_)
        obtain ⟨rfl, hw9⟩ := h37
        subst ws9
        dsimp only [mPush]
        refine r_if_eqB (tgt := 359) hX dX4_set_309 (by decide) (fun c38 => ?_) (fun c38 => ?_)
        · have c38 := of_decide_eq_false c38
          refine r_aload_n hX dX4_set_359 rfl rfl ?_
          refine r_callV hX (z_X4_no ad ae cs K S 0 (rest ++ [(q8, .inl (cs.1, 4, .inl f7))])) kv_X4_80 14 rfl rfl rfl rfl (Nat.le_of_ble_eq_true rfl) ⟨(Nat.le_of_ble_eq_true rfl), (Nat.le_of_ble_eq_true rfl)⟩ ⟨(Nat.le_of_ble_eq_true rfl), (Nat.le_of_ble_eq_true rfl)⟩ dX4_set_360 (fun _ _ z => False.elim z) (fun v9 ws9 h39 => ?_)
          obtain ⟨rfl, hw9⟩ := h39
          subst ws9
          dsimp only [mPush]
          refine r_eqw (mRw_app (rest := rest)).symm (r_drop ?_)
          refine r_iret hX hE dX4_set_363 (Nat.le_of_ble_eq_true rfl) (Nat.le_of_ble_eq_true rfl) ⟨_, rfl, Or.inl ⟨by omega, ?_⟩⟩
          unfold oSet
          rw [if_neg (by omega)]
          unfold oTime
          rw [if_neg (by omega)]
          rw [if_pos (by omega)]
          unfold oPart
          rw [if_neg (by omega)]
          exact ⟨rfl, rfl⟩
        · have c38 := of_decide_eq_true c38
          refine r_aload_n hX dX4_set_312 rfl rfl ?_
          refine r_iload_n hX dX4_set_313 rfl rfl ?_
          refine r_aload_n hX dX4_set_314 rfl rfl ?_
          refine r_get hX kf_X4_17 14 rfl rfl dX4_set_315 ?_
          refine r_iload_n hX dX4_set_318 rfl rfl ?_
          refine r_ialdZ hX 17 0 rfl rfl (a0).toNat (by omega) (by omega) (by decide) dX4_set_319 ?_
          refine r_iload hX dX4_set_320 rfl ?_
          refine r_sipushZ hX dX4_set_322 (by decide) ?_
          refine r_idivZ hX dX4_set_325 (by omega) (by decide) ?_
          refine r_sipushZ hX dX4_set_326 (by decide) ?_
          refine r_imulZ hX dX4_set_329 ?_
          refine r_bipushZ hX dX4_set_330 (by decide) ?_
          refine r_iload_n hX dX4_set_332 rfl rfl ?_
          refine r_imulZ hX dX4_set_333 ?_
          refine r_iaddZ hX dX4_set_334 ?_
          refine r_iload hX dX4_set_335 rfl ?_
          refine r_bipushZ hX dX4_set_337 (by decide) ?_
          refine r_iremZ hX dX4_set_339 (by omega) (by decide) ?_
          refine r_iaddZ hX dX4_set_340 ?_
          refine r_aload_n hX dX4_set_341 rfl rfl ?_
          refine r_get hX kf_X4_23 14 rfl rfl dX4_set_342 ?_
          refine r_iload_n hX dX4_set_345 rfl rfl ?_
          refine r_ialdZ hX 19 0 rfl rfl (a0).toNat (by omega) (by omega) (by decide) dX4_set_346 ?_
          refine r_aload_n hX dX4_set_347 rfl rfl ?_
          refine r_get hX kf_X4_26 14 rfl rfl dX4_set_348 ?_
          refine r_iload_n hX dX4_set_351 rfl rfl ?_
          refine r_ialdZ hX 20 0 rfl rfl (a0).toNat (by omega) (by omega) (by decide) dX4_set_352 ?_
          refine r_callV hX (z_X4_put ad ae cs K S 0 (rest ++ [(q8, .inl (cs.1, 4, .inl f7))]) hS _ (a0).toNat (by omega) (by omega) _ _ _ _ (by omega)) kv_X4_139 14 rfl rfl rfl rfl (Nat.le_of_ble_eq_true rfl) ⟨(Nat.le_of_ble_eq_true rfl), (Nat.le_of_ble_eq_true rfl)⟩ ⟨(Nat.le_of_ble_eq_true rfl), (Nat.le_of_ble_eq_true rfl)⟩ dX4_set_353 (fun _ _ z => False.elim z) (fun v9 ws9 h40 => ?_)
          obtain ⟨rfl, hw9⟩ := h40
          subst ws9
          dsimp only [mPush]
          refine r_goto (tgt := 363) hX dX4_set_356 (by decide) ?_
          refine r_eqw (mRw_app (rest := rest)).symm (r_drop ?_)
          refine r_iret hX hE dX4_set_363 (Nat.le_of_ble_eq_true rfl) (Nat.le_of_ble_eq_true rfl) ⟨_, rfl, Or.inl ⟨by omega, ?_⟩⟩
          unfold oSet
          rw [if_neg (by omega)]
          unfold oTime
          rw [if_neg (by omega)]
          rw [if_pos (by omega)]
          unfold oPart
          rw [if_pos (by omega), oLoc_y (by omega)]
          exact ⟨congrArg iZ (by omega), congrArg (fun z => mRw ad ae cs K (mJof (sLo S a0.toNat (z, sna S a0.toNat, sow S a0.toNat)) 0) rest) (by omega)⟩
      by_cases s41 : a1 = 6
      · refine r_tableInZ (z := 6) (off := 314) (tgt := 364) hX dX4_set_50 s41 (by decide) (by decide) (by decide) rfl (by decide) ?_
        refine r_iload_n hX dX4_set_364 rfl rfl ?_
        refine r_i2lZ hX dX4_set_365 (by omega) ?_
        refine r_lconstZ (v := 0) hX dX4_set_366 rfl ?_
        refine r_ldc2Z (z := 59) hX kc_X4_78 (by decide) dX4_set_367 ?_
        refine r_callS hX (z_X4_isIn _ _ _ _ _ (by omega) (by omega) (by omega)) ks_X4_38 rfl rfl (Nat.le_of_ble_eq_true rfl) ⟨(Nat.le_of_ble_eq_true rfl), (Nat.le_of_ble_eq_true rfl)⟩ ⟨(Nat.le_of_ble_eq_true rfl), (Nat.le_of_ble_eq_true rfl)⟩ dX4_set_370 (fun _ _ z => False.elim z) (fun v9 ws9 h42 => ?_)
        obtain ⟨rfl, hw9⟩ := h42
        subst ws9
        dsimp only [mPush]
        refine r_if_eqB (tgt := 412) hX dX4_set_373 (by decide) (fun c43 => ?_) (fun c43 => ?_)
        · have c43 := of_decide_eq_false c43
          refine r_aload_n hX dX4_set_412 rfl rfl ?_
          refine r_callV hX (z_X4_no ad ae cs K S 0 (rest ++ [(q8, .inl (cs.1, 4, .inl f7))])) kv_X4_80 14 rfl rfl rfl rfl (Nat.le_of_ble_eq_true rfl) ⟨(Nat.le_of_ble_eq_true rfl), (Nat.le_of_ble_eq_true rfl)⟩ ⟨(Nat.le_of_ble_eq_true rfl), (Nat.le_of_ble_eq_true rfl)⟩ dX4_set_413 (fun _ _ z => False.elim z) (fun v9 ws9 h44 => ?_)
          obtain ⟨rfl, hw9⟩ := h44
          subst ws9
          dsimp only [mPush]
          refine r_eqw (mRw_app (rest := rest)).symm (r_drop ?_)
          refine r_iret hX hE dX4_set_416 (Nat.le_of_ble_eq_true rfl) (Nat.le_of_ble_eq_true rfl) ⟨_, rfl, Or.inl ⟨by omega, ?_⟩⟩
          unfold oSet
          rw [if_neg (by omega)]
          unfold oTime
          rw [if_neg (by omega)]
          rw [if_neg (by omega)]
          rw [if_pos (by omega)]
          unfold oPart
          rw [if_neg (by omega)]
          exact ⟨rfl, rfl⟩
        · have c43 := of_decide_eq_true c43
          refine r_aload_n hX dX4_set_376 rfl rfl ?_
          refine r_iload_n hX dX4_set_377 rfl rfl ?_
          refine r_aload_n hX dX4_set_378 rfl rfl ?_
          refine r_get hX kf_X4_17 14 rfl rfl dX4_set_379 ?_
          refine r_iload_n hX dX4_set_382 rfl rfl ?_
          refine r_ialdZ hX 17 0 rfl rfl (a0).toNat (by omega) (by omega) (by decide) dX4_set_383 ?_
          refine r_iload hX dX4_set_384 rfl ?_
          refine r_bipushZ hX dX4_set_386 (by decide) ?_
          refine r_idivZ hX dX4_set_388 (by omega) (by decide) ?_
          refine r_bipushZ hX dX4_set_389 (by decide) ?_
          refine r_imulZ hX dX4_set_391 ?_
          refine r_iload_n hX dX4_set_392 rfl rfl ?_
          refine r_iaddZ hX dX4_set_393 ?_
          refine r_aload_n hX dX4_set_394 rfl rfl ?_
          refine r_get hX kf_X4_23 14 rfl rfl dX4_set_395 ?_
          refine r_iload_n hX dX4_set_398 rfl rfl ?_
          refine r_ialdZ hX 19 0 rfl rfl (a0).toNat (by omega) (by omega) (by decide) dX4_set_399 ?_
          refine r_aload_n hX dX4_set_400 rfl rfl ?_
          refine r_get hX kf_X4_26 14 rfl rfl dX4_set_401 ?_
          refine r_iload_n hX dX4_set_404 rfl rfl ?_
          refine r_ialdZ hX 20 0 rfl rfl (a0).toNat (by omega) (by omega) (by decide) dX4_set_405 ?_
          refine r_callV hX (z_X4_put ad ae cs K S 0 (rest ++ [(q8, .inl (cs.1, 4, .inl f7))]) hS _ (a0).toNat (by omega) (by omega) _ _ _ _ (by omega)) kv_X4_139 14 rfl rfl rfl rfl (Nat.le_of_ble_eq_true rfl) ⟨(Nat.le_of_ble_eq_true rfl), (Nat.le_of_ble_eq_true rfl)⟩ ⟨(Nat.le_of_ble_eq_true rfl), (Nat.le_of_ble_eq_true rfl)⟩ dX4_set_406 (fun _ _ z => False.elim z) (fun v9 ws9 h45 => ?_)
          obtain ⟨rfl, hw9⟩ := h45
          subst ws9
          dsimp only [mPush]
          refine r_goto (tgt := 416) hX dX4_set_409 (by decide) ?_
          refine r_eqw (mRw_app (rest := rest)).symm (r_drop ?_)
          refine r_iret hX hE dX4_set_416 (Nat.le_of_ble_eq_true rfl) (Nat.le_of_ble_eq_true rfl) ⟨_, rfl, Or.inl ⟨by omega, ?_⟩⟩
          unfold oSet
          rw [if_neg (by omega)]
          unfold oTime
          rw [if_neg (by omega)]
          rw [if_neg (by omega)]
          rw [if_pos (by omega)]
          unfold oPart
          rw [if_pos (by omega), oLoc_y (by omega)]
          exact ⟨congrArg iZ (by omega), congrArg (fun z => mRw ad ae cs K (mJof (sLo S a0.toNat (z, sna S a0.toNat, sow S a0.toNat)) 0) rest) (by omega)⟩
      refine r_tableOutZ (tgt := 417) hX dX4_set_50 (by omega) (by omega) (by decide) ?_
      refine r_iload_n hX dX4_set_417 rfl rfl ?_
      refine r_i2lZ hX dX4_set_418 (by omega) ?_
      refine r_lconstZ (v := 0) hX dX4_set_419 rfl ?_
      refine r_ldc2Z (z := 999999999) hX kc_X4_145 (by decide) dX4_set_420 ?_
      refine r_callS hX (z_X4_isIn _ _ _ _ _ (by omega) (by omega) (by omega)) ks_X4_38 rfl rfl (Nat.le_of_ble_eq_true rfl) ⟨(Nat.le_of_ble_eq_true rfl), (Nat.le_of_ble_eq_true rfl)⟩ ⟨(Nat.le_of_ble_eq_true rfl), (Nat.le_of_ble_eq_true rfl)⟩ dX4_set_423 (fun _ _ z => False.elim z) (fun v9 ws9 h46 => ?_)
      obtain ⟨rfl, hw9⟩ := h46
      subst ws9
      dsimp only [mPush]
      refine r_if_eqB (tgt := 452) hX dX4_set_426 (by decide) (fun c47 => ?_) (fun c47 => ?_)
      · have c47 := of_decide_eq_false c47
        refine r_aload_n hX dX4_set_452 rfl rfl ?_
        refine r_callV hX (z_X4_no ad ae cs K S 0 (rest ++ [(q8, .inl (cs.1, 4, .inl f7))])) kv_X4_80 14 rfl rfl rfl rfl (Nat.le_of_ble_eq_true rfl) ⟨(Nat.le_of_ble_eq_true rfl), (Nat.le_of_ble_eq_true rfl)⟩ ⟨(Nat.le_of_ble_eq_true rfl), (Nat.le_of_ble_eq_true rfl)⟩ dX4_set_453 (fun _ _ z => False.elim z) (fun v9 ws9 h48 => ?_)
        obtain ⟨rfl, hw9⟩ := h48
        subst ws9
        dsimp only [mPush]
        refine r_eqw (mRw_app (rest := rest)).symm (r_drop ?_)
        refine r_iret hX hE dX4_set_456 (Nat.le_of_ble_eq_true rfl) (Nat.le_of_ble_eq_true rfl) ⟨_, rfl, Or.inl ⟨by omega, ?_⟩⟩
        unfold oSet
        rw [if_neg (by omega)]
        unfold oTime
        rw [if_neg (by omega)]
        rw [if_neg (by omega)]
        rw [if_neg (by omega)]
        rw [if_neg (by omega)]
        exact ⟨rfl, rfl⟩
      · have c47 := of_decide_eq_true c47
        refine r_aload_n hX dX4_set_429 rfl rfl ?_
        refine r_iload_n hX dX4_set_430 rfl rfl ?_
        refine r_aload_n hX dX4_set_431 rfl rfl ?_
        refine r_get hX kf_X4_17 14 rfl rfl dX4_set_432 ?_
        refine r_iload_n hX dX4_set_435 rfl rfl ?_
        refine r_ialdZ hX 17 0 rfl rfl (a0).toNat (by omega) (by omega) (by decide) dX4_set_436 ?_
        refine r_iload hX dX4_set_437 rfl ?_
        refine r_iload_n hX dX4_set_439 rfl rfl ?_
        refine r_aload_n hX dX4_set_440 rfl rfl ?_
        refine r_get hX kf_X4_26 14 rfl rfl dX4_set_441 ?_
        refine r_iload_n hX dX4_set_444 rfl rfl ?_
        refine r_ialdZ hX 20 0 rfl rfl (a0).toNat (by omega) (by omega) (by decide) dX4_set_445 ?_
        refine r_callV hX (z_X4_put ad ae cs K S 0 (rest ++ [(q8, .inl (cs.1, 4, .inl f7))]) hS _ (a0).toNat (by omega) (by omega) _ _ _ _ (by omega)) kv_X4_139 14 rfl rfl rfl rfl (Nat.le_of_ble_eq_true rfl) ⟨(Nat.le_of_ble_eq_true rfl), (Nat.le_of_ble_eq_true rfl)⟩ ⟨(Nat.le_of_ble_eq_true rfl), (Nat.le_of_ble_eq_true rfl)⟩ dX4_set_446 (fun _ _ z => False.elim z) (fun v9 ws9 h49 => ?_)
        obtain ⟨rfl, hw9⟩ := h49
        subst ws9
        dsimp only [mPush]
        refine r_goto (tgt := 456) hX dX4_set_449 (by decide) ?_
        refine r_eqw (mRw_app (rest := rest)).symm (r_drop ?_)
        refine r_iret hX hE dX4_set_456 (Nat.le_of_ble_eq_true rfl) (Nat.le_of_ble_eq_true rfl) ⟨_, rfl, Or.inl ⟨by omega, ?_⟩⟩
        unfold oSet
        rw [if_neg (by omega)]
        unfold oTime
        rw [if_neg (by omega)]
        rw [if_neg (by omega)]
        rw [if_neg (by omega)]
        rw [if_pos (by omega), oLoc_y (by omega)]
        exact ⟨congrArg iZ (by omega), by rw [show (sse S ((a0).toNat) / 86400) * 86400 + (sse S ((a0).toNat) % 86400) = sse S a0.toNat by omega]⟩
    · rcases zst1 c5 with ⟨hx, e0⟩ | ⟨hx, hy, e0⟩
      · rw [e0]
        have hx := of_decide_eq_true hx
        refine r_iconstZ hX dX4_set_28 ?_
        exact r_iret hX hE dX4_set_29 (Nat.le_of_ble_eq_true rfl) (Nat.le_of_ble_eq_true rfl) ⟨_, rfl, Or.inr (Or.inl ⟨by omega, rfl⟩)⟩
      · exact absurd hy (by decide)
  · have c3 := of_decide_eq_false c3
    refine r_iconst (v := b2i true) hX dX4_set_17 (by decide) ?_
    refine r_goto (tgt := 22) hX dX4_set_18 (by decide) ?_
    refine r_callV hX (z_X4_isStopped ad ae cs K S th rest (decide (¬ (0 ≤ a0 ∧ a0 < 4))) true) kv_X4_68 14 rfl rfl rfl rfl (Nat.le_of_ble_eq_true rfl) ⟨(Nat.le_of_ble_eq_true rfl), (Nat.le_of_ble_eq_true rfl)⟩ ⟨(Nat.le_of_ble_eq_true rfl), (Nat.le_of_ble_eq_true rfl)⟩ dX4_set_22 (fun _ _ z => False.elim z) (fun v9 ws9 h50 => ?_)
    obtain ⟨rfl, hw9⟩ := h50
    subst ws9
    dsimp only [mPush]
    refine r_if_eqB (tgt := 30) hX dX4_set_25 (by decide) (fun c51 => ?_) (fun c51 => ?_)
    · exact absurd c51 (by simp)
    · rcases zst1 c51 with ⟨hx, e0⟩ | ⟨hx, hy, e0⟩
      · rw [e0]
        have hx := of_decide_eq_true hx
        refine r_iconstZ hX dX4_set_28 ?_
        exact r_iret hX hE dX4_set_29 (Nat.le_of_ble_eq_true rfl) (Nat.le_of_ble_eq_true rfl) ⟨_, rfl, Or.inr (Or.inl ⟨by omega, rfl⟩)⟩
      · rw [e0]
        have hx := of_decide_eq_false hx
        refine r_iconstZ hX dX4_set_28 ?_
        exact r_iret hX hE dX4_set_29 (Nat.le_of_ble_eq_true rfl) (Nat.le_of_ble_eq_true rfl) ⟨_, rfl, Or.inr (Or.inr ⟨by omega, by omega, rfl⟩)⟩

