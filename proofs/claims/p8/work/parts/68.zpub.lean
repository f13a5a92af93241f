/-! The class, exact (rows by a program of this repository). -/
def oOff (S : mS) (j : Nat) (h m s : Int) : Int × mS := if ((-18 ≤ h ∧ h ≤ 18) ∧ (-59 ≤ m ∧ m ≤ 59) ∧ (-59 ≤ s ∧ s ≤ 59)) ∧ ¬ ((0 < h ∨ 0 < m ∨ 0 < s) ∧ (h < 0 ∨ m < 0 ∨ s < 0)) ∧ (-64800 ≤ h * 3600 + m * 60 + s ∧ h * 3600 + m * 60 + s ≤ 64800) then (h * 3600 + m * 60 + s, sOf S j (h * 3600 + m * 60 + s)) else (-9, sRf S)
set_option maxHeartbeats 4000000 in
set_option maxRecDepth 20000 in
theorem z_X2_offset (ad : Nat → Nat) (cs : ClassId × ClassId × ClassId) (S : mS) (T : mT2) (rest : va_W) (hS : sWF S) (a0 : Int) (h0 : rJ a0) (a1 : Int) (h1 : rJ a1)  : mCt (mTy cs) yX2_offset cX2_offset 4 (some .int) ⟨7, 2, 12, 104⟩ [.ref (ad 0), .int (iZ a0), .int (iZ a1)] (mWd ad cs (mKof S T) rest) (fun v ws' => (((0 ≤ a0 ∧ a0 < 4)) ∧ (-64800 ≤ a1 ∧ a1 ≤ 64800)) ∧ v = some (.int (iZ ((sof S a0.toNat, sOf S a0.toNat a1)).1)) ∧ ws' = mWd ad cs (mKof ((sof S a0.toNat, sOf S a0.toNat a1)).2 T) rest) (fun E ws' => ws' = mWd ad cs (mKof S T) rest ∧ ((E = xI ∧ ¬ ((0 ≤ a0 ∧ a0 < 4))) ∨ (E = xA ∧ ((0 ≤ a0 ∧ a0 < 4)) ∧ ¬ (-64800 ≤ a1 ∧ a1 ≤ 64800)))) := by
  refine mCt.of (by decide +kernel) (Nat.le_of_ble_eq_true rfl) (fun X hX hE => ?_)
  replace hX : mOK X RX2 cX2_offset 4 ⟨7, 2, 12, 104⟩ [] (mTy cs) := hX
  refine r_iload_n hX dX2_offset_0 rfl rfl ?_
  refine r_aload_n hX dX2_offset_1 rfl rfl ?_
  refine r_get hX kf_X2_9 0 rfl rfl dX2_offset_2 ?_
  refine r_alen (v := iZ 4) hX 1 0 rfl rfl rfl dX2_offset_5 ?_
  refine r_callS hX (z_X2_requireOne _ _ _ 4 (by omega) (by decide)) ks_X2_34 rfl rfl (Nat.le_of_ble_eq_true rfl) ⟨(Nat.le_of_ble_eq_true rfl), (Nat.le_of_ble_eq_true rfl)⟩ ⟨(Nat.le_of_ble_eq_true rfl), (Nat.le_of_ble_eq_true rfl)⟩ dX2_offset_6 (fun E ws9 z => r_out hX hE (Nat.le_of_ble_eq_true rfl) (Nat.le_of_ble_eq_true rfl) ⟨z.2.1, Or.inl ⟨z.1, fun q => z.2.2 (by omega)⟩⟩) (fun v9 ws9 h1 => ?_)
  obtain ⟨hi2, rfl, hw9⟩ := h1
  subst ws9
  dsimp only [mPush]
  refine r_iload_n hX dX2_offset_9 rfl rfl ?_
  refine r_ldcZ (z := -64800) hX kc_X2_38 (by decide) dX2_offset_10 ?_
  refine r_ldcZ (z := 64800) hX kc_X2_39 (by decide) dX2_offset_12 ?_
  refine r_callS hX (z_X2_requireWithin _ _ _ _ _ (by omega) (by omega) (by omega)) ks_X2_40 rfl rfl (Nat.le_of_ble_eq_true rfl) ⟨(Nat.le_of_ble_eq_true rfl), (Nat.le_of_ble_eq_true rfl)⟩ ⟨(Nat.le_of_ble_eq_true rfl), (Nat.le_of_ble_eq_true rfl)⟩ dX2_offset_14 (fun E ws9 z => r_out hX hE (Nat.le_of_ble_eq_true rfl) (Nat.le_of_ble_eq_true rfl) ⟨z.2.1, Or.inr ⟨z.1, by omega, fun q => z.2.2 (by omega)⟩⟩) (fun v9 ws9 h3 => ?_)
  obtain ⟨hi4, rfl, hw9⟩ := h3
  subst ws9
  dsimp only [mPush]
  refine r_aload_n hX dX2_offset_17 rfl rfl ?_
  refine r_get hX kf_X2_9 0 rfl rfl dX2_offset_18 ?_
  refine r_iload_n hX dX2_offset_21 rfl rfl ?_
  refine r_ialdZ hX 1 0 rfl rfl (a0).toNat (by omega) (by omega) (by decide) dX2_offset_22 ?_
  refine r_istore_n hX dX2_offset_23 rfl (by decide) rfl ?_
  refine r_aload_n hX dX2_offset_24 rfl rfl ?_
  refine r_get hX kf_X2_9 0 rfl rfl dX2_offset_25 ?_
  refine r_iload_n hX dX2_offset_28 rfl rfl ?_
  refine r_iload_n hX dX2_offset_29 rfl rfl ?_
  refine r_iastZ hX 1 0 rfl rfl (a0).toNat (by omega) (by omega) (by decide) dX2_offset_30 ?_
  refine r_eqw (zWd_off (j := (a0).toNat) (z := a1)) ?_
  refine r_iload_n hX dX2_offset_31 rfl rfl ?_
  refine r_iret hX hE dX2_offset_32 (Nat.le_of_ble_eq_true rfl) (Nat.le_of_ble_eq_true rfl) ⟨by omega, ?_⟩
  exact ⟨rfl, rfl⟩
set_option maxHeartbeats 4000000 in
set_option maxRecDepth 20000 in
theorem z_X2_offsetOf (ad : Nat → Nat) (cs : ClassId × ClassId × ClassId) (S : mS) (T : mT2) (rest : va_W) (hS : sWF S) (a0 : Int) (h0 : rJ a0) (a1 : Int) (h1 : rJ a1) (a2 : Int) (h2 : rJ a2) (a3 : Int) (h3 : rJ a3)  : mCt (mTy cs) yX2_offsetOf cX2_offsetOf 8 (some .int) ⟨7, 1, 6, 103⟩ [.ref (ad 0), .int (iZ a0), .int (iZ a1), .int (iZ a2), .int (iZ a3)] (mWd ad cs (mKof S T) rest) (fun v ws' => (((0 ≤ a0 ∧ a0 < 4)) ∧ (0 ≤ (0 : Int))) ∧ v = some (.int (iZ (oOff S a0.toNat a1 a2 a3).1)) ∧ ws' = mWd ad cs (mKof (oOff S a0.toNat a1 a2 a3).2 T) rest) (fun E ws' => ws' = mWd ad cs (mKof S T) rest ∧ ((E = xI ∧ ¬ ((0 ≤ a0 ∧ a0 < 4))) ∨ (E = xA ∧ ((0 ≤ a0 ∧ a0 < 4)) ∧ ¬ (0 ≤ (0 : Int))))) := by
  refine mCt.of (by decide +kernel) (Nat.le_of_ble_eq_true rfl) (fun X hX hE => ?_)
  replace hX : mOK X RX2 cX2_offsetOf 8 ⟨7, 1, 6, 103⟩ [] (mTy cs) := hX
  refine r_iload_n hX dX2_offsetOf_0 rfl rfl ?_
  refine r_aload_n hX dX2_offsetOf_1 rfl rfl ?_
  refine r_get hX kf_X2_9 0 rfl rfl dX2_offsetOf_2 ?_
  refine r_alen (v := iZ 4) hX 1 0 rfl rfl rfl dX2_offsetOf_5 ?_
  refine r_callS hX (z_X2_requireOne _ _ _ 4 (by omega) (by decide)) ks_X2_34 rfl rfl (Nat.le_of_ble_eq_true rfl) ⟨(Nat.le_of_ble_eq_true rfl), (Nat.le_of_ble_eq_true rfl)⟩ ⟨(Nat.le_of_ble_eq_true rfl), (Nat.le_of_ble_eq_true rfl)⟩ dX2_offsetOf_6 (fun E ws9 z => r_out hX hE (Nat.le_of_ble_eq_true rfl) (Nat.le_of_ble_eq_true rfl) ⟨z.2.1, Or.inl ⟨z.1, fun q => z.2.2 (by omega)⟩⟩) (fun v9 ws9 h1 => ?_)
  obtain ⟨hi2, rfl, hw9⟩ := h1
  subst ws9
  dsimp only [mPush]
  refine r_iload_n hX dX2_offsetOf_9 rfl rfl ?_
  refine r_i2lZ hX dX2_offsetOf_10 (by omega) ?_
  refine r_ldc2Z (z := -18) hX kc_X2_44 (by decide) dX2_offsetOf_11 ?_
  refine r_ldc2Z (z := 18) hX kc_X2_46 (by decide) dX2_offsetOf_14 ?_
  refine r_callS hX (z_X2_isWithin _ _ _ _ _ (by omega) (by omega) (by omega)) ks_X2_48 rfl rfl (Nat.le_of_ble_eq_true rfl) ⟨(Nat.le_of_ble_eq_true rfl), (Nat.le_of_ble_eq_true rfl)⟩ ⟨(Nat.le_of_ble_eq_true rfl), (Nat.le_of_ble_eq_true rfl)⟩ dX2_offsetOf_17 (fun _ _ z => False.elim z) (fun v9 ws9 h3 => ?_)
  obtain ⟨rfl, hw9⟩ := h3
  subst ws9
  dsimp only [mPush]
  refine r_if_eqB (tgt := 52) hX dX2_offsetOf_20 (by decide) (fun c4 => ?_) (fun c4 => ?_)
  · have c4 := of_decide_eq_false c4
    refine r_aload_n hX dX2_offsetOf_52 rfl rfl ?_
    refine r_callV hX (z_X2_refused ad cs S T rest) kv_X2_56 0 rfl rfl rfl rfl (Nat.le_of_ble_eq_true rfl) ⟨(Nat.le_of_ble_eq_true rfl), (Nat.le_of_ble_eq_true rfl)⟩ ⟨(Nat.le_of_ble_eq_true rfl), (Nat.le_of_ble_eq_true rfl)⟩ dX2_offsetOf_53 (fun _ _ z => False.elim z) (fun v9 ws9 h5 => ?_)
    obtain ⟨rfl, hw9⟩ := h5
    subst ws9
    dsimp only [mPush]
    refine r_iret hX hE dX2_offsetOf_56 (Nat.le_of_ble_eq_true rfl) (Nat.le_of_ble_eq_true rfl) ⟨by omega, ?_⟩
    unfold oOff
    rw [if_neg (by omega)]
    exact ⟨rfl, rfl⟩
  · have c4 := of_decide_eq_true c4
    refine r_iload_n hX dX2_offsetOf_23 rfl rfl ?_
    refine r_i2lZ hX dX2_offsetOf_24 (by omega) ?_
    refine r_ldc2Z (z := -59) hX kc_X2_52 (by decide) dX2_offsetOf_25 ?_
    refine r_ldc2Z (z := 59) hX kc_X2_54 (by decide) dX2_offsetOf_28 ?_
    refine r_callS hX (z_X2_isWithin _ _ _ _ _ (by omega) (by omega) (by omega)) ks_X2_48 rfl rfl (Nat.le_of_ble_eq_true rfl) ⟨(Nat.le_of_ble_eq_true rfl), (Nat.le_of_ble_eq_true rfl)⟩ ⟨(Nat.le_of_ble_eq_true rfl), (Nat.le_of_ble_eq_true rfl)⟩ dX2_offsetOf_31 (fun _ _ z => False.elim z) (fun v9 ws9 h6 => ?_)
    obtain ⟨rfl, hw9⟩ := h6
    subst ws9
    dsimp only [mPush]
    refine r_if_eqB (tgt := 52) hX dX2_offsetOf_34 (by decide) (fun c7 => ?_) (fun c7 => ?_)
    · have c7 := of_decide_eq_false c7
      refine r_aload_n hX dX2_offsetOf_52 rfl rfl ?_
      refine r_callV hX (z_X2_refused ad cs S T rest) kv_X2_56 0 rfl rfl rfl rfl (Nat.le_of_ble_eq_true rfl) ⟨(Nat.le_of_ble_eq_true rfl), (Nat.le_of_ble_eq_true rfl)⟩ ⟨(Nat.le_of_ble_eq_true rfl), (Nat.le_of_ble_eq_true rfl)⟩ dX2_offsetOf_53 (fun _ _ z => False.elim z) (fun v9 ws9 h8 => ?_)
      obtain ⟨rfl, hw9⟩ := h8
      subst ws9
      dsimp only [mPush]
      refine r_iret hX hE dX2_offsetOf_56 (Nat.le_of_ble_eq_true rfl) (Nat.le_of_ble_eq_true rfl) ⟨by omega, ?_⟩
      unfold oOff
      rw [if_neg (by omega)]
      exact ⟨rfl, rfl⟩
    · have c7 := of_decide_eq_true c7
      refine r_iload hX dX2_offsetOf_37 rfl ?_
      refine r_i2lZ hX dX2_offsetOf_39 (by omega) ?_
      refine r_ldc2Z (z := -59) hX kc_X2_52 (by decide) dX2_offsetOf_40 ?_
      refine r_ldc2Z (z := 59) hX kc_X2_54 (by decide) dX2_offsetOf_43 ?_
      refine r_callS hX (z_X2_isWithin _ _ _ _ _ (by omega) (by omega) (by omega)) ks_X2_48 rfl rfl (Nat.le_of_ble_eq_true rfl) ⟨(Nat.le_of_ble_eq_true rfl), (Nat.le_of_ble_eq_true rfl)⟩ ⟨(Nat.le_of_ble_eq_true rfl), (Nat.le_of_ble_eq_true rfl)⟩ dX2_offsetOf_46 (fun _ _ z => False.elim z) (fun v9 ws9 h9 => ?_)
      obtain ⟨rfl, hw9⟩ := h9
      subst ws9
      dsimp only [mPush]
      refine r_if_neB (tgt := 57) hX dX2_offsetOf_49 (by decide) (fun c10 => ?_) (fun c10 => ?_)
      · have c10 := of_decide_eq_true c10
        refine r_iload_n hX dX2_offsetOf_57 rfl rfl ?_
        refine r_if_gtZ (tgt := 70) hX dX2_offsetOf_58 (by decide) (by omega) (fun c11 => ?_) (fun c11 => ?_)
        · refine r_iconstZ hX dX2_offsetOf_70 ?_
          refine r_goto (tgt := 75) hX dX2_offsetOf_71 (by decide) ?_
          refine r_istore hX dX2_offsetOf_75 (by decide) rfl ?_
          refine r_iload_n hX dX2_offsetOf_77 rfl rfl ?_
          refine r_if_ltZ (tgt := 90) hX dX2_offsetOf_78 (by decide) (by omega) (fun c12 => ?_) (fun c12 => ?_)
          · refine r_iconstZ hX dX2_offsetOf_90 ?_
            refine r_goto (tgt := 95) hX dX2_offsetOf_91 (by decide) ?_
            refine r_istore hX dX2_offsetOf_95 (by decide) rfl ?_
            refine r_iload_n hX dX2_offsetOf_97 rfl rfl ?_
            refine r_sipushZ hX dX2_offsetOf_98 (by decide) ?_
            refine r_imulZ hX dX2_offsetOf_101 ?_
            refine r_iload_n hX dX2_offsetOf_102 rfl rfl ?_
            refine r_bipushZ hX dX2_offsetOf_103 (by decide) ?_
            refine r_imulZ hX dX2_offsetOf_105 ?_
            refine r_iaddZ hX dX2_offsetOf_106 ?_
            refine r_iload hX dX2_offsetOf_107 rfl ?_
            refine r_iaddZ hX dX2_offsetOf_109 ?_
            refine r_istore hX dX2_offsetOf_110 (by decide) rfl ?_
            refine r_iload hX dX2_offsetOf_112 rfl ?_
            refine r_if_eqZ (tgt := 122) hX dX2_offsetOf_114 (by decide) (by decide) (fun q => absurd q (by decide)) (fun _ => ?_)
            refine r_iload hX dX2_offsetOf_117 rfl ?_
            refine r_if_neZ (tgt := 137) hX dX2_offsetOf_119 (by decide) (by decide) (fun _ => ?_) (fun q => absurd (by decide) q)
            refine r_aload_n hX dX2_offsetOf_137 rfl rfl ?_
            refine r_callV hX (z_X2_refused ad cs S T rest) kv_X2_56 0 rfl rfl rfl rfl (Nat.le_of_ble_eq_true rfl) ⟨(Nat.le_of_ble_eq_true rfl), (Nat.le_of_ble_eq_true rfl)⟩ ⟨(Nat.le_of_ble_eq_true rfl), (Nat.le_of_ble_eq_true rfl)⟩ dX2_offsetOf_138 (fun _ _ z => False.elim z) (fun v9 ws9 h13 => ?_)
            obtain ⟨rfl, hw9⟩ := h13
            subst ws9
            dsimp only [mPush]
            refine r_iret hX hE dX2_offsetOf_141 (Nat.le_of_ble_eq_true rfl) (Nat.le_of_ble_eq_true rfl) ⟨by omega, ?_⟩
            unfold oOff
            rw [if_neg (by omega)]
            exact ⟨rfl, rfl⟩
          · refine r_iload_n hX dX2_offsetOf_81 rfl rfl ?_
            refine r_if_ltZ (tgt := 90) hX dX2_offsetOf_82 (by decide) (by omega) (fun c14 => ?_) (fun c14 => ?_)
            · refine r_iconstZ hX dX2_offsetOf_90 ?_
              refine r_goto (tgt := 95) hX dX2_offsetOf_91 (by decide) ?_
              refine r_istore hX dX2_offsetOf_95 (by decide) rfl ?_
              refine r_iload_n hX dX2_offsetOf_97 rfl rfl ?_
              refine r_sipushZ hX dX2_offsetOf_98 (by decide) ?_
              refine r_imulZ hX dX2_offsetOf_101 ?_
              refine r_iload_n hX dX2_offsetOf_102 rfl rfl ?_
              refine r_bipushZ hX dX2_offsetOf_103 (by decide) ?_
              refine r_imulZ hX dX2_offsetOf_105 ?_
              refine r_iaddZ hX dX2_offsetOf_106 ?_
              refine r_iload hX dX2_offsetOf_107 rfl ?_
              refine r_iaddZ hX dX2_offsetOf_109 ?_
              refine r_istore hX dX2_offsetOf_110 (by decide) rfl ?_
              refine r_iload hX dX2_offsetOf_112 rfl ?_
              refine r_if_eqZ (tgt := 122) hX dX2_offsetOf_114 (by decide) (by decide) (fun q => absurd q (by decide)) (fun _ => ?_)
              refine r_iload hX dX2_offsetOf_117 rfl ?_
              refine r_if_neZ (tgt := 137) hX dX2_offsetOf_119 (by decide) (by decide) (fun _ => ?_) (fun q => absurd (by decide) q)
              refine r_aload_n hX dX2_offsetOf_137 rfl rfl ?_
              refine r_callV hX (z_X2_refused ad cs S T rest) kv_X2_56 0 rfl rfl rfl rfl (Nat.le_of_ble_eq_true rfl) ⟨(Nat.le_of_ble_eq_true rfl), (Nat.le_of_ble_eq_true rfl)⟩ ⟨(Nat.le_of_ble_eq_true rfl), (Nat.le_of_ble_eq_true rfl)⟩ dX2_offsetOf_138 (fun _ _ z => False.elim z) (fun v9 ws9 h15 => ?_)
              obtain ⟨rfl, hw9⟩ := h15
              subst ws9
              dsimp only [mPush]
              refine r_iret hX hE dX2_offsetOf_141 (Nat.le_of_ble_eq_true rfl) (Nat.le_of_ble_eq_true rfl) ⟨by omega, ?_⟩
              unfold oOff
              rw [if_neg (by omega)]
              exact ⟨rfl, rfl⟩
            · refine r_iload hX dX2_offsetOf_85 rfl ?_
              refine r_if_geZ (tgt := 94) hX dX2_offsetOf_87 (by decide) (by omega) (fun c16 => ?_) (fun c16 => ?_)
              · refine r_iconstZ hX dX2_offsetOf_94 ?_
                refine r_istore hX dX2_offsetOf_95 (by decide) rfl ?_
                refine r_iload_n hX dX2_offsetOf_97 rfl rfl ?_
                refine r_sipushZ hX dX2_offsetOf_98 (by decide) ?_
                refine r_imulZ hX dX2_offsetOf_101 ?_
                refine r_iload_n hX dX2_offsetOf_102 rfl rfl ?_
                refine r_bipushZ hX dX2_offsetOf_103 (by decide) ?_
                refine r_imulZ hX dX2_offsetOf_105 ?_
                refine r_iaddZ hX dX2_offsetOf_106 ?_
                refine r_iload hX dX2_offsetOf_107 rfl ?_
                refine r_iaddZ hX dX2_offsetOf_109 ?_
                refine r_istore hX dX2_offsetOf_110 (by decide) rfl ?_
                refine r_iload hX dX2_offsetOf_112 rfl ?_
                refine r_if_eqZ (tgt := 122) hX dX2_offsetOf_114 (by decide) (by decide) (fun q => absurd q (by decide)) (fun _ => ?_)
                refine r_iload hX dX2_offsetOf_117 rfl ?_
                refine r_if_neZ (tgt := 137) hX dX2_offsetOf_119 (by decide) (by decide) (fun q => absurd q (by decide)) (fun _ => ?_)
                refine r_iload hX dX2_offsetOf_122 rfl ?_
                refine r_i2lZ hX dX2_offsetOf_124 (by omega) ?_
                refine r_ldc2Z (z := -64800) hX kc_X2_60 (by decide) dX2_offsetOf_125 ?_
                refine r_ldc2Z (z := 64800) hX kc_X2_62 (by decide) dX2_offsetOf_128 ?_
                refine r_callS hX (z_X2_isWithin _ _ _ _ _ (by omega) (by omega) (by omega)) ks_X2_48 rfl rfl (Nat.le_of_ble_eq_true rfl) ⟨(Nat.le_of_ble_eq_true rfl), (Nat.le_of_ble_eq_true rfl)⟩ ⟨(Nat.le_of_ble_eq_true rfl), (Nat.le_of_ble_eq_true rfl)⟩ dX2_offsetOf_131 (fun _ _ z => False.elim z) (fun v9 ws9 h17 => ?_)
                obtain ⟨rfl, hw9⟩ := h17
                subst ws9
                dsimp only [mPush]
                refine r_if_neB (tgt := 142) hX dX2_offsetOf_134 (by decide) (fun c18 => ?_) (fun c18 => ?_)
                · have c18 := of_decide_eq_true c18
                  refine r_aload_n hX dX2_offsetOf_142 rfl rfl ?_
                  refine r_get hX kf_X2_9 0 rfl rfl dX2_offsetOf_143 ?_
                  refine r_iload_n hX dX2_offsetOf_146 rfl rfl ?_
                  refine r_iload hX dX2_offsetOf_147 rfl ?_
                  refine r_iastZ hX 1 0 rfl rfl (a0).toNat (by omega) (by omega) (by decide) dX2_offsetOf_149 ?_
                  refine r_eqw (zWd_off (j := (a0).toNat) (z := ((a1 * 3600) + (a2 * 60)) + a3)) ?_
                  refine r_iload hX dX2_offsetOf_150 rfl ?_
                  refine r_iret hX hE dX2_offsetOf_152 (Nat.le_of_ble_eq_true rfl) (Nat.le_of_ble_eq_true rfl) ⟨by omega, ?_⟩
                  unfold oOff
                  rw [if_pos (by omega)]
                  exact ⟨rfl, rfl⟩
                · have c18 := of_decide_eq_false c18
                  refine r_aload_n hX dX2_offsetOf_137 rfl rfl ?_
                  refine r_callV hX (z_X2_refused ad cs S T rest) kv_X2_56 0 rfl rfl rfl rfl (Nat.le_of_ble_eq_true rfl) ⟨(Nat.le_of_ble_eq_true rfl), (Nat.le_of_ble_eq_true rfl)⟩ ⟨(Nat.le_of_ble_eq_true rfl), (Nat.le_of_ble_eq_true rfl)⟩ dX2_offsetOf_138 (fun _ _ z => False.elim z) (fun v9 ws9 h19 => ?_)
                  obtain ⟨rfl, hw9⟩ := h19
                  subst ws9
                  dsimp only [mPush]
                  refine r_iret hX hE dX2_offsetOf_141 (Nat.le_of_ble_eq_true rfl) (Nat.le_of_ble_eq_true rfl) ⟨by omega, ?_⟩
                  unfold oOff
                  rw [if_neg (by omega)]
                  exact ⟨rfl, rfl⟩
              · refine r_iconstZ hX dX2_offsetOf_90 ?_
                refine r_goto (tgt := 95) hX dX2_offsetOf_91 (by decide) ?_
                refine r_istore hX dX2_offsetOf_95 (by decide) rfl ?_
                refine r_iload_n hX dX2_offsetOf_97 rfl rfl ?_
                refine r_sipushZ hX dX2_offsetOf_98 (by decide) ?_
                refine r_imulZ hX dX2_offsetOf_101 ?_
                refine r_iload_n hX dX2_offsetOf_102 rfl rfl ?_
                refine r_bipushZ hX dX2_offsetOf_103 (by decide) ?_
                refine r_imulZ hX dX2_offsetOf_105 ?_
                refine r_iaddZ hX dX2_offsetOf_106 ?_
                refine r_iload hX dX2_offsetOf_107 rfl ?_
                refine r_iaddZ hX dX2_offsetOf_109 ?_
                refine r_istore hX dX2_offsetOf_110 (by decide) rfl ?_
                refine r_iload hX dX2_offsetOf_112 rfl ?_
                refine r_if_eqZ (tgt := 122) hX dX2_offsetOf_114 (by decide) (by decide) (fun q => absurd q (by decide)) (fun _ => ?_)
                refine r_iload hX dX2_offsetOf_117 rfl ?_
                refine r_if_neZ (tgt := 137) hX dX2_offsetOf_119 (by decide) (by decide) (fun _ => ?_) (fun q => absurd (by decide) q)
                refine r_aload_n hX dX2_offsetOf_137 rfl rfl ?_
                refine r_callV hX (z_X2_refused ad cs S T rest) kv_X2_56 0 rfl rfl rfl rfl (Nat.le_of_ble_eq_true rfl) ⟨(Nat.le_of_ble_eq_true rfl), (Nat.le_of_ble_eq_true rfl)⟩ ⟨(Nat.le_of_ble_eq_true rfl), (Nat.le_of_ble_eq_true rfl)⟩ dX2_offsetOf_138 (fun _ _ z => False.elim z) (fun v9 ws9 h20 => ?_)
                obtain ⟨rfl, hw9⟩ := h20
                subst ws9
                dsimp only [mPush]
                refine r_iret hX hE dX2_offsetOf_141 (Nat.le_of_ble_eq_true rfl) (Nat.le_of_ble_eq_true rfl) ⟨by omega, ?_⟩
                unfold oOff
                rw [if_neg (by omega)]
                exact ⟨rfl, rfl⟩
        · refine r_iload_n hX dX2_offsetOf_61 rfl rfl ?_
          refine r_if_gtZ (tgt := 70) hX dX2_offsetOf_62 (by decide) (by omega) (fun c21 => ?_) (fun c21 => ?_)
          · refine r_iconstZ hX dX2_offsetOf_70 ?_
            refine r_goto (tgt := 75) hX dX2_offsetOf_71 (by decide) ?_
            refine r_istore hX dX2_offsetOf_75 (by decide) rfl ?_
            refine r_iload_n hX dX2_offsetOf_77 rfl rfl ?_
            refine r_if_ltZ (tgt := 90) hX dX2_offsetOf_78 (by decide) (by omega) (fun c22 => ?_) (fun c22 => ?_)
            · refine r_iconstZ hX dX2_offsetOf_90 ?_
              refine r_goto (tgt := 95) hX dX2_offsetOf_91 (by decide) ?_
              refine r_istore hX dX2_offsetOf_95 (by decide) rfl ?_
              refine r_iload_n hX dX2_offsetOf_97 rfl rfl ?_
              refine r_sipushZ hX dX2_offsetOf_98 (by decide) ?_
              refine r_imulZ hX dX2_offsetOf_101 ?_
              refine r_iload_n hX dX2_offsetOf_102 rfl rfl ?_
              refine r_bipushZ hX dX2_offsetOf_103 (by decide) ?_
              refine r_imulZ hX dX2_offsetOf_105 ?_
              refine r_iaddZ hX dX2_offsetOf_106 ?_
              refine r_iload hX dX2_offsetOf_107 rfl ?_
              refine r_iaddZ hX dX2_offsetOf_109 ?_
              refine r_istore hX dX2_offsetOf_110 (by decide) rfl ?_
              refine r_iload hX dX2_offsetOf_112 rfl ?_
              refine r_if_eqZ (tgt := 122) hX dX2_offsetOf_114 (by decide) (by decide) (fun q => absurd q (by decide)) (fun _ => ?_)
              refine r_iload hX dX2_offsetOf_117 rfl ?_
              refine r_if_neZ (tgt := 137) hX dX2_offsetOf_119 (by decide) (by decide) (fun _ => ?_) (fun q => absurd (by decide) q)
              refine r_aload_n hX dX2_offsetOf_137 rfl rfl ?_
              refine r_callV hX (z_X2_refused ad cs S T rest) kv_X2_56 0 rfl rfl rfl rfl (Nat.le_of_ble_eq_true rfl) ⟨(Nat.le_of_ble_eq_true rfl), (Nat.le_of_ble_eq_true rfl)⟩ ⟨(Nat.le_of_ble_eq_true rfl), (Nat.le_of_ble_eq_true rfl)⟩ dX2_offsetOf_138 (fun _ _ z => False.elim z) (fun v9 ws9 h23 => ?_)
              obtain ⟨rfl, hw9⟩ := h23
              subst ws9
              dsimp only [mPush]
              refine r_iret hX hE dX2_offsetOf_141 (Nat.le_of_ble_eq_true rfl) (Nat.le_of_ble_eq_true rfl) ⟨by omega, ?_⟩
              unfold oOff
              rw [if_neg (by omega)]
              exact ⟨rfl, rfl⟩
            · refine r_iload_n hX dX2_offsetOf_81 rfl rfl ?_
              refine r_if_ltZ (tgt := 90) hX dX2_offsetOf_82 (by decide) (by omega) (fun c24 => ?_) (fun c24 => ?_)
              · refine r_iconstZ hX dX2_offsetOf_90 ?_
                refine r_goto (tgt := 95) hX dX2_offsetOf_91 (by decide) ?_
                refine r_istore hX dX2_offsetOf_95 (by decide) rfl ?_
                refine r_iload_n hX dX2_offsetOf_97 rfl rfl ?_
                refine r_sipushZ hX dX2_offsetOf_98 (by decide) ?_
                refine r_imulZ hX dX2_offsetOf_101 ?_
                refine r_iload_n hX dX2_offsetOf_102 rfl rfl ?_
                refine r_bipushZ hX dX2_offsetOf_103 (by decide) ?_
                refine r_imulZ hX dX2_offsetOf_105 ?_
                refine r_iaddZ hX dX2_offsetOf_106 ?_
                refine r_iload hX dX2_offsetOf_107 rfl ?_
                refine r_iaddZ hX dX2_offsetOf_109 ?_
                refine r_istore hX dX2_offsetOf_110 (by decide) rfl ?_
                refine r_iload hX dX2_offsetOf_112 rfl ?_
                refine r_if_eqZ (tgt := 122) hX dX2_offsetOf_114 (by decide) (by decide) (fun q => absurd q (by decide)) (fun _ => ?_)
                refine r_iload hX dX2_offsetOf_117 rfl ?_
                refine r_if_neZ (tgt := 137) hX dX2_offsetOf_119 (by decide) (by decide) (fun _ => ?_) (fun q => absurd (by decide) q)
                refine r_aload_n hX dX2_offsetOf_137 rfl rfl ?_
                refine r_callV hX (z_X2_refused ad cs S T rest) kv_X2_56 0 rfl rfl rfl rfl (Nat.le_of_ble_eq_true rfl) ⟨(Nat.le_of_ble_eq_true rfl), (Nat.le_of_ble_eq_true rfl)⟩ ⟨(Nat.le_of_ble_eq_true rfl), (Nat.le_of_ble_eq_true rfl)⟩ dX2_offsetOf_138 (fun _ _ z => False.elim z) (fun v9 ws9 h25 => ?_)
                obtain ⟨rfl, hw9⟩ := h25
                subst ws9
                dsimp only [mPush]
                refine r_iret hX hE dX2_offsetOf_141 (Nat.le_of_ble_eq_true rfl) (Nat.le_of_ble_eq_true rfl) ⟨by omega, ?_⟩
                unfold oOff
                rw [if_neg (by omega)]
                exact ⟨rfl, rfl⟩
              · refine r_iload hX dX2_offsetOf_85 rfl ?_
                refine r_if_geZ (tgt := 94) hX dX2_offsetOf_87 (by decide) (by omega) (fun c26 => ?_) (fun c26 => ?_)
                · refine r_iconstZ hX dX2_offsetOf_94 ?_
                  refine r_istore hX dX2_offsetOf_95 (by decide) rfl ?_
                  refine r_iload_n hX dX2_offsetOf_97 rfl rfl ?_
                  refine r_sipushZ hX dX2_offsetOf_98 (by decide) ?_
                  refine r_imulZ hX dX2_offsetOf_101 ?_
                  refine r_iload_n hX dX2_offsetOf_102 rfl rfl ?_
                  refine r_bipushZ hX dX2_offsetOf_103 (by decide) ?_
                  refine r_imulZ hX dX2_offsetOf_105 ?_
                  refine r_iaddZ hX dX2_offsetOf_106 ?_
                  refine r_iload hX dX2_offsetOf_107 rfl ?_
                  refine r_iaddZ hX dX2_offsetOf_109 ?_
                  refine r_istore hX dX2_offsetOf_110 (by decide) rfl ?_
                  refine r_iload hX dX2_offsetOf_112 rfl ?_
                  refine r_if_eqZ (tgt := 122) hX dX2_offsetOf_114 (by decide) (by decide) (fun q => absurd q (by decide)) (fun _ => ?_)
                  refine r_iload hX dX2_offsetOf_117 rfl ?_
                  refine r_if_neZ (tgt := 137) hX dX2_offsetOf_119 (by decide) (by decide) (fun q => absurd q (by decide)) (fun _ => ?_)
                  refine r_iload hX dX2_offsetOf_122 rfl ?_
                  refine r_i2lZ hX dX2_offsetOf_124 (by omega) ?_
                  refine r_ldc2Z (z := -64800) hX kc_X2_60 (by decide) dX2_offsetOf_125 ?_
                  refine r_ldc2Z (z := 64800) hX kc_X2_62 (by decide) dX2_offsetOf_128 ?_
                  refine r_callS hX (z_X2_isWithin _ _ _ _ _ (by omega) (by omega) (by omega)) ks_X2_48 rfl rfl (Nat.le_of_ble_eq_true rfl) ⟨(Nat.le_of_ble_eq_true rfl), (Nat.le_of_ble_eq_true rfl)⟩ ⟨(Nat.le_of_ble_eq_true rfl), (Nat.le_of_ble_eq_true rfl)⟩ dX2_offsetOf_131 (fun _ _ z => False.elim z) (fun v9 ws9 h27 => ?_)
                  obtain ⟨rfl, hw9⟩ := h27
                  subst ws9
                  dsimp only [mPush]
                  refine r_if_neB (tgt := 142) hX dX2_offsetOf_134 (by decide) (fun c28 => ?_) (fun c28 => ?_)
                  · have c28 := of_decide_eq_true c28
                    refine r_aload_n hX dX2_offsetOf_142 rfl rfl ?_
                    refine r_get hX kf_X2_9 0 rfl rfl dX2_offsetOf_143 ?_
                    refine r_iload_n hX dX2_offsetOf_146 rfl rfl ?_
                    refine r_iload hX dX2_offsetOf_147 rfl ?_
                    refine r_iastZ hX 1 0 rfl rfl (a0).toNat (by omega) (by omega) (by decide) dX2_offsetOf_149 ?_
                    refine r_eqw (zWd_off (j := (a0).toNat) (z := ((a1 * 3600) + (a2 * 60)) + a3)) ?_
                    refine r_iload hX dX2_offsetOf_150 rfl ?_
                    refine r_iret hX hE dX2_offsetOf_152 (Nat.le_of_ble_eq_true rfl) (Nat.le_of_ble_eq_true rfl) ⟨by omega, ?_⟩
                    unfold oOff
                    rw [if_pos (by omega)]
                    exact ⟨rfl, rfl⟩
                  · have c28 := of_decide_eq_false c28
                    refine r_aload_n hX dX2_offsetOf_137 rfl rfl ?_
                    refine r_callV hX (z_X2_refused ad cs S T rest) kv_X2_56 0 rfl rfl rfl rfl (Nat.le_of_ble_eq_true rfl) ⟨(Nat.le_of_ble_eq_true rfl), (Nat.le_of_ble_eq_true rfl)⟩ ⟨(Nat.le_of_ble_eq_true rfl), (Nat.le_of_ble_eq_true rfl)⟩ dX2_offsetOf_138 (fun _ _ z => False.elim z) (fun v9 ws9 h29 => ?_)
                    obtain ⟨rfl, hw9⟩ := h29
                    subst ws9
                    dsimp only [mPush]
                    refine r_iret hX hE dX2_offsetOf_141 (Nat.le_of_ble_eq_true rfl) (Nat.le_of_ble_eq_true rfl) ⟨by omega, ?_⟩
                    unfold oOff
                    rw [if_neg (by omega)]
                    exact ⟨rfl, rfl⟩
                · refine r_iconstZ hX dX2_offsetOf_90 ?_
                  refine r_goto (tgt := 95) hX dX2_offsetOf_91 (by decide) ?_
                  refine r_istore hX dX2_offsetOf_95 (by decide) rfl ?_
                  refine r_iload_n hX dX2_offsetOf_97 rfl rfl ?_
                  refine r_sipushZ hX dX2_offsetOf_98 (by decide) ?_
                  refine r_imulZ hX dX2_offsetOf_101 ?_
                  refine r_iload_n hX dX2_offsetOf_102 rfl rfl ?_
                  refine r_bipushZ hX dX2_offsetOf_103 (by decide) ?_
                  refine r_imulZ hX dX2_offsetOf_105 ?_
                  refine r_iaddZ hX dX2_offsetOf_106 ?_
                  refine r_iload hX dX2_offsetOf_107 rfl ?_
                  refine r_iaddZ hX dX2_offsetOf_109 ?_
                  refine r_istore hX dX2_offsetOf_110 (by decide) rfl ?_
                  refine r_iload hX dX2_offsetOf_112 rfl ?_
                  refine r_if_eqZ (tgt := 122) hX dX2_offsetOf_114 (by decide) (by decide) (fun q => absurd q (by decide)) (fun _ => ?_)
                  refine r_iload hX dX2_offsetOf_117 rfl ?_
                  refine r_if_neZ (tgt := 137) hX dX2_offsetOf_119 (by decide) (by decide) (fun _ => ?_) (fun q => absurd (by decide) q)
                  refine r_aload_n hX dX2_offsetOf_137 rfl rfl ?_
                  refine r_callV hX (z_X2_refused ad cs S T rest) kv_X2_56 0 rfl rfl rfl rfl (Nat.le_of_ble_eq_true rfl) ⟨(Nat.le_of_ble_eq_true rfl), (Nat.le_of_ble_eq_true rfl)⟩ ⟨(Nat.le_of_ble_eq_true rfl), (Nat.le_of_ble_eq_true rfl)⟩ dX2_offsetOf_138 (fun _ _ z => False.elim z) (fun v9 ws9 h30 => ?_)
                  obtain ⟨rfl, hw9⟩ := h30
                  subst ws9
                  dsimp only [mPush]
                  refine r_iret hX hE dX2_offsetOf_141 (Nat.le_of_ble_eq_true rfl) (Nat.le_of_ble_eq_true rfl) ⟨by omega, ?_⟩
                  unfold oOff
                  rw [if_neg (by omega)]
                  exact ⟨rfl, rfl⟩
          · refine r_iload hX dX2_offsetOf_65 rfl ?_
            refine r_if_leZ (tgt := 74) hX dX2_offsetOf_67 (by decide) (by omega) (fun c31 => ?_) (fun c31 => ?_)
            · refine r_iconstZ hX dX2_offsetOf_74 ?_
              refine r_istore hX dX2_offsetOf_75 (by decide) rfl ?_
              refine r_iload_n hX dX2_offsetOf_77 rfl rfl ?_
              refine r_if_ltZ (tgt := 90) hX dX2_offsetOf_78 (by decide) (by omega) (fun c32 => ?_) (fun c32 => ?_)
              · refine r_iconstZ hX dX2_offsetOf_90 ?_
                refine r_goto (tgt := 95) hX dX2_offsetOf_91 (by decide) ?_
                refine r_istore hX dX2_offsetOf_95 (by decide) rfl ?_
                refine r_iload_n hX dX2_offsetOf_97 rfl rfl ?_
                refine r_sipushZ hX dX2_offsetOf_98 (by decide) ?_
                refine r_imulZ hX dX2_offsetOf_101 ?_
                refine r_iload_n hX dX2_offsetOf_102 rfl rfl ?_
                refine r_bipushZ hX dX2_offsetOf_103 (by decide) ?_
                refine r_imulZ hX dX2_offsetOf_105 ?_
                refine r_iaddZ hX dX2_offsetOf_106 ?_
                refine r_iload hX dX2_offsetOf_107 rfl ?_
                refine r_iaddZ hX dX2_offsetOf_109 ?_
                refine r_istore hX dX2_offsetOf_110 (by decide) rfl ?_
                refine r_iload hX dX2_offsetOf_112 rfl ?_
                refine r_if_eqZ (tgt := 122) hX dX2_offsetOf_114 (by decide) (by decide) (fun _ => ?_) (fun q => absurd (by decide) q)
                refine r_iload hX dX2_offsetOf_122 rfl ?_
                refine r_i2lZ hX dX2_offsetOf_124 (by omega) ?_
                refine r_ldc2Z (z := -64800) hX kc_X2_60 (by decide) dX2_offsetOf_125 ?_
                refine r_ldc2Z (z := 64800) hX kc_X2_62 (by decide) dX2_offsetOf_128 ?_
                refine r_callS hX (z_X2_isWithin _ _ _ _ _ (by omega) (by omega) (by omega)) ks_X2_48 rfl rfl (Nat.le_of_ble_eq_true rfl) ⟨(Nat.le_of_ble_eq_true rfl), (Nat.le_of_ble_eq_true rfl)⟩ ⟨(Nat.le_of_ble_eq_true rfl), (Nat.le_of_ble_eq_true rfl)⟩ dX2_offsetOf_131 (fun _ _ z => False.elim z) (fun v9 ws9 h33 => ?_)
                obtain ⟨rfl, hw9⟩ := h33
                subst ws9
                dsimp only [mPush]
                refine r_if_neB (tgt := 142) hX dX2_offsetOf_134 (by decide) (fun c34 => ?_) (fun c34 => ?_)
                · have c34 := of_decide_eq_true c34
                  refine r_aload_n hX dX2_offsetOf_142 rfl rfl ?_
                  refine r_get hX kf_X2_9 0 rfl rfl dX2_offsetOf_143 ?_
                  refine r_iload_n hX dX2_offsetOf_146 rfl rfl ?_
                  refine r_iload hX dX2_offsetOf_147 rfl ?_
                  refine r_iastZ hX 1 0 rfl rfl (a0).toNat (by omega) (by omega) (by decide) dX2_offsetOf_149 ?_
                  refine r_eqw (zWd_off (j := (a0).toNat) (z := ((a1 * 3600) + (a2 * 60)) + a3)) ?_
                  refine r_iload hX dX2_offsetOf_150 rfl ?_
                  refine r_iret hX hE dX2_offsetOf_152 (Nat.le_of_ble_eq_true rfl) (Nat.le_of_ble_eq_true rfl) ⟨by omega, ?_⟩
                  unfold oOff
                  rw [if_pos (by omega)]
                  exact ⟨rfl, rfl⟩
                · have c34 := of_decide_eq_false c34
                  refine r_aload_n hX dX2_offsetOf_137 rfl rfl ?_
                  refine r_callV hX (z_X2_refused ad cs S T rest) kv_X2_56 0 rfl rfl rfl rfl (Nat.le_of_ble_eq_true rfl) ⟨(Nat.le_of_ble_eq_true rfl), (Nat.le_of_ble_eq_true rfl)⟩ ⟨(Nat.le_of_ble_eq_true rfl), (Nat.le_of_ble_eq_true rfl)⟩ dX2_offsetOf_138 (fun _ _ z => False.elim z) (fun v9 ws9 h35 => ?_)
                  obtain ⟨rfl, hw9⟩ := h35
                  subst ws9
                  dsimp only [mPush]
                  refine r_iret hX hE dX2_offsetOf_141 (Nat.le_of_ble_eq_true rfl) (Nat.le_of_ble_eq_true rfl) ⟨by omega, ?_⟩
                  unfold oOff
                  rw [if_neg (by omega)]
                  exact ⟨rfl, rfl⟩
              · refine r_iload_n hX dX2_offsetOf_81 rfl rfl ?_
                refine r_if_ltZ (tgt := 90) hX dX2_offsetOf_82 (by decide) (by omega) (fun c36 => ?_) (fun c36 => ?_)
                · refine r_iconstZ hX dX2_offsetOf_90 ?_
                  refine r_goto (tgt := 95) hX dX2_offsetOf_91 (by decide) ?_
                  refine r_istore hX dX2_offsetOf_95 (by decide) rfl ?_
                  refine r_iload_n hX dX2_offsetOf_97 rfl rfl ?_
                  refine r_sipushZ hX dX2_offsetOf_98 (by decide) ?_
                  refine r_imulZ hX dX2_offsetOf_101 ?_
                  refine r_iload_n hX dX2_offsetOf_102 rfl rfl ?_
                  refine r_bipushZ hX dX2_offsetOf_103 (by decide) ?_
                  refine r_imulZ hX dX2_offsetOf_105 ?_
                  refine r_iaddZ hX dX2_offsetOf_106 ?_
                  refine r_iload hX dX2_offsetOf_107 rfl ?_
                  refine r_iaddZ hX dX2_offsetOf_109 ?_
                  refine r_istore hX dX2_offsetOf_110 (by decide) rfl ?_
                  refine r_iload hX dX2_offsetOf_112 rfl ?_
                  refine r_if_eqZ (tgt := 122) hX dX2_offsetOf_114 (by decide) (by decide) (fun _ => ?_) (fun q => absurd (by decide) q)
                  refine r_iload hX dX2_offsetOf_122 rfl ?_
                  refine r_i2lZ hX dX2_offsetOf_124 (by omega) ?_
                  refine r_ldc2Z (z := -64800) hX kc_X2_60 (by decide) dX2_offsetOf_125 ?_
                  refine r_ldc2Z (z := 64800) hX kc_X2_62 (by decide) dX2_offsetOf_128 ?_
                  refine r_callS hX (z_X2_isWithin _ _ _ _ _ (by omega) (by omega) (by omega)) ks_X2_48 rfl rfl (Nat.le_of_ble_eq_true rfl) ⟨(Nat.le_of_ble_eq_true rfl), (Nat.le_of_ble_eq_true rfl)⟩ ⟨(Nat.le_of_ble_eq_true rfl), (Nat.le_of_ble_eq_true rfl)⟩ dX2_offsetOf_131 (fun _ _ z => False.elim z) (fun v9 ws9 h37 => ?_)
                  obtain ⟨rfl, hw9⟩ := h37
                  subst ws9
                  dsimp only [mPush]
                  refine r_if_neB (tgt := 142) hX dX2_offsetOf_134 (by decide) (fun c38 => ?_) (fun c38 => ?_)
                  · have c38 := of_decide_eq_true c38
                    refine r_aload_n hX dX2_offsetOf_142 rfl rfl ?_
                    refine r_get hX kf_X2_9 0 rfl rfl dX2_offsetOf_143 ?_
                    refine r_iload_n hX dX2_offsetOf_146 rfl rfl ?_
                    refine r_iload hX dX2_offsetOf_147 rfl ?_
                    refine r_iastZ hX 1 0 rfl rfl (a0).toNat (by omega) (by omega) (by decide) dX2_offsetOf_149 ?_
                    refine r_eqw (zWd_off (j := (a0).toNat) (z := ((a1 * 3600) + (a2 * 60)) + a3)) ?_
                    refine r_iload hX dX2_offsetOf_150 rfl ?_
                    refine r_iret hX hE dX2_offsetOf_152 (Nat.le_of_ble_eq_true rfl) (Nat.le_of_ble_eq_true rfl) ⟨by omega, ?_⟩
                    unfold oOff
                    rw [if_pos (by omega)]
                    exact ⟨rfl, rfl⟩
                  · have c38 := of_decide_eq_false c38
                    refine r_aload_n hX dX2_offsetOf_137 rfl rfl ?_
                    refine r_callV hX (z_X2_refused ad cs S T rest) kv_X2_56 0 rfl rfl rfl rfl (Nat.le_of_ble_eq_true rfl) ⟨(Nat.le_of_ble_eq_true rfl), (Nat.le_of_ble_eq_true rfl)⟩ ⟨(Nat.le_of_ble_eq_true rfl), (Nat.le_of_ble_eq_true rfl)⟩ dX2_offsetOf_138 (fun _ _ z => False.elim z) (fun v9 ws9 h39 => ?_)
                    obtain ⟨rfl, hw9⟩ := h39
                    subst ws9
                    dsimp only [mPush]
                    refine r_iret hX hE dX2_offsetOf_141 (Nat.le_of_ble_eq_true rfl) (Nat.le_of_ble_eq_true rfl) ⟨by omega, ?_⟩
                    unfold oOff
                    rw [if_neg (by omega)]
                    exact ⟨rfl, rfl⟩
                · refine r_iload hX dX2_offsetOf_85 rfl ?_
                  refine r_if_geZ (tgt := 94) hX dX2_offsetOf_87 (by decide) (by omega) (fun c40 => ?_) (fun c40 => ?_)
                  · refine r_iconstZ hX dX2_offsetOf_94 ?_
                    refine r_istore hX dX2_offsetOf_95 (by decide) rfl ?_
                    refine r_iload_n hX dX2_offsetOf_97 rfl rfl ?_
                    refine r_sipushZ hX dX2_offsetOf_98 (by decide) ?_
                    refine r_imulZ hX dX2_offsetOf_101 ?_
                    refine r_iload_n hX dX2_offsetOf_102 rfl rfl ?_
                    refine r_bipushZ hX dX2_offsetOf_103 (by decide) ?_
                    refine r_imulZ hX dX2_offsetOf_105 ?_
                    refine r_iaddZ hX dX2_offsetOf_106 ?_
                    refine r_iload hX dX2_offsetOf_107 rfl ?_
                    refine r_iaddZ hX dX2_offsetOf_109 ?_
                    refine r_istore hX dX2_offsetOf_110 (by decide) rfl ?_
                    refine r_iload hX dX2_offsetOf_112 rfl ?_
                    refine r_if_eqZ (tgt := 122) hX dX2_offsetOf_114 (by decide) (by decide) (fun _ => ?_) (fun q => absurd (by decide) q)
                    refine r_iload hX dX2_offsetOf_122 rfl ?_
                    refine r_i2lZ hX dX2_offsetOf_124 (by omega) ?_
                    refine r_ldc2Z (z := -64800) hX kc_X2_60 (by decide) dX2_offsetOf_125 ?_
                    refine r_ldc2Z (z := 64800) hX kc_X2_62 (by decide) dX2_offsetOf_128 ?_
                    refine r_callS hX (z_X2_isWithin _ _ _ _ _ (by omega) (by omega) (by omega)) ks_X2_48 rfl rfl (Nat.le_of_ble_eq_true rfl) ⟨(Nat.le_of_ble_eq_true rfl), (Nat.le_of_ble_eq_true rfl)⟩ ⟨(Nat.le_of_ble_eq_true rfl), (Nat.le_of_ble_eq_true rfl)⟩ dX2_offsetOf_131 (fun _ _ z => False.elim z) (fun v9 ws9 h41 => ?_)
                    obtain ⟨rfl, hw9⟩ := h41
                    subst ws9
                    dsimp only [mPush]
                    refine r_if_neB (tgt := 142) hX dX2_offsetOf_134 (by decide) (fun c42 => ?_) (fun c42 => ?_)
                    · have c42 := of_decide_eq_true c42
                      refine r_aload_n hX dX2_offsetOf_142 rfl rfl ?_
                      refine r_get hX kf_X2_9 0 rfl rfl dX2_offsetOf_143 ?_
                      refine r_iload_n hX dX2_offsetOf_146 rfl rfl ?_
                      refine r_iload hX dX2_offsetOf_147 rfl ?_
                      refine r_iastZ hX 1 0 rfl rfl (a0).toNat (by omega) (by omega) (by decide) dX2_offsetOf_149 ?_
                      refine r_eqw (zWd_off (j := (a0).toNat) (z := ((a1 * 3600) + (a2 * 60)) + a3)) ?_
                      refine r_iload hX dX2_offsetOf_150 rfl ?_
                      refine r_iret hX hE dX2_offsetOf_152 (Nat.le_of_ble_eq_true rfl) (Nat.le_of_ble_eq_true rfl) ⟨by omega, ?_⟩
                      unfold oOff
                      rw [if_pos (by omega)]
                      exact ⟨rfl, rfl⟩
                    · have c42 := of_decide_eq_false c42
                      refine r_aload_n hX dX2_offsetOf_137 rfl rfl ?_
                      refine r_callV hX (z_X2_refused ad cs S T rest) kv_X2_56 0 rfl rfl rfl rfl (Nat.le_of_ble_eq_true rfl) ⟨(Nat.le_of_ble_eq_true rfl), (Nat.le_of_ble_eq_true rfl)⟩ ⟨(Nat.le_of_ble_eq_true rfl), (Nat.le_of_ble_eq_true rfl)⟩ dX2_offsetOf_138 (fun _ _ z => False.elim z) (fun v9 ws9 h43 => ?_)
                      obtain ⟨rfl, hw9⟩ := h43
                      subst ws9
                      dsimp only [mPush]
                      refine r_iret hX hE dX2_offsetOf_141 (Nat.le_of_ble_eq_true rfl) (Nat.le_of_ble_eq_true rfl) ⟨by omega, ?_⟩
                      unfold oOff
                      rw [if_neg (by omega)]
                      exact ⟨rfl, rfl⟩
                  · refine r_iconstZ hX dX2_offsetOf_90 ?_
                    refine r_goto (tgt := 95) hX dX2_offsetOf_91 (by decide) ?_
                    refine r_istore hX dX2_offsetOf_95 (by decide) rfl ?_
                    refine r_iload_n hX dX2_offsetOf_97 rfl rfl ?_
                    refine r_sipushZ hX dX2_offsetOf_98 (by decide) ?_
                    refine r_imulZ hX dX2_offsetOf_101 ?_
                    refine r_iload_n hX dX2_offsetOf_102 rfl rfl ?_
                    refine r_bipushZ hX dX2_offsetOf_103 (by decide) ?_
                    refine r_imulZ hX dX2_offsetOf_105 ?_
                    refine r_iaddZ hX dX2_offsetOf_106 ?_
                    refine r_iload hX dX2_offsetOf_107 rfl ?_
                    refine r_iaddZ hX dX2_offsetOf_109 ?_
                    refine r_istore hX dX2_offsetOf_110 (by decide) rfl ?_
                    refine r_iload hX dX2_offsetOf_112 rfl ?_
                    refine r_if_eqZ (tgt := 122) hX dX2_offsetOf_114 (by decide) (by decide) (fun _ => ?_) (fun q => absurd (by decide) q)
                    refine r_iload hX dX2_offsetOf_122 rfl ?_
                    refine r_i2lZ hX dX2_offsetOf_124 (by omega) ?_
                    refine r_ldc2Z (z := -64800) hX kc_X2_60 (by decide) dX2_offsetOf_125 ?_
                    refine r_ldc2Z (z := 64800) hX kc_X2_62 (by decide) dX2_offsetOf_128 ?_
                    refine r_callS hX (z_X2_isWithin _ _ _ _ _ (by omega) (by omega) (by omega)) ks_X2_48 rfl rfl (Nat.le_of_ble_eq_true rfl) ⟨(Nat.le_of_ble_eq_true rfl), (Nat.le_of_ble_eq_true rfl)⟩ ⟨(Nat.le_of_ble_eq_true rfl), (Nat.le_of_ble_eq_true rfl)⟩ dX2_offsetOf_131 (fun _ _ z => False.elim z) (fun v9 ws9 h44 => ?_)
                    obtain ⟨rfl, hw9⟩ := h44
                    subst ws9
                    dsimp only [mPush]
                    refine r_if_neB (tgt := 142) hX dX2_offsetOf_134 (by decide) (fun c45 => ?_) (fun c45 => ?_)
                    · have c45 := of_decide_eq_true c45
                      refine r_aload_n hX dX2_offsetOf_142 rfl rfl ?_
                      refine r_get hX kf_X2_9 0 rfl rfl dX2_offsetOf_143 ?_
                      refine r_iload_n hX dX2_offsetOf_146 rfl rfl ?_
                      refine r_iload hX dX2_offsetOf_147 rfl ?_
                      refine r_iastZ hX 1 0 rfl rfl (a0).toNat (by omega) (by omega) (by decide) dX2_offsetOf_149 ?_
                      refine r_eqw (zWd_off (j := (a0).toNat) (z := ((a1 * 3600) + (a2 * 60)) + a3)) ?_
                      refine r_iload hX dX2_offsetOf_150 rfl ?_
                      refine r_iret hX hE dX2_offsetOf_152 (Nat.le_of_ble_eq_true rfl) (Nat.le_of_ble_eq_true rfl) ⟨by omega, ?_⟩
                      unfold oOff
                      rw [if_pos (by omega)]
                      exact ⟨rfl, rfl⟩
                    · have c45 := of_decide_eq_false c45
                      refine r_aload_n hX dX2_offsetOf_137 rfl rfl ?_
                      refine r_callV hX (z_X2_refused ad cs S T rest) kv_X2_56 0 rfl rfl rfl rfl (Nat.le_of_ble_eq_true rfl) ⟨(Nat.le_of_ble_eq_true rfl), (Nat.le_of_ble_eq_true rfl)⟩ ⟨(Nat.le_of_ble_eq_true rfl), (Nat.le_of_ble_eq_true rfl)⟩ dX2_offsetOf_138 (fun _ _ z => False.elim z) (fun v9 ws9 h46 => ?_)
                      obtain ⟨rfl, hw9⟩ := h46
                      subst ws9
                      dsimp only [mPush]
                      refine r_iret hX hE dX2_offsetOf_141 (Nat.le_of_ble_eq_true rfl) (Nat.le_of_ble_eq_true rfl) ⟨by omega, ?_⟩
                      unfold oOff
                      rw [if_neg (by omega)]
                      exact ⟨rfl, rfl⟩
            · refine r_iconstZ hX dX2_offsetOf_70 ?_
              refine r_goto (tgt := 75) hX dX2_offsetOf_71 (by decide) ?_
              refine r_istore hX dX2_offsetOf_75 (by decide) rfl ?_
              refine r_iload_n hX dX2_offsetOf_77 rfl rfl ?_
              refine r_if_ltZ (tgt := 90) hX dX2_offsetOf_78 (by decide) (by omega) (fun c47 => ?_) (fun c47 => ?_)
              · refine r_iconstZ hX dX2_offsetOf_90 ?_
                refine r_goto (tgt := 95) hX dX2_offsetOf_91 (by decide) ?_
                refine r_istore hX dX2_offsetOf_95 (by decide) rfl ?_
                refine r_iload_n hX dX2_offsetOf_97 rfl rfl ?_
                refine r_sipushZ hX dX2_offsetOf_98 (by decide) ?_
                refine r_imulZ hX dX2_offsetOf_101 ?_
                refine r_iload_n hX dX2_offsetOf_102 rfl rfl ?_
                refine r_bipushZ hX dX2_offsetOf_103 (by decide) ?_
                refine r_imulZ hX dX2_offsetOf_105 ?_
                refine r_iaddZ hX dX2_offsetOf_106 ?_
                refine r_iload hX dX2_offsetOf_107 rfl ?_
                refine r_iaddZ hX dX2_offsetOf_109 ?_
                refine r_istore hX dX2_offsetOf_110 (by decide) rfl ?_
                refine r_iload hX dX2_offsetOf_112 rfl ?_
                refine r_if_eqZ (tgt := 122) hX dX2_offsetOf_114 (by decide) (by decide) (fun q => absurd q (by decide)) (fun _ => ?_)
                refine r_iload hX dX2_offsetOf_117 rfl ?_
                refine r_if_neZ (tgt := 137) hX dX2_offsetOf_119 (by decide) (by decide) (fun _ => ?_) (fun q => absurd (by decide) q)
                refine r_aload_n hX dX2_offsetOf_137 rfl rfl ?_
                refine r_callV hX (z_X2_refused ad cs S T rest) kv_X2_56 0 rfl rfl rfl rfl (Nat.le_of_ble_eq_true rfl) ⟨(Nat.le_of_ble_eq_true rfl), (Nat.le_of_ble_eq_true rfl)⟩ ⟨(Nat.le_of_ble_eq_true rfl), (Nat.le_of_ble_eq_true rfl)⟩ dX2_offsetOf_138 (fun _ _ z => False.elim z) (fun v9 ws9 h48 => ?_)
                obtain ⟨rfl, hw9⟩ := h48
                subst ws9
                dsimp only [mPush]
                refine r_iret hX hE dX2_offsetOf_141 (Nat.le_of_ble_eq_true rfl) (Nat.le_of_ble_eq_true rfl) ⟨by omega, ?_⟩
                unfold oOff
                rw [if_neg (by omega)]
                exact ⟨rfl, rfl⟩
              · refine r_iload_n hX dX2_offsetOf_81 rfl rfl ?_
                refine r_if_ltZ (tgt := 90) hX dX2_offsetOf_82 (by decide) (by omega) (fun c49 => ?_) (fun c49 => ?_)
                · refine r_iconstZ hX dX2_offsetOf_90 ?_
                  refine r_goto (tgt := 95) hX dX2_offsetOf_91 (by decide) ?_
                  refine r_istore hX dX2_offsetOf_95 (by decide) rfl ?_
                  refine r_iload_n hX dX2_offsetOf_97 rfl rfl ?_
                  refine r_sipushZ hX dX2_offsetOf_98 (by decide) ?_
                  refine r_imulZ hX dX2_offsetOf_101 ?_
                  refine r_iload_n hX dX2_offsetOf_102 rfl rfl ?_
                  refine r_bipushZ hX dX2_offsetOf_103 (by decide) ?_
                  refine r_imulZ hX dX2_offsetOf_105 ?_
                  refine r_iaddZ hX dX2_offsetOf_106 ?_
                  refine r_iload hX dX2_offsetOf_107 rfl ?_
                  refine r_iaddZ hX dX2_offsetOf_109 ?_
                  refine r_istore hX dX2_offsetOf_110 (by decide) rfl ?_
                  refine r_iload hX dX2_offsetOf_112 rfl ?_
                  refine r_if_eqZ (tgt := 122) hX dX2_offsetOf_114 (by decide) (by decide) (fun q => absurd q (by decide)) (fun _ => ?_)
                  refine r_iload hX dX2_offsetOf_117 rfl ?_
                  refine r_if_neZ (tgt := 137) hX dX2_offsetOf_119 (by decide) (by decide) (fun _ => ?_) (fun q => absurd (by decide) q)
                  refine r_aload_n hX dX2_offsetOf_137 rfl rfl ?_
                  refine r_callV hX (z_X2_refused ad cs S T rest) kv_X2_56 0 rfl rfl rfl rfl (Nat.le_of_ble_eq_true rfl) ⟨(Nat.le_of_ble_eq_true rfl), (Nat.le_of_ble_eq_true rfl)⟩ ⟨(Nat.le_of_ble_eq_true rfl), (Nat.le_of_ble_eq_true rfl)⟩ dX2_offsetOf_138 (fun _ _ z => False.elim z) (fun v9 ws9 h50 => ?_)
                  obtain ⟨rfl, hw9⟩ := h50
                  subst ws9
                  dsimp only [mPush]
                  refine r_iret hX hE dX2_offsetOf_141 (Nat.le_of_ble_eq_true rfl) (Nat.le_of_ble_eq_true rfl) ⟨by omega, ?_⟩
                  unfold oOff
                  rw [if_neg (by omega)]
                  exact ⟨rfl, rfl⟩
                · refine r_iload hX dX2_offsetOf_85 rfl ?_
                  refine r_if_geZ (tgt := 94) hX dX2_offsetOf_87 (by decide) (by omega) (fun c51 => ?_) (fun c51 => ?_)
                  · refine r_iconstZ hX dX2_offsetOf_94 ?_
                    refine r_istore hX dX2_offsetOf_95 (by decide) rfl ?_
                    refine r_iload_n hX dX2_offsetOf_97 rfl rfl ?_
                    refine r_sipushZ hX dX2_offsetOf_98 (by decide) ?_
                    refine r_imulZ hX dX2_offsetOf_101 ?_
                    refine r_iload_n hX dX2_offsetOf_102 rfl rfl ?_
                    refine r_bipushZ hX dX2_offsetOf_103 (by decide) ?_
                    refine r_imulZ hX dX2_offsetOf_105 ?_
                    refine r_iaddZ hX dX2_offsetOf_106 ?_
                    refine r_iload hX dX2_offsetOf_107 rfl ?_
                    refine r_iaddZ hX dX2_offsetOf_109 ?_
                    refine r_istore hX dX2_offsetOf_110 (by decide) rfl ?_
                    refine r_iload hX dX2_offsetOf_112 rfl ?_
                    refine r_if_eqZ (tgt := 122) hX dX2_offsetOf_114 (by decide) (by decide) (fun q => absurd q (by decide)) (fun _ => ?_)
                    refine r_iload hX dX2_offsetOf_117 rfl ?_
                    refine r_if_neZ (tgt := 137) hX dX2_offsetOf_119 (by decide) (by decide) (fun q => absurd q (by decide)) (fun _ => ?_)
                    refine r_iload hX dX2_offsetOf_122 rfl ?_
                    refine r_i2lZ hX dX2_offsetOf_124 (by omega) ?_
                    refine r_ldc2Z (z := -64800) hX kc_X2_60 (by decide) dX2_offsetOf_125 ?_
                    refine r_ldc2Z (z := 64800) hX kc_X2_62 (by decide) dX2_offsetOf_128 ?_
                    refine r_callS hX (z_X2_isWithin _ _ _ _ _ (by omega) (by omega) (by omega)) ks_X2_48 rfl rfl (Nat.le_of_ble_eq_true rfl) ⟨(Nat.le_of_ble_eq_true rfl), (Nat.le_of_ble_eq_true rfl)⟩ ⟨(Nat.le_of_ble_eq_true rfl), (Nat.le_of_ble_eq_true rfl)⟩ dX2_offsetOf_131 (fun _ _ z => False.elim z) (fun v9 ws9 h52 => ?_)
                    obtain ⟨rfl, hw9⟩ := h52
                    subst ws9
                    dsimp only [mPush]
                    refine r_if_neB (tgt := 142) hX dX2_offsetOf_134 (by decide) (fun c53 => ?_) (fun c53 => ?_)
                    · have c53 := of_decide_eq_true c53
                      refine r_aload_n hX dX2_offsetOf_142 rfl rfl ?_
                      refine r_get hX kf_X2_9 0 rfl rfl dX2_offsetOf_143 ?_
                      refine r_iload_n hX dX2_offsetOf_146 rfl rfl ?_
                      refine r_iload hX dX2_offsetOf_147 rfl ?_
                      refine r_iastZ hX 1 0 rfl rfl (a0).toNat (by omega) (by omega) (by decide) dX2_offsetOf_149 ?_
                      refine r_eqw (zWd_off (j := (a0).toNat) (z := ((a1 * 3600) + (a2 * 60)) + a3)) ?_
                      refine r_iload hX dX2_offsetOf_150 rfl ?_
                      refine r_iret hX hE dX2_offsetOf_152 (Nat.le_of_ble_eq_true rfl) (Nat.le_of_ble_eq_true rfl) ⟨by omega, ?_⟩
                      unfold oOff
                      rw [if_pos (by omega)]
                      exact ⟨rfl, rfl⟩
                    · have c53 := of_decide_eq_false c53
                      refine r_aload_n hX dX2_offsetOf_137 rfl rfl ?_
                      refine r_callV hX (z_X2_refused ad cs S T rest) kv_X2_56 0 rfl rfl rfl rfl (Nat.le_of_ble_eq_true rfl) ⟨(Nat.le_of_ble_eq_true rfl), (Nat.le_of_ble_eq_true rfl)⟩ ⟨(Nat.le_of_ble_eq_true rfl), (Nat.le_of_ble_eq_true rfl)⟩ dX2_offsetOf_138 (fun _ _ z => False.elim z) (fun v9 ws9 h54 => ?_)
                      obtain ⟨rfl, hw9⟩ := h54
                      subst ws9
                      dsimp only [mPush]
                      refine r_iret hX hE dX2_offsetOf_141 (Nat.le_of_ble_eq_true rfl) (Nat.le_of_ble_eq_true rfl) ⟨by omega, ?_⟩
                      unfold oOff
                      rw [if_neg (by omega)]
                      exact ⟨rfl, rfl⟩
                  · refine r_iconstZ hX dX2_offsetOf_90 ?_
                    refine r_goto (tgt := 95) hX dX2_offsetOf_91 (by decide) ?_
                    refine r_istore hX dX2_offsetOf_95 (by decide) rfl ?_
                    refine r_iload_n hX dX2_offsetOf_97 rfl rfl ?_
                    refine r_sipushZ hX dX2_offsetOf_98 (by decide) ?_
                    refine r_imulZ hX dX2_offsetOf_101 ?_
                    refine r_iload_n hX dX2_offsetOf_102 rfl rfl ?_
                    refine r_bipushZ hX dX2_offsetOf_103 (by decide) ?_
                    refine r_imulZ hX dX2_offsetOf_105 ?_
                    refine r_iaddZ hX dX2_offsetOf_106 ?_
                    refine r_iload hX dX2_offsetOf_107 rfl ?_
                    refine r_iaddZ hX dX2_offsetOf_109 ?_
                    refine r_istore hX dX2_offsetOf_110 (by decide) rfl ?_
                    refine r_iload hX dX2_offsetOf_112 rfl ?_
                    refine r_if_eqZ (tgt := 122) hX dX2_offsetOf_114 (by decide) (by decide) (fun q => absurd q (by decide)) (fun _ => ?_)
                    refine r_iload hX dX2_offsetOf_117 rfl ?_
                    refine r_if_neZ (tgt := 137) hX dX2_offsetOf_119 (by decide) (by decide) (fun _ => ?_) (fun q => absurd (by decide) q)
                    refine r_aload_n hX dX2_offsetOf_137 rfl rfl ?_
                    refine r_callV hX (z_X2_refused ad cs S T rest) kv_X2_56 0 rfl rfl rfl rfl (Nat.le_of_ble_eq_true rfl) ⟨(Nat.le_of_ble_eq_true rfl), (Nat.le_of_ble_eq_true rfl)⟩ ⟨(Nat.le_of_ble_eq_true rfl), (Nat.le_of_ble_eq_true rfl)⟩ dX2_offsetOf_138 (fun _ _ z => False.elim z) (fun v9 ws9 h55 => ?_)
                    obtain ⟨rfl, hw9⟩ := h55
                    subst ws9
                    dsimp only [mPush]
                    refine r_iret hX hE dX2_offsetOf_141 (Nat.le_of_ble_eq_true rfl) (Nat.le_of_ble_eq_true rfl) ⟨by omega, ?_⟩
                    unfold oOff
                    rw [if_neg (by omega)]
                    exact ⟨rfl, rfl⟩
      · have c10 := of_decide_eq_false c10
        refine r_aload_n hX dX2_offsetOf_52 rfl rfl ?_
        refine r_callV hX (z_X2_refused ad cs S T rest) kv_X2_56 0 rfl rfl rfl rfl (Nat.le_of_ble_eq_true rfl) ⟨(Nat.le_of_ble_eq_true rfl), (Nat.le_of_ble_eq_true rfl)⟩ ⟨(Nat.le_of_ble_eq_true rfl), (Nat.le_of_ble_eq_true rfl)⟩ dX2_offsetOf_53 (fun _ _ z => False.elim z) (fun v9 ws9 h56 => ?_)
        obtain ⟨rfl, hw9⟩ := h56
        subst ws9
        dsimp only [mPush]
        refine r_iret hX hE dX2_offsetOf_56 (Nat.le_of_ble_eq_true rfl) (Nat.le_of_ble_eq_true rfl) ⟨by omega, ?_⟩
        unfold oOff
        rw [if_neg (by omega)]
        exact ⟨rfl, rfl⟩
set_option maxHeartbeats 4000000 in
set_option maxRecDepth 20000 in
theorem z_X2_orderOffset (ad : Nat → Nat) (cs : ClassId × ClassId × ClassId) (S : mS) (T : mT2) (rest : va_W) (hS : sWF S) (a0 : Int) (h0 : rJ a0) (a1 : Int) (h1 : rJ a1)  : mCt (mTy cs) yX2_orderOffset cX2_orderOffset 3 (some .int) ⟨8, 2, 12, 124⟩ [.ref (ad 0), .int (iZ a0), .int (iZ a1)] (mWd ad cs (mKof S T) rest) (fun v ws' => (((0 ≤ a0 ∧ a0 < 4) ∧ (0 ≤ a1 ∧ a1 < 4)) ∧ (0 ≤ (0 : Int))) ∧ v = some (.int (iZ (cmpZ (sof S a1.toNat) (sof S a0.toNat)))) ∧ ws' = mWd ad cs (mKof S T) rest) (fun E ws' => ws' = mWd ad cs (mKof S T) rest ∧ ((E = xI ∧ ¬ ((0 ≤ a0 ∧ a0 < 4) ∧ (0 ≤ a1 ∧ a1 < 4))) ∨ (E = xA ∧ ((0 ≤ a0 ∧ a0 < 4) ∧ (0 ≤ a1 ∧ a1 < 4)) ∧ ¬ (0 ≤ (0 : Int))))) := by
  refine mCt.of (by decide +kernel) (Nat.le_of_ble_eq_true rfl) (fun X hX hE => ?_)
  replace hX : mOK X RX2 cX2_orderOffset 3 ⟨8, 2, 12, 124⟩ [] (mTy cs) := hX
  refine r_aload_n hX dX2_orderOffset_0 rfl rfl ?_
  refine r_iload_n hX dX2_orderOffset_1 rfl rfl ?_
  refine r_callV hX (z_X2_seconds ad cs S T rest hS _ (by omega)) kv_X2_64 0 rfl rfl rfl rfl (Nat.le_of_ble_eq_true rfl) ⟨(Nat.le_of_ble_eq_true rfl), (Nat.le_of_ble_eq_true rfl)⟩ ⟨(Nat.le_of_ble_eq_true rfl), (Nat.le_of_ble_eq_true rfl)⟩ dX2_orderOffset_2 (fun E ws9 z => r_out hX hE (Nat.le_of_ble_eq_true rfl) (Nat.le_of_ble_eq_true rfl) ⟨z.2.1, Or.inl ⟨z.1, fun q => z.2.2 (by omega)⟩⟩) (fun v9 ws9 h1 => ?_)
  obtain ⟨hi2, rfl, hw9⟩ := h1
  subst ws9
  dsimp only [mPush]
  have hof2 := hS.1 a1.toNat (by omega)
  refine r_i2lZ hX dX2_orderOffset_5 (by omega) ?_
  refine r_aload_n hX dX2_orderOffset_6 rfl rfl ?_
  refine r_iload_n hX dX2_orderOffset_7 rfl rfl ?_
  refine r_callV hX (z_X2_seconds ad cs S T rest hS _ (by omega)) kv_X2_64 0 rfl rfl rfl rfl (Nat.le_of_ble_eq_true rfl) ⟨(Nat.le_of_ble_eq_true rfl), (Nat.le_of_ble_eq_true rfl)⟩ ⟨(Nat.le_of_ble_eq_true rfl), (Nat.le_of_ble_eq_true rfl)⟩ dX2_orderOffset_8 (fun E ws9 z => r_out hX hE (Nat.le_of_ble_eq_true rfl) (Nat.le_of_ble_eq_true rfl) ⟨z.2.1, Or.inl ⟨z.1, fun q => z.2.2 (by omega)⟩⟩) (fun v9 ws9 h3 => ?_)
  obtain ⟨hi4, rfl, hw9⟩ := h3
  subst ws9
  dsimp only [mPush]
  have hof4 := hS.1 a0.toNat (by omega)
  refine r_i2lZ hX dX2_orderOffset_11 (by omega) ?_
  refine r_callS hX (z_X2_compared _ _ _ _ (by omega) (by omega)) ks_X2_68 rfl rfl (Nat.le_of_ble_eq_true rfl) ⟨(Nat.le_of_ble_eq_true rfl), (Nat.le_of_ble_eq_true rfl)⟩ ⟨(Nat.le_of_ble_eq_true rfl), (Nat.le_of_ble_eq_true rfl)⟩ dX2_orderOffset_12 (fun _ _ z => False.elim z) (fun v9 ws9 h5 => ?_)
  obtain ⟨rfl, hw9⟩ := h5
  subst ws9
  dsimp only [mPush]
  have hcm5 := cmpZ_b (sof S a1.toNat) (sof S a0.toNat)
  refine r_iret hX hE dX2_orderOffset_15 (Nat.le_of_ble_eq_true rfl) (Nat.le_of_ble_eq_true rfl) ⟨by omega, zi ?_, rfl⟩
  rfl
set_option maxHeartbeats 4000000 in
set_option maxRecDepth 20000 in
theorem z_X2_moment (ad : Nat → Nat) (cs : ClassId × ClassId × ClassId) (S : mS) (T : mT2) (rest : va_W) (hS : sWF S) (a0 : Int) (h0 : rJ a0) (a1 : Int) (h1 : rJ a1) (a2 : Int) (h2 : rJ a2)  : mCt (mTy cs) yX2_moment cX2_moment 4 (some .int) ⟨7, 1, 6, 103⟩ [.ref (ad 0), .int (iZ a0), .int (iZ a1), .int (iZ a2)] (mWd ad cs (mKof S T) rest) (fun v ws' => (((0 ≤ a0 ∧ a0 < 4)) ∧ (0 ≤ (0 : Int))) ∧ v = some (.int (iZ (oNum S a0.toNat (a1 * 1000000000 + a2)).1)) ∧ ws' = mWd ad cs (mKof (oNum S a0.toNat (a1 * 1000000000 + a2)).2 T) rest) (fun E ws' => ws' = mWd ad cs (mKof S T) rest ∧ ((E = xI ∧ ¬ ((0 ≤ a0 ∧ a0 < 4))) ∨ (E = xA ∧ ((0 ≤ a0 ∧ a0 < 4)) ∧ ¬ (0 ≤ (0 : Int))))) := by
  refine mCt.of (by decide +kernel) (Nat.le_of_ble_eq_true rfl) (fun X hX hE => ?_)
  replace hX : mOK X RX2 cX2_moment 4 ⟨7, 1, 6, 103⟩ [] (mTy cs) := hX
  refine r_iload_n hX dX2_moment_0 rfl rfl ?_
  refine r_aload_n hX dX2_moment_1 rfl rfl ?_
  refine r_get hX kf_X2_13 0 rfl rfl dX2_moment_2 ?_
  refine r_alen (v := iZ 4) hX 2 1 rfl rfl rfl dX2_moment_5 ?_
  refine r_callS hX (z_X2_requireOne _ _ _ 4 (by omega) (by decide)) ks_X2_34 rfl rfl (Nat.le_of_ble_eq_true rfl) ⟨(Nat.le_of_ble_eq_true rfl), (Nat.le_of_ble_eq_true rfl)⟩ ⟨(Nat.le_of_ble_eq_true rfl), (Nat.le_of_ble_eq_true rfl)⟩ dX2_moment_6 (fun E ws9 z => r_out hX hE (Nat.le_of_ble_eq_true rfl) (Nat.le_of_ble_eq_true rfl) ⟨z.2.1, Or.inl ⟨z.1, fun q => z.2.2 (by omega)⟩⟩) (fun v9 ws9 h1 => ?_)
  obtain ⟨hi2, rfl, hw9⟩ := h1
  subst ws9
  dsimp only [mPush]
  refine r_aload_n hX dX2_moment_9 rfl rfl ?_
  refine r_iload_n hX dX2_moment_10 rfl rfl ?_
  refine r_iload_n hX dX2_moment_11 rfl rfl ?_
  refine r_i2lZ hX dX2_moment_12 (by omega) ?_
  refine r_ldc2Z (z := 1000000000) hX kc_X2_72 (by decide) dX2_moment_13 ?_
  refine r_lmulZ hX dX2_moment_16 ?_
  refine r_iload_n hX dX2_moment_17 rfl rfl ?_
  refine r_i2lZ hX dX2_moment_18 (by omega) ?_
  refine r_laddZ hX dX2_moment_19 ?_
  refine r_callV hX (z_X2_putNumber ad cs S T rest hS _ (a0).toNat (by omega) (by omega) _ (by omega)) kv_X2_74 0 rfl rfl rfl rfl (Nat.le_of_ble_eq_true rfl) ⟨(Nat.le_of_ble_eq_true rfl), (Nat.le_of_ble_eq_true rfl)⟩ ⟨(Nat.le_of_ble_eq_true rfl), (Nat.le_of_ble_eq_true rfl)⟩ dX2_moment_20 (fun _ _ z => False.elim z) (fun v9 ws9 h3 => ?_)
  obtain ⟨rfl, hw9⟩ := h3
  subst ws9
  dsimp only [mPush]
  refine r_iret hX hE dX2_moment_23 (Nat.le_of_ble_eq_true rfl) (Nat.le_of_ble_eq_true rfl) ⟨by omega, ?_⟩
  exact ⟨rfl, rfl⟩
set_option maxHeartbeats 4000000 in
set_option maxRecDepth 20000 in
theorem z_X2_milli (ad : Nat → Nat) (cs : ClassId × ClassId × ClassId) (S : mS) (T : mT2) (rest : va_W) (hS : sWF S) (a0 : Int) (h0 : rJ a0) (a1 : Int) (h1 : rJ a1) (a2 : Int) (h2 : rJ a2)  : mCt (mTy cs) yX2_milli cX2_milli 4 (some .int) ⟨7, 1, 6, 103⟩ [.ref (ad 0), .int (iZ a0), .int (iZ a1), .int (iZ a2)] (mWd ad cs (mKof S T) rest) (fun v ws' => (((0 ≤ a0 ∧ a0 < 4)) ∧ (0 ≤ (0 : Int))) ∧ v = some (.int (iZ (oNum S a0.toNat (a1 * 1000000000 + a2 * 1000000)).1)) ∧ ws' = mWd ad cs (mKof (oNum S a0.toNat (a1 * 1000000000 + a2 * 1000000)).2 T) rest) (fun E ws' => ws' = mWd ad cs (mKof S T) rest ∧ ((E = xI ∧ ¬ ((0 ≤ a0 ∧ a0 < 4))) ∨ (E = xA ∧ ((0 ≤ a0 ∧ a0 < 4)) ∧ ¬ (0 ≤ (0 : Int))))) := by
  refine mCt.of (by decide +kernel) (Nat.le_of_ble_eq_true rfl) (fun X hX hE => ?_)
  replace hX : mOK X RX2 cX2_milli 4 ⟨7, 1, 6, 103⟩ [] (mTy cs) := hX
  refine r_iload_n hX dX2_milli_0 rfl rfl ?_
  refine r_aload_n hX dX2_milli_1 rfl rfl ?_
  refine r_get hX kf_X2_13 0 rfl rfl dX2_milli_2 ?_
  refine r_alen (v := iZ 4) hX 2 1 rfl rfl rfl dX2_milli_5 ?_
  refine r_callS hX (z_X2_requireOne _ _ _ 4 (by omega) (by decide)) ks_X2_34 rfl rfl (Nat.le_of_ble_eq_true rfl) ⟨(Nat.le_of_ble_eq_true rfl), (Nat.le_of_ble_eq_true rfl)⟩ ⟨(Nat.le_of_ble_eq_true rfl), (Nat.le_of_ble_eq_true rfl)⟩ dX2_milli_6 (fun E ws9 z => r_out hX hE (Nat.le_of_ble_eq_true rfl) (Nat.le_of_ble_eq_true rfl) ⟨z.2.1, Or.inl ⟨z.1, fun q => z.2.2 (by omega)⟩⟩) (fun v9 ws9 h1 => ?_)
  obtain ⟨hi2, rfl, hw9⟩ := h1
  subst ws9
  dsimp only [mPush]
  refine r_aload_n hX dX2_milli_9 rfl rfl ?_
  refine r_iload_n hX dX2_milli_10 rfl rfl ?_
  refine r_iload_n hX dX2_milli_11 rfl rfl ?_
  refine r_i2lZ hX dX2_milli_12 (by omega) ?_
  refine r_ldc2Z (z := 1000000000) hX kc_X2_72 (by decide) dX2_milli_13 ?_
  refine r_lmulZ hX dX2_milli_16 ?_
  refine r_iload_n hX dX2_milli_17 rfl rfl ?_
  refine r_i2lZ hX dX2_milli_18 (by omega) ?_
  refine r_ldc2Z (z := 1000000) hX kc_X2_78 (by decide) dX2_milli_19 ?_
  refine r_lmulZ hX dX2_milli_22 ?_
  refine r_laddZ hX dX2_milli_23 ?_
  refine r_callV hX (z_X2_putNumber ad cs S T rest hS _ (a0).toNat (by omega) (by omega) _ (by omega)) kv_X2_74 0 rfl rfl rfl rfl (Nat.le_of_ble_eq_true rfl) ⟨(Nat.le_of_ble_eq_true rfl), (Nat.le_of_ble_eq_true rfl)⟩ ⟨(Nat.le_of_ble_eq_true rfl), (Nat.le_of_ble_eq_true rfl)⟩ dX2_milli_24 (fun _ _ z => False.elim z) (fun v9 ws9 h3 => ?_)
  obtain ⟨rfl, hw9⟩ := h3
  subst ws9
  dsimp only [mPush]
  refine r_iret hX hE dX2_milli_27 (Nat.le_of_ble_eq_true rfl) (Nat.le_of_ble_eq_true rfl) ⟨by omega, ?_⟩
  exact ⟨rfl, rfl⟩
def zUn (u : Int) : Int := if u = 0 then 1000000000 else if u = 1 then 1000000 else 1
def zIs (c w : Int) : Bool := if w = 0 then decide (c < 0) else if w = 1 then decide (0 < c) else decide (c = 0)
def oDate (S : mS) (d : Nat) (y dy s n o : Int) : Int × mS := if (1910 ≤ y ∧ y ≤ 2030) ∧ (1 ≤ dy / 100 ∧ dy / 100 ≤ 12) ∧ 1 ≤ dy % 100 ∧ dy % 100 ≤ (dm y.toNat (dy / 100).toNat : Nat) then oLoc S d ((FO y.toNat + DB y.toNat (dy / 100).toNat + dy % 100 - 1) * 86400 + s) n o else (-9, sRf S)
def zMs (S : mS) (d : Nat) : Int := (YR (sse S d / 86400) : Nat) * 12 + (MO (sse S d / 86400) : Nat) - 1
def oMv (S : mS) (d : Nat) (u b : Int) : Int × mS := if u = 0 then oMon S d (zMs S d + b * 12) else if u = 1 then oMon S d (zMs S d + b) else oLoc S d (sse S d + zSn (sna S d) u b) (zNn (sna S d) u b) (sow S d)
def oSet (S : mS) (d : Nat) (f num : Int) : Int × mS := if f ≤ 3 then oDay S d f num else oTime S d f num
set_option maxHeartbeats 4000000 in
set_option maxRecDepth 20000 in
theorem z_X2_move (ad : Nat → Nat) (cs : ClassId × ClassId × ClassId) (S : mS) (T : mT2) (rest : va_W) (hS : sWF S) (a0 : Int) (h0 : rJ a0) (a1 : Int) (h1 : rJ a1) (a2 : Int) (h2 : rJ a2) (b3 : Bool)  : mCt (mTy cs) yX2_move cX2_move 7 (some .int) ⟨7, 2, 12, 104⟩ [.ref (ad 0), .int (iZ a0), .int (iZ a1), .int (iZ a2), .int (b2i b3)] (mWd ad cs (mKof S T) rest) (fun v ws' => (((0 ≤ a0 ∧ a0 < 4)) ∧ (0 ≤ a1 ∧ a1 ≤ 2)) ∧ v = some (.int (iZ (oNum S a0.toNat (snu S a0.toNat + zSg a2 b3 * zUn a1)).1)) ∧ ws' = mWd ad cs (mKof (oNum S a0.toNat (snu S a0.toNat + zSg a2 b3 * zUn a1)).2 T) rest) (fun E ws' => ws' = mWd ad cs (mKof S T) rest ∧ ((E = xI ∧ ¬ ((0 ≤ a0 ∧ a0 < 4))) ∨ (E = xA ∧ ((0 ≤ a0 ∧ a0 < 4)) ∧ ¬ (0 ≤ a1 ∧ a1 ≤ 2)))) := by
  refine mCt.of (by decide +kernel) (Nat.le_of_ble_eq_true rfl) (fun X hX hE => ?_)
  replace hX : mOK X RX2 cX2_move 7 ⟨7, 2, 12, 104⟩ [] (mTy cs) := hX
  refine r_iload_n hX dX2_move_0 rfl rfl ?_
  refine r_aload_n hX dX2_move_1 rfl rfl ?_
  refine r_get hX kf_X2_13 0 rfl rfl dX2_move_2 ?_
  refine r_alen (v := iZ 4) hX 2 1 rfl rfl rfl dX2_move_5 ?_
  refine r_callS hX (z_X2_requireOne _ _ _ 4 (by omega) (by decide)) ks_X2_34 rfl rfl (Nat.le_of_ble_eq_true rfl) ⟨(Nat.le_of_ble_eq_true rfl), (Nat.le_of_ble_eq_true rfl)⟩ ⟨(Nat.le_of_ble_eq_true rfl), (Nat.le_of_ble_eq_true rfl)⟩ dX2_move_6 (fun E ws9 z => r_out hX hE (Nat.le_of_ble_eq_true rfl) (Nat.le_of_ble_eq_true rfl) ⟨z.2.1, Or.inl ⟨z.1, fun q => z.2.2 (by omega)⟩⟩) (fun v9 ws9 h1 => ?_)
  obtain ⟨hi2, rfl, hw9⟩ := h1
  subst ws9
  dsimp only [mPush]
  refine r_iload_n hX dX2_move_9 rfl rfl ?_
  refine r_iconstZ hX dX2_move_10 ?_
  refine r_iconstZ hX dX2_move_11 ?_
  refine r_callS hX (z_X2_requireWithin _ _ _ _ _ (by omega) (by omega) (by omega)) ks_X2_40 rfl rfl (Nat.le_of_ble_eq_true rfl) ⟨(Nat.le_of_ble_eq_true rfl), (Nat.le_of_ble_eq_true rfl)⟩ ⟨(Nat.le_of_ble_eq_true rfl), (Nat.le_of_ble_eq_true rfl)⟩ dX2_move_12 (fun E ws9 z => r_out hX hE (Nat.le_of_ble_eq_true rfl) (Nat.le_of_ble_eq_true rfl) ⟨z.2.1, Or.inr ⟨z.1, by omega, fun q => z.2.2 (by omega)⟩⟩) (fun v9 ws9 h3 => ?_)
  obtain ⟨hi4, rfl, hw9⟩ := h3
  subst ws9
  dsimp only [mPush]
  refine r_iload_n hX dX2_move_15 rfl rfl ?_
  refine r_if_neZ (tgt := 25) hX dX2_move_16 (by decide) (by omega) (fun c5 => ?_) (fun c5 => ?_)
  · refine r_iload_n hX dX2_move_25 rfl rfl ?_
    refine r_iconstZ hX dX2_move_26 ?_
    refine r_icmp_neZ (tgt := 36) hX dX2_move_27 (by decide) (by omega) (by decide) (fun c6 => ?_) (fun c6 => ?_)
    · refine r_lconstZ (v := 1) hX dX2_move_36 rfl ?_
      refine r_lstore hX dX2_move_37 (by decide) rfl ?_
      refine r_aload_n hX dX2_move_39 rfl rfl ?_
      refine r_iload_n hX dX2_move_40 rfl rfl ?_
      refine r_aload_n hX dX2_move_41 rfl rfl ?_
      refine r_get hX kf_X2_13 0 rfl rfl dX2_move_42 ?_
      refine r_iload_n hX dX2_move_45 rfl rfl ?_
      have hnu := hS.2.1 a0.toNat (by omega)
      refine r_laldZ hX 2 1 rfl rfl (a0).toNat (by omega) (by omega) (by decide) dX2_move_46 ?_
      refine r_iload_n hX dX2_move_47 rfl rfl ?_
      refine r_iload hX dX2_move_48 rfl ?_
      refine r_callS hX (z_X2_signed _ _ _ _ (by omega)) ks_X2_80 rfl rfl (Nat.le_of_ble_eq_true rfl) ⟨(Nat.le_of_ble_eq_true rfl), (Nat.le_of_ble_eq_true rfl)⟩ ⟨(Nat.le_of_ble_eq_true rfl), (Nat.le_of_ble_eq_true rfl)⟩ dX2_move_50 (fun _ _ z => False.elim z) (fun v9 ws9 h7 => ?_)
      obtain ⟨rfl, hw9⟩ := h7
      subst ws9
      dsimp only [mPush]
      have hsg7 := zSg_b (a := a2) (b := b3) (by omega)
      refine r_lload hX dX2_move_53 rfl ?_
      refine r_lmulZ hX dX2_move_55 ?_
      refine r_laddZ hX dX2_move_56 ?_
      refine r_callV hX (z_X2_putNumber ad cs S T rest hS _ (a0).toNat (by omega) (by omega) _ (by omega)) kv_X2_74 0 rfl rfl rfl rfl (Nat.le_of_ble_eq_true rfl) ⟨(Nat.le_of_ble_eq_true rfl), (Nat.le_of_ble_eq_true rfl)⟩ ⟨(Nat.le_of_ble_eq_true rfl), (Nat.le_of_ble_eq_true rfl)⟩ dX2_move_57 (fun _ _ z => False.elim z) (fun v9 ws9 h8 => ?_)
      obtain ⟨rfl, hw9⟩ := h8
      subst ws9
      dsimp only [mPush]
      refine r_iret hX hE dX2_move_60 (Nat.le_of_ble_eq_true rfl) (Nat.le_of_ble_eq_true rfl) ⟨by omega, ?_⟩
      rw [show zUn a1 = 1 by unfold zUn; rw [if_neg (by omega), if_neg (by omega)]]
      exact ⟨rfl, rfl⟩
    · refine r_ldc2Z (z := 1000000) hX kc_X2_78 (by decide) dX2_move_30 ?_
      refine r_goto (tgt := 37) hX dX2_move_33 (by decide) ?_
      refine r_lstore hX dX2_move_37 (by decide) rfl ?_
      refine r_aload_n hX dX2_move_39 rfl rfl ?_
      refine r_iload_n hX dX2_move_40 rfl rfl ?_
      refine r_aload_n hX dX2_move_41 rfl rfl ?_
      refine r_get hX kf_X2_13 0 rfl rfl dX2_move_42 ?_
      refine r_iload_n hX dX2_move_45 rfl rfl ?_
      have hnu := hS.2.1 a0.toNat (by omega)
      refine r_laldZ hX 2 1 rfl rfl (a0).toNat (by omega) (by omega) (by decide) dX2_move_46 ?_
      refine r_iload_n hX dX2_move_47 rfl rfl ?_
      refine r_iload hX dX2_move_48 rfl ?_
      refine r_callS hX (z_X2_signed _ _ _ _ (by omega)) ks_X2_80 rfl rfl (Nat.le_of_ble_eq_true rfl) ⟨(Nat.le_of_ble_eq_true rfl), (Nat.le_of_ble_eq_true rfl)⟩ ⟨(Nat.le_of_ble_eq_true rfl), (Nat.le_of_ble_eq_true rfl)⟩ dX2_move_50 (fun _ _ z => False.elim z) (fun v9 ws9 h9 => ?_)
      obtain ⟨rfl, hw9⟩ := h9
      subst ws9
      dsimp only [mPush]
      have hsg9 := zSg_b (a := a2) (b := b3) (by omega)
      refine r_lload hX dX2_move_53 rfl ?_
      refine r_lmulZ hX dX2_move_55 ?_
      refine r_laddZ hX dX2_move_56 ?_
      refine r_callV hX (z_X2_putNumber ad cs S T rest hS _ (a0).toNat (by omega) (by omega) _ (by omega)) kv_X2_74 0 rfl rfl rfl rfl (Nat.le_of_ble_eq_true rfl) ⟨(Nat.le_of_ble_eq_true rfl), (Nat.le_of_ble_eq_true rfl)⟩ ⟨(Nat.le_of_ble_eq_true rfl), (Nat.le_of_ble_eq_true rfl)⟩ dX2_move_57 (fun _ _ z => False.elim z) (fun v9 ws9 h10 => ?_)
      obtain ⟨rfl, hw9⟩ := h10
      subst ws9
      dsimp only [mPush]
      refine r_iret hX hE dX2_move_60 (Nat.le_of_ble_eq_true rfl) (Nat.le_of_ble_eq_true rfl) ⟨by omega, ?_⟩
      rw [show zUn a1 = 1000000 by unfold zUn; rw [if_neg (by omega), if_pos (by omega)]]
      exact ⟨rfl, rfl⟩
  · refine r_ldc2Z (z := 1000000000) hX kc_X2_72 (by decide) dX2_move_19 ?_
    refine r_goto (tgt := 37) hX dX2_move_22 (by decide) ?_
    refine r_lstore hX dX2_move_37 (by decide) rfl ?_
    refine r_aload_n hX dX2_move_39 rfl rfl ?_
    refine r_iload_n hX dX2_move_40 rfl rfl ?_
    refine r_aload_n hX dX2_move_41 rfl rfl ?_
    refine r_get hX kf_X2_13 0 rfl rfl dX2_move_42 ?_
    refine r_iload_n hX dX2_move_45 rfl rfl ?_
    have hnu := hS.2.1 a0.toNat (by omega)
    refine r_laldZ hX 2 1 rfl rfl (a0).toNat (by omega) (by omega) (by decide) dX2_move_46 ?_
    refine r_iload_n hX dX2_move_47 rfl rfl ?_
    refine r_iload hX dX2_move_48 rfl ?_
    refine r_callS hX (z_X2_signed _ _ _ _ (by omega)) ks_X2_80 rfl rfl (Nat.le_of_ble_eq_true rfl) ⟨(Nat.le_of_ble_eq_true rfl), (Nat.le_of_ble_eq_true rfl)⟩ ⟨(Nat.le_of_ble_eq_true rfl), (Nat.le_of_ble_eq_true rfl)⟩ dX2_move_50 (fun _ _ z => False.elim z) (fun v9 ws9 h11 => ?_)
    obtain ⟨rfl, hw9⟩ := h11
    subst ws9
    dsimp only [mPush]
    have hsg11 := zSg_b (a := a2) (b := b3) (by omega)
    refine r_lload hX dX2_move_53 rfl ?_
    refine r_lmulZ hX dX2_move_55 ?_
    refine r_laddZ hX dX2_move_56 ?_
    refine r_callV hX (z_X2_putNumber ad cs S T rest hS _ (a0).toNat (by omega) (by omega) _ (by omega)) kv_X2_74 0 rfl rfl rfl rfl (Nat.le_of_ble_eq_true rfl) ⟨(Nat.le_of_ble_eq_true rfl), (Nat.le_of_ble_eq_true rfl)⟩ ⟨(Nat.le_of_ble_eq_true rfl), (Nat.le_of_ble_eq_true rfl)⟩ dX2_move_57 (fun _ _ z => False.elim z) (fun v9 ws9 h12 => ?_)
    obtain ⟨rfl, hw9⟩ := h12
    subst ws9
    dsimp only [mPush]
    refine r_iret hX hE dX2_move_60 (Nat.le_of_ble_eq_true rfl) (Nat.le_of_ble_eq_true rfl) ⟨by omega, ?_⟩
    rw [show zUn a1 = 1000000000 by unfold zUn; rw [if_pos (by omega)]]
    exact ⟨rfl, rfl⟩
set_option maxHeartbeats 4000000 in
set_option maxRecDepth 20000 in
theorem z_X2_momentOf (ad : Nat → Nat) (cs : ClassId × ClassId × ClassId) (S : mS) (T : mT2) (rest : va_W) (hS : sWF S) (a0 : Int) (h0 : rJ a0) (a1 : Int) (h1 : rJ a1)  : mCt (mTy cs) yX2_momentOf cX2_momentOf 3 (some .int) ⟨7, 2, 12, 103⟩ [.ref (ad 0), .int (iZ a0), .int (iZ a1)] (mWd ad cs (mKof S T) rest) (fun v ws' => (((0 ≤ a0 ∧ a0 < 4) ∧ (0 ≤ a1 ∧ a1 < 4)) ∧ (0 ≤ (0 : Int))) ∧ v = some (.int (iZ (oNum S a0.toNat ((sse S a1.toNat - sow S a1.toNat) * 1000000000 + sna S a1.toNat)).1)) ∧ ws' = mWd ad cs (mKof (oNum S a0.toNat ((sse S a1.toNat - sow S a1.toNat) * 1000000000 + sna S a1.toNat)).2 T) rest) (fun E ws' => ws' = mWd ad cs (mKof S T) rest ∧ ((E = xI ∧ ¬ ((0 ≤ a0 ∧ a0 < 4) ∧ (0 ≤ a1 ∧ a1 < 4))) ∨ (E = xA ∧ ((0 ≤ a0 ∧ a0 < 4) ∧ (0 ≤ a1 ∧ a1 < 4)) ∧ ¬ (0 ≤ (0 : Int))))) := by
  refine mCt.of (by decide +kernel) (Nat.le_of_ble_eq_true rfl) (fun X hX hE => ?_)
  replace hX : mOK X RX2 cX2_momentOf 3 ⟨7, 2, 12, 103⟩ [] (mTy cs) := hX
  refine r_iload_n hX dX2_momentOf_0 rfl rfl ?_
  refine r_aload_n hX dX2_momentOf_1 rfl rfl ?_
  refine r_get hX kf_X2_13 0 rfl rfl dX2_momentOf_2 ?_
  refine r_alen (v := iZ 4) hX 2 1 rfl rfl rfl dX2_momentOf_5 ?_
  refine r_callS hX (z_X2_requireOne _ _ _ 4 (by omega) (by decide)) ks_X2_34 rfl rfl (Nat.le_of_ble_eq_true rfl) ⟨(Nat.le_of_ble_eq_true rfl), (Nat.le_of_ble_eq_true rfl)⟩ ⟨(Nat.le_of_ble_eq_true rfl), (Nat.le_of_ble_eq_true rfl)⟩ dX2_momentOf_6 (fun E ws9 z => r_out hX hE (Nat.le_of_ble_eq_true rfl) (Nat.le_of_ble_eq_true rfl) ⟨z.2.1, Or.inl ⟨z.1, fun q => z.2.2 (by omega)⟩⟩) (fun v9 ws9 h1 => ?_)
  obtain ⟨hi2, rfl, hw9⟩ := h1
  subst ws9
  dsimp only [mPush]
  refine r_aload_n hX dX2_momentOf_9 rfl rfl ?_
  refine r_iload_n hX dX2_momentOf_10 rfl rfl ?_
  refine r_aload_n hX dX2_momentOf_11 rfl rfl ?_
  refine r_get hX kf_X2_20 0 rfl rfl dX2_momentOf_12 ?_
  refine r_iload_n hX dX2_momentOf_15 rfl rfl ?_
  refine r_callS hX (z_X2_at ad cs _ 3 _ 4 0 rfl (by decide) _ (by omega)) ks_X2_84 rfl rfl (Nat.le_of_ble_eq_true rfl) ⟨(Nat.le_of_ble_eq_true rfl), (Nat.le_of_ble_eq_true rfl)⟩ ⟨(Nat.le_of_ble_eq_true rfl), (Nat.le_of_ble_eq_true rfl)⟩ dX2_momentOf_16 (fun E ws9 z => r_out hX hE (Nat.le_of_ble_eq_true rfl) (Nat.le_of_ble_eq_true rfl) ⟨z.2.1, Or.inl ⟨z.1, fun q => z.2.2 (by omega)⟩⟩) (fun v9 ws9 h3 => ?_)
  obtain ⟨hi4, rfl, hw9⟩ := h3
  subst ws9
  dsimp only [mPush]
  have hr1 := zrg hS (d := a1.toNat) (by omega)
  have hse := hS.2.2.2.1 a1.toNat (by omega)
  refine r_callS hX (z_X2_numberOf _ _ (a1.toNat + 5) _ _ _ _ (zWd_loc (d := a1.toNat) (by omega)) (zrg hS (by omega))) ks_X2_88 rfl rfl (Nat.le_of_ble_eq_true rfl) ⟨(Nat.le_of_ble_eq_true rfl), (Nat.le_of_ble_eq_true rfl)⟩ ⟨(Nat.le_of_ble_eq_true rfl), (Nat.le_of_ble_eq_true rfl)⟩ dX2_momentOf_19 (fun _ _ z => False.elim z) (fun v9 ws9 h5 => ?_)
  obtain ⟨rfl, hw9⟩ := h5
  subst ws9
  dsimp only [mPush]
  refine r_callV hX (z_X2_putNumber ad cs S T rest hS _ (a0).toNat (by omega) (by omega) _ (by omega)) kv_X2_74 0 rfl rfl rfl rfl (Nat.le_of_ble_eq_true rfl) ⟨(Nat.le_of_ble_eq_true rfl), (Nat.le_of_ble_eq_true rfl)⟩ ⟨(Nat.le_of_ble_eq_true rfl), (Nat.le_of_ble_eq_true rfl)⟩ dX2_momentOf_22 (fun _ _ z => False.elim z) (fun v9 ws9 h6 => ?_)
  obtain ⟨rfl, hw9⟩ := h6
  subst ws9
  dsimp only [mPush]
  refine r_iret hX hE dX2_momentOf_25 (Nat.le_of_ble_eq_true rfl) (Nat.le_of_ble_eq_true rfl) ⟨by omega, ?_⟩
  exact ⟨rfl, rfl⟩
set_option maxHeartbeats 4000000 in
set_option maxRecDepth 20000 in
theorem z_X2_ofMoment (ad : Nat → Nat) (cs : ClassId × ClassId × ClassId) (S : mS) (T : mT2) (rest : va_W) (hS : sWF S) (a0 : Int) (h0 : rJ a0) (b1 : Bool)  : mCt (mTy cs) yX2_ofMoment cX2_ofMoment 3 (some .int) ⟨7, 1, 6, 103⟩ [.ref (ad 0), .int (iZ a0), .int (b2i b1)] (mWd ad cs (mKof S T) rest) (fun v ws' => (((0 ≤ a0 ∧ a0 < 4)) ∧ (0 ≤ (0 : Int))) ∧ v = some (.int (iZ (cond b1 (snu S a0.toNat % 1000000000) (snu S a0.toNat / 1000000000)))) ∧ ws' = mWd ad cs (mKof S T) rest) (fun E ws' => ws' = mWd ad cs (mKof S T) rest ∧ ((E = xI ∧ ¬ ((0 ≤ a0 ∧ a0 < 4))) ∨ (E = xA ∧ ((0 ≤ a0 ∧ a0 < 4)) ∧ ¬ (0 ≤ (0 : Int))))) := by
  refine mCt.of (by decide +kernel) (Nat.le_of_ble_eq_true rfl) (fun X hX hE => ?_)
  replace hX : mOK X RX2 cX2_ofMoment 3 ⟨7, 1, 6, 103⟩ [] (mTy cs) := hX
  refine r_iload_n hX dX2_ofMoment_0 rfl rfl ?_
  refine r_aload_n hX dX2_ofMoment_1 rfl rfl ?_
  refine r_get hX kf_X2_13 0 rfl rfl dX2_ofMoment_2 ?_
  refine r_alen (v := iZ 4) hX 2 1 rfl rfl rfl dX2_ofMoment_5 ?_
  refine r_callS hX (z_X2_requireOne _ _ _ 4 (by omega) (by decide)) ks_X2_34 rfl rfl (Nat.le_of_ble_eq_true rfl) ⟨(Nat.le_of_ble_eq_true rfl), (Nat.le_of_ble_eq_true rfl)⟩ ⟨(Nat.le_of_ble_eq_true rfl), (Nat.le_of_ble_eq_true rfl)⟩ dX2_ofMoment_6 (fun E ws9 z => r_out hX hE (Nat.le_of_ble_eq_true rfl) (Nat.le_of_ble_eq_true rfl) ⟨z.2.1, Or.inl ⟨z.1, fun q => z.2.2 (by omega)⟩⟩) (fun v9 ws9 h1 => ?_)
  obtain ⟨hi2, rfl, hw9⟩ := h1
  subst ws9
  dsimp only [mPush]
  refine r_iload_n hX dX2_ofMoment_9 rfl rfl ?_
  refine r_if_eqB (tgt := 25) hX dX2_ofMoment_10 (by decide) (fun c3 => ?_) (fun c3 => ?_)
  · have c3 := id c3
    refine r_aload_n hX dX2_ofMoment_25 rfl rfl ?_
    refine r_get hX kf_X2_13 0 rfl rfl dX2_ofMoment_26 ?_
    refine r_iload_n hX dX2_ofMoment_29 rfl rfl ?_
    have hnu := hS.2.1 a0.toNat (by omega)
    refine r_laldZ hX 2 1 rfl rfl (a0).toNat (by omega) (by omega) (by decide) dX2_ofMoment_30 ?_
    refine r_callS hX (z_X2_secondOf _ _ _ (by omega)) ks_X2_96 rfl rfl (Nat.le_of_ble_eq_true rfl) ⟨(Nat.le_of_ble_eq_true rfl), (Nat.le_of_ble_eq_true rfl)⟩ ⟨(Nat.le_of_ble_eq_true rfl), (Nat.le_of_ble_eq_true rfl)⟩ dX2_ofMoment_31 (fun _ _ z => False.elim z) (fun v9 ws9 h4 => ?_)
    obtain ⟨rfl, hw9⟩ := h4
    subst ws9
    dsimp only [mPush]
    refine r_l2iZ hX dX2_ofMoment_34 ?_
    refine r_iret hX hE dX2_ofMoment_35 (Nat.le_of_ble_eq_true rfl) (Nat.le_of_ble_eq_true rfl) ⟨by omega, zi ?_, rfl⟩
    first | (rw [show b1 = true by assumption]; rfl) | (rw [show b1 = false by assumption]; rfl)
  · have c3 := id c3
    refine r_aload_n hX dX2_ofMoment_13 rfl rfl ?_
    refine r_get hX kf_X2_13 0 rfl rfl dX2_ofMoment_14 ?_
    refine r_iload_n hX dX2_ofMoment_17 rfl rfl ?_
    have hnu := hS.2.1 a0.toNat (by omega)
    refine r_laldZ hX 2 1 rfl rfl (a0).toNat (by omega) (by omega) (by decide) dX2_ofMoment_18 ?_
    refine r_callS hX (z_X2_nanoOf _ _ _ (by omega)) ks_X2_92 rfl rfl (Nat.le_of_ble_eq_true rfl) ⟨(Nat.le_of_ble_eq_true rfl), (Nat.le_of_ble_eq_true rfl)⟩ ⟨(Nat.le_of_ble_eq_true rfl), (Nat.le_of_ble_eq_true rfl)⟩ dX2_ofMoment_19 (fun _ _ z => False.elim z) (fun v9 ws9 h5 => ?_)
    obtain ⟨rfl, hw9⟩ := h5
    subst ws9
    dsimp only [mPush]
    refine r_goto (tgt := 35) hX dX2_ofMoment_22 (by decide) ?_
    refine r_iret hX hE dX2_ofMoment_35 (Nat.le_of_ble_eq_true rfl) (Nat.le_of_ble_eq_true rfl) ⟨by omega, zi ?_, rfl⟩
    first | (rw [show b1 = true by assumption]; rfl) | (rw [show b1 = false by assumption]; rfl)
set_option maxHeartbeats 4000000 in
set_option maxRecDepth 20000 in
theorem z_X2_orderMoment (ad : Nat → Nat) (cs : ClassId × ClassId × ClassId) (S : mS) (T : mT2) (rest : va_W) (hS : sWF S) (a0 : Int) (h0 : rJ a0) (a1 : Int) (h1 : rJ a1)  : mCt (mTy cs) yX2_orderMoment cX2_orderMoment 3 (some .int) ⟨7, 2, 12, 103⟩ [.ref (ad 0), .int (iZ a0), .int (iZ a1)] (mWd ad cs (mKof S T) rest) (fun v ws' => (((0 ≤ a0 ∧ a0 < 4) ∧ (0 ≤ a1 ∧ a1 < 4)) ∧ (0 ≤ (0 : Int))) ∧ v = some (.int (iZ (cmpZ (snu S a0.toNat) (snu S a1.toNat)))) ∧ ws' = mWd ad cs (mKof S T) rest) (fun E ws' => ws' = mWd ad cs (mKof S T) rest ∧ ((E = xI ∧ ¬ ((0 ≤ a0 ∧ a0 < 4) ∧ (0 ≤ a1 ∧ a1 < 4))) ∨ (E = xA ∧ ((0 ≤ a0 ∧ a0 < 4) ∧ (0 ≤ a1 ∧ a1 < 4)) ∧ ¬ (0 ≤ (0 : Int))))) := by
  refine mCt.of (by decide +kernel) (Nat.le_of_ble_eq_true rfl) (fun X hX hE => ?_)
  replace hX : mOK X RX2 cX2_orderMoment 3 ⟨7, 2, 12, 103⟩ [] (mTy cs) := hX
  refine r_iload_n hX dX2_orderMoment_0 rfl rfl ?_
  refine r_aload_n hX dX2_orderMoment_1 rfl rfl ?_
  refine r_get hX kf_X2_13 0 rfl rfl dX2_orderMoment_2 ?_
  refine r_alen (v := iZ 4) hX 2 1 rfl rfl rfl dX2_orderMoment_5 ?_
  refine r_callS hX (z_X2_requireOne _ _ _ 4 (by omega) (by decide)) ks_X2_34 rfl rfl (Nat.le_of_ble_eq_true rfl) ⟨(Nat.le_of_ble_eq_true rfl), (Nat.le_of_ble_eq_true rfl)⟩ ⟨(Nat.le_of_ble_eq_true rfl), (Nat.le_of_ble_eq_true rfl)⟩ dX2_orderMoment_6 (fun E ws9 z => r_out hX hE (Nat.le_of_ble_eq_true rfl) (Nat.le_of_ble_eq_true rfl) ⟨z.2.1, Or.inl ⟨z.1, fun q => z.2.2 (by omega)⟩⟩) (fun v9 ws9 h1 => ?_)
  obtain ⟨hi2, rfl, hw9⟩ := h1
  subst ws9
  dsimp only [mPush]
  refine r_iload_n hX dX2_orderMoment_9 rfl rfl ?_
  refine r_aload_n hX dX2_orderMoment_10 rfl rfl ?_
  refine r_get hX kf_X2_13 0 rfl rfl dX2_orderMoment_11 ?_
  refine r_alen (v := iZ 4) hX 2 1 rfl rfl rfl dX2_orderMoment_14 ?_
  refine r_callS hX (z_X2_requireOne _ _ _ 4 (by omega) (by decide)) ks_X2_34 rfl rfl (Nat.le_of_ble_eq_true rfl) ⟨(Nat.le_of_ble_eq_true rfl), (Nat.le_of_ble_eq_true rfl)⟩ ⟨(Nat.le_of_ble_eq_true rfl), (Nat.le_of_ble_eq_true rfl)⟩ dX2_orderMoment_15 (fun E ws9 z => r_out hX hE (Nat.le_of_ble_eq_true rfl) (Nat.le_of_ble_eq_true rfl) ⟨z.2.1, Or.inl ⟨z.1, fun q => z.2.2 (by omega)⟩⟩) (fun v9 ws9 h3 => ?_)
  obtain ⟨hi4, rfl, hw9⟩ := h3
  subst ws9
  dsimp only [mPush]
  refine r_aload_n hX dX2_orderMoment_18 rfl rfl ?_
  refine r_get hX kf_X2_13 0 rfl rfl dX2_orderMoment_19 ?_
  refine r_iload_n hX dX2_orderMoment_22 rfl rfl ?_
  have hnu := hS.2.1 a0.toNat (by omega)
  have hnu1 := hS.2.1 a1.toNat (by omega)
  refine r_laldZ hX 2 1 rfl rfl (a0).toNat (by omega) (by omega) (by decide) dX2_orderMoment_23 ?_
  refine r_aload_n hX dX2_orderMoment_24 rfl rfl ?_
  refine r_get hX kf_X2_13 0 rfl rfl dX2_orderMoment_25 ?_
  refine r_iload_n hX dX2_orderMoment_28 rfl rfl ?_
  refine r_laldZ hX 2 1 rfl rfl (a1).toNat (by omega) (by omega) (by decide) dX2_orderMoment_29 ?_
  refine r_callS hX (z_X2_compared _ _ _ _ (by omega) (by omega)) ks_X2_68 rfl rfl (Nat.le_of_ble_eq_true rfl) ⟨(Nat.le_of_ble_eq_true rfl), (Nat.le_of_ble_eq_true rfl)⟩ ⟨(Nat.le_of_ble_eq_true rfl), (Nat.le_of_ble_eq_true rfl)⟩ dX2_orderMoment_30 (fun _ _ z => False.elim z) (fun v9 ws9 h5 => ?_)
  obtain ⟨rfl, hw9⟩ := h5
  subst ws9
  dsimp only [mPush]
  have hcm5 := cmpZ_b (snu S (a0).toNat) (snu S (a1).toNat)
  refine r_iret hX hE dX2_orderMoment_33 (Nat.le_of_ble_eq_true rfl) (Nat.le_of_ble_eq_true rfl) ⟨by omega, zi ?_, rfl⟩
  rfl
set_option maxHeartbeats 4000000 in
set_option maxRecDepth 20000 in
theorem z_X2_isMoment (ad : Nat → Nat) (cs : ClassId × ClassId × ClassId) (S : mS) (T : mT2) (rest : va_W) (hS : sWF S) (a0 : Int) (h0 : rJ a0) (a1 : Int) (h1 : rJ a1) (a2 : Int) (h2 : rJ a2)  : mCt (mTy cs) yX2_isMoment cX2_isMoment 5 (some .boolean) ⟨8, 3, 18, 125⟩ [.ref (ad 0), .int (iZ a0), .int (iZ a1), .int (iZ a2)] (mWd ad cs (mKof S T) rest) (fun v ws' => (((0 ≤ a0 ∧ a0 < 4) ∧ (0 ≤ a1 ∧ a1 < 4)) ∧ (0 ≤ a2 ∧ a2 ≤ 2)) ∧ v = some (.int (b2i (zIs (cmpZ (snu S a0.toNat) (snu S a1.toNat)) a2))) ∧ ws' = mWd ad cs (mKof S T) rest) (fun E ws' => ws' = mWd ad cs (mKof S T) rest ∧ ((E = xI ∧ ¬ ((0 ≤ a0 ∧ a0 < 4) ∧ (0 ≤ a1 ∧ a1 < 4))) ∨ (E = xA ∧ ((0 ≤ a0 ∧ a0 < 4) ∧ (0 ≤ a1 ∧ a1 < 4)) ∧ ¬ (0 ≤ a2 ∧ a2 ≤ 2)))) := by
  refine mCt.of (by decide +kernel) (Nat.le_of_ble_eq_true rfl) (fun X hX hE => ?_)
  replace hX : mOK X RX2 cX2_isMoment 5 ⟨8, 3, 18, 125⟩ [] (mTy cs) := hX
  refine r_aload_n hX dX2_isMoment_0 rfl rfl ?_
  refine r_iload_n hX dX2_isMoment_1 rfl rfl ?_
  refine r_iload_n hX dX2_isMoment_2 rfl rfl ?_
  refine r_callV hX (z_X2_orderMoment ad cs S T rest hS _ (by omega) _ (by omega)) kv_X2_110 0 rfl rfl rfl rfl (Nat.le_of_ble_eq_true rfl) ⟨(Nat.le_of_ble_eq_true rfl), (Nat.le_of_ble_eq_true rfl)⟩ ⟨(Nat.le_of_ble_eq_true rfl), (Nat.le_of_ble_eq_true rfl)⟩ dX2_isMoment_3 (fun E ws9 z => r_out hX hE (Nat.le_of_ble_eq_true rfl) (Nat.le_of_ble_eq_true rfl) ⟨z.1, z.2.elim (fun q => Or.inl ⟨q.1, fun q2 => q.2 (by omega)⟩) (fun q => absurd (by decide) q.2.2)⟩) (fun v9 ws9 h1 => ?_)
  obtain ⟨hio, rfl, hw9⟩ := h1
  subst ws9
  dsimp only [mPush]
  have hcm := cmpZ_b (snu S a0.toNat) (snu S a1.toNat)
  refine r_istore hX dX2_isMoment_6 (by decide) rfl ?_
  refine r_iload_n hX dX2_isMoment_8 rfl rfl ?_
  refine r_iconstZ hX dX2_isMoment_9 ?_
  refine r_iconstZ hX dX2_isMoment_10 ?_
  refine r_callS hX (z_X2_requireWithin _ _ _ _ _ (by omega) (by omega) (by omega)) ks_X2_40 rfl rfl (Nat.le_of_ble_eq_true rfl) ⟨(Nat.le_of_ble_eq_true rfl), (Nat.le_of_ble_eq_true rfl)⟩ ⟨(Nat.le_of_ble_eq_true rfl), (Nat.le_of_ble_eq_true rfl)⟩ dX2_isMoment_11 (fun E ws9 z => r_out hX hE (Nat.le_of_ble_eq_true rfl) (Nat.le_of_ble_eq_true rfl) ⟨z.2.1, Or.inr ⟨z.1, by omega, fun q => z.2.2 (by omega)⟩⟩) (fun v9 ws9 h2 => ?_)
  obtain ⟨hi3, rfl, hw9⟩ := h2
  subst ws9
  dsimp only [mPush]
  refine r_iload_n hX dX2_isMoment_14 rfl rfl ?_
  refine r_if_neZ (tgt := 31) hX dX2_isMoment_15 (by decide) (by omega) (fun c4 => ?_) (fun c4 => ?_)
  · refine r_iload_n hX dX2_isMoment_31 rfl rfl ?_
    refine r_iconstZ hX dX2_isMoment_32 ?_
    refine r_icmp_neZ (tgt := 49) hX dX2_isMoment_33 (by decide) (by omega) (by decide) (fun c5 => ?_) (fun c5 => ?_)
    · refine r_iload hX dX2_isMoment_49 rfl ?_
      refine r_if_neZ (tgt := 58) hX dX2_isMoment_51 (by decide) (by omega) (fun c6 => ?_) (fun c6 => ?_)
      · refine r_iconstZ hX dX2_isMoment_58 ?_
        refine r_zret hX hE dX2_isMoment_59 (by decide) (Nat.le_of_ble_eq_true rfl) (Nat.le_of_ble_eq_true rfl) ⟨by omega, zb0 ?_, rfl⟩
        unfold zIs
        first | rw [if_pos (by omega)] | rw [if_neg (by omega), if_pos (by omega)] | rw [if_neg (by omega), if_neg (by omega)]
        exact decide_eq_false (by omega)
      · refine r_iconstZ hX dX2_isMoment_54 ?_
        refine r_goto (tgt := 59) hX dX2_isMoment_55 (by decide) ?_
        refine r_zret hX hE dX2_isMoment_59 (by decide) (Nat.le_of_ble_eq_true rfl) (Nat.le_of_ble_eq_true rfl) ⟨by omega, zb1 ?_, rfl⟩
        unfold zIs
        first | rw [if_pos (by omega)] | rw [if_neg (by omega), if_pos (by omega)] | rw [if_neg (by omega), if_neg (by omega)]
        exact decide_eq_true (by omega)
    · refine r_iload hX dX2_isMoment_36 rfl ?_
      refine r_if_leZ (tgt := 45) hX dX2_isMoment_38 (by decide) (by omega) (fun c7 => ?_) (fun c7 => ?_)
      · refine r_iconstZ hX dX2_isMoment_45 ?_
        refine r_goto (tgt := 59) hX dX2_isMoment_46 (by decide) ?_
        refine r_zret hX hE dX2_isMoment_59 (by decide) (Nat.le_of_ble_eq_true rfl) (Nat.le_of_ble_eq_true rfl) ⟨by omega, zb0 ?_, rfl⟩
        unfold zIs
        first | rw [if_pos (by omega)] | rw [if_neg (by omega), if_pos (by omega)] | rw [if_neg (by omega), if_neg (by omega)]
        exact decide_eq_false (by omega)
      · refine r_iconstZ hX dX2_isMoment_41 ?_
        refine r_goto (tgt := 59) hX dX2_isMoment_42 (by decide) ?_
        refine r_zret hX hE dX2_isMoment_59 (by decide) (Nat.le_of_ble_eq_true rfl) (Nat.le_of_ble_eq_true rfl) ⟨by omega, zb1 ?_, rfl⟩
        unfold zIs
        first | rw [if_pos (by omega)] | rw [if_neg (by omega), if_pos (by omega)] | rw [if_neg (by omega), if_neg (by omega)]
        exact decide_eq_true (by omega)
  · refine r_iload hX dX2_isMoment_18 rfl ?_
    refine r_if_geZ (tgt := 27) hX dX2_isMoment_20 (by decide) (by omega) (fun c8 => ?_) (fun c8 => ?_)
    · refine r_iconstZ hX dX2_isMoment_27 ?_
      refine r_goto (tgt := 59) hX dX2_isMoment_28 (by decide) ?_
      refine r_zret hX hE dX2_isMoment_59 (by decide) (Nat.le_of_ble_eq_true rfl) (Nat.le_of_ble_eq_true rfl) ⟨by omega, zb0 ?_, rfl⟩
      unfold zIs
      first | rw [if_pos (by omega)] | rw [if_neg (by omega), if_pos (by omega)] | rw [if_neg (by omega), if_neg (by omega)]
      exact decide_eq_false (by omega)
    · refine r_iconstZ hX dX2_isMoment_23 ?_
      refine r_goto (tgt := 59) hX dX2_isMoment_24 (by decide) ?_
      refine r_zret hX hE dX2_isMoment_59 (by decide) (Nat.le_of_ble_eq_true rfl) (Nat.le_of_ble_eq_true rfl) ⟨by omega, zb1 ?_, rfl⟩
      unfold zIs
      first | rw [if_pos (by omega)] | rw [if_neg (by omega), if_pos (by omega)] | rw [if_neg (by omega), if_neg (by omega)]
      exact decide_eq_true (by omega)
set_option maxHeartbeats 4000000 in
set_option maxRecDepth 20000 in
theorem z_X2_copyMoment (ad : Nat → Nat) (cs : ClassId × ClassId × ClassId) (S : mS) (T : mT2) (rest : va_W) (hS : sWF S) (a0 : Int) (h0 : rJ a0) (a1 : Int) (h1 : rJ a1)  : mCt (mTy cs) yX2_copyMoment cX2_copyMoment 3 (some .int) ⟨7, 2, 12, 103⟩ [.ref (ad 0), .int (iZ a0), .int (iZ a1)] (mWd ad cs (mKof S T) rest) (fun v ws' => (((0 ≤ a0 ∧ a0 < 4) ∧ (0 ≤ a1 ∧ a1 < 4)) ∧ (0 ≤ (0 : Int))) ∧ v = some (.int (iZ (oNum S a0.toNat (snu S a1.toNat)).1)) ∧ ws' = mWd ad cs (mKof (oNum S a0.toNat (snu S a1.toNat)).2 T) rest) (fun E ws' => ws' = mWd ad cs (mKof S T) rest ∧ ((E = xI ∧ ¬ ((0 ≤ a0 ∧ a0 < 4) ∧ (0 ≤ a1 ∧ a1 < 4))) ∨ (E = xA ∧ ((0 ≤ a0 ∧ a0 < 4) ∧ (0 ≤ a1 ∧ a1 < 4)) ∧ ¬ (0 ≤ (0 : Int))))) := by
  refine mCt.of (by decide +kernel) (Nat.le_of_ble_eq_true rfl) (fun X hX hE => ?_)
  replace hX : mOK X RX2 cX2_copyMoment 3 ⟨7, 2, 12, 103⟩ [] (mTy cs) := hX
  refine r_iload_n hX dX2_copyMoment_0 rfl rfl ?_
  refine r_aload_n hX dX2_copyMoment_1 rfl rfl ?_
  refine r_get hX kf_X2_13 0 rfl rfl dX2_copyMoment_2 ?_
  refine r_alen (v := iZ 4) hX 2 1 rfl rfl rfl dX2_copyMoment_5 ?_
  refine r_callS hX (z_X2_requireOne _ _ _ 4 (by omega) (by decide)) ks_X2_34 rfl rfl (Nat.le_of_ble_eq_true rfl) ⟨(Nat.le_of_ble_eq_true rfl), (Nat.le_of_ble_eq_true rfl)⟩ ⟨(Nat.le_of_ble_eq_true rfl), (Nat.le_of_ble_eq_true rfl)⟩ dX2_copyMoment_6 (fun E ws9 z => r_out hX hE (Nat.le_of_ble_eq_true rfl) (Nat.le_of_ble_eq_true rfl) ⟨z.2.1, Or.inl ⟨z.1, fun q => z.2.2 (by omega)⟩⟩) (fun v9 ws9 h1 => ?_)
  obtain ⟨hi2, rfl, hw9⟩ := h1
  subst ws9
  dsimp only [mPush]
  refine r_iload_n hX dX2_copyMoment_9 rfl rfl ?_
  refine r_aload_n hX dX2_copyMoment_10 rfl rfl ?_
  refine r_get hX kf_X2_13 0 rfl rfl dX2_copyMoment_11 ?_
  refine r_alen (v := iZ 4) hX 2 1 rfl rfl rfl dX2_copyMoment_14 ?_
  refine r_callS hX (z_X2_requireOne _ _ _ 4 (by omega) (by decide)) ks_X2_34 rfl rfl (Nat.le_of_ble_eq_true rfl) ⟨(Nat.le_of_ble_eq_true rfl), (Nat.le_of_ble_eq_true rfl)⟩ ⟨(Nat.le_of_ble_eq_true rfl), (Nat.le_of_ble_eq_true rfl)⟩ dX2_copyMoment_15 (fun E ws9 z => r_out hX hE (Nat.le_of_ble_eq_true rfl) (Nat.le_of_ble_eq_true rfl) ⟨z.2.1, Or.inl ⟨z.1, fun q => z.2.2 (by omega)⟩⟩) (fun v9 ws9 h3 => ?_)
  obtain ⟨hi4, rfl, hw9⟩ := h3
  subst ws9
  dsimp only [mPush]
  refine r_aload_n hX dX2_copyMoment_18 rfl rfl ?_
  refine r_iload_n hX dX2_copyMoment_19 rfl rfl ?_
  refine r_aload_n hX dX2_copyMoment_20 rfl rfl ?_
  refine r_get hX kf_X2_13 0 rfl rfl dX2_copyMoment_21 ?_
  refine r_iload_n hX dX2_copyMoment_24 rfl rfl ?_
  have hnu := hS.2.1 a1.toNat (by omega)
  refine r_laldZ hX 2 1 rfl rfl (a1).toNat (by omega) (by omega) (by decide) dX2_copyMoment_25 ?_
  refine r_callV hX (z_X2_putNumber ad cs S T rest hS _ (a0).toNat (by omega) (by omega) _ (by omega)) kv_X2_74 0 rfl rfl rfl rfl (Nat.le_of_ble_eq_true rfl) ⟨(Nat.le_of_ble_eq_true rfl), (Nat.le_of_ble_eq_true rfl)⟩ ⟨(Nat.le_of_ble_eq_true rfl), (Nat.le_of_ble_eq_true rfl)⟩ dX2_copyMoment_26 (fun _ _ z => False.elim z) (fun v9 ws9 h5 => ?_)
  obtain ⟨rfl, hw9⟩ := h5
  subst ws9
  dsimp only [mPush]
  refine r_iret hX hE dX2_copyMoment_29 (Nat.le_of_ble_eq_true rfl) (Nat.le_of_ble_eq_true rfl) ⟨by omega, ?_⟩
  exact ⟨rfl, rfl⟩

