/-! The class, exact (rows by a program of this repository). -/
/-- a sum goes on by these -/
def dg : Int → List Int → Int
  | s, [] => s
  | s, x :: r => dg (s * 31 + x) r
def dP (S : mS) (d : Nat) (w : Int) : Int := zDP (sse S d) (sna S d) (sow S d) w
def dC (S : mS) (c : Nat) (w : Int) : Int := zCP (sse S (c + 4)) (sna S (c + 4)) (sow S (c + 4)) w
def dT (S : mS) (i j : Nat) : Int := zTo (sse S i) (sna S i) (sow S i) (sse S j) (sna S j) (sow S j)
def dA (S : mS) (i j : Nat) : Int := cond (decide (sse S i - sow S i = sse S j - sow S j ∧ sna S i = sna S j)) 1 0
def dOff (S : mS) (s : Int) : Int := dg s [sof S 0, sof S 1, sof S 2, sof S 3]
def dMom (S : mS) (s : Int) : Int := dg s [snu S 0 / 1000000000, snu S 0 % 1000000000, snu S 1 / 1000000000, snu S 1 % 1000000000, snu S 2 / 1000000000, snu S 2 % 1000000000, snu S 3 / 1000000000, snu S 3 % 1000000000]
def dDat (S : mS) (s : Int) : Int := dg s [dP S 0 0, dP S 0 1, dP S 0 2, dP S 0 3, dP S 0 4, dP S 0 5, dP S 0 6, dP S 0 7, dP S 0 8, dP S 0 9, dP S 0 10, dP S 0 11, dP S 0 12, dP S 1 0, dP S 1 1, dP S 1 2, dP S 1 3, dP S 1 4, dP S 1 5, dP S 1 6, dP S 1 7, dP S 1 8, dP S 1 9, dP S 1 10, dP S 1 11, dP S 1 12, dP S 2 0, dP S 2 1, dP S 2 2, dP S 2 3, dP S 2 4, dP S 2 5, dP S 2 6, dP S 2 7, dP S 2 8, dP S 2 9, dP S 2 10, dP S 2 11, dP S 2 12, dP S 3 0, dP S 3 1, dP S 3 2, dP S 3 3, dP S 3 4, dP S 3 5, dP S 3 6, dP S 3 7, dP S 3 8, dP S 3 9, dP S 3 10, dP S 3 11, dP S 3 12]
def dClk (S : mS) (s : Int) : Int := dg s [dC S 0 0, dC S 0 1, dC S 0 2, dC S 0 3, dC S 0 4, dC S 0 5, dC S 1 0, dC S 1 1, dC S 1 2, dC S 1 3, dC S 1 4, dC S 1 5, dC S 2 0, dC S 2 1, dC S 2 2, dC S 2 3, dC S 2 4, dC S 2 5]
def dDp (S : mS) (s : Int) : Int := dg s [dT S 0 0, dA S 0 0, dT S 0 1, dA S 0 1, dT S 0 2, dA S 0 2, dT S 0 3, dA S 0 3, dT S 1 0, dA S 1 0, dT S 1 1, dA S 1 1, dT S 1 2, dA S 1 2, dT S 1 3, dA S 1 3, dT S 2 0, dA S 2 0, dT S 2 1, dA S 2 1, dT S 2 2, dA S 2 2, dT S 2 3, dA S 2 3, dT S 3 0, dA S 3 0, dT S 3 1, dA S 3 1, dT S 3 2, dA S 3 2, dT S 3 3, dA S 3 3]
def dCp (S : mS) (s : Int) : Int := dg s [dT S 4 4, dT S 4 5, dT S 4 6, dT S 5 4, dT S 5 5, dT S 5 6, dT S 6 4, dT S 6 5, dT S 6 6]
def dHo (S : mS) (s : Int) : Int := dg s [(zHo S 0).toInt, (zHo S 1).toInt, (zHo S 2).toInt, (zHo S 3).toInt]
def zDig (S : mS) : Int := dHo S (dCp S (dDp S (dClk S (dDat S (dMom S (dOff S 6199)))))) * 31 + 1
theorem z_X2_ofMoment_ok (ad : Nat → Nat) (cs : ClassId × ClassId × ClassId) (S : mS) (T : mT2) (rest : va_W) (hS : sWF S) (a0 : Int) (h0 : 0 ≤ a0 ∧ a0 < 4) (b1 : Bool) : mCt (mTy cs) yX2_ofMoment cX2_ofMoment 3 (some .int) ⟨7, 1, 6, 103⟩ [.ref (ad 0), .int (iZ a0), .int (b2i b1)] (mWd ad cs (mKof S T) rest) (fun v ws' => v = some (.int (iZ (cond b1 (snu S a0.toNat % 1000000000) (snu S a0.toNat / 1000000000)))) ∧ ws' = mWd ad cs (mKof S T) rest) mNo :=
  (z_X2_ofMoment ad cs S T rest hS a0 (by omega) b1).mono (fun v w h => h.2) (fun E w z => z.2.elim (fun q => q.2 h0) (fun q => q.2.2 (by decide)))
theorem z_X2_house_ok (ad : Nat → Nat) (cs : ClassId × ClassId × ClassId) (S : mS) (T : mT2) (rest : va_W) (hS : sWF S) (a0 : Int) (h0 : 0 ≤ a0 ∧ a0 ≤ 3) : mCt (mTy cs) yX2_house cX2_house 2 (some .int) ⟨7, 1, 6, 104⟩ [.ref (ad 0), .int (iZ a0)] (mWd ad cs (mKof S T) rest) (fun v ws' => v = some (.int (iZ (zHo S a0).toInt)) ∧ ws' = mWd ad cs (mKof S T) rest) mNo :=
  (z_X2_house ad cs S T rest hS a0 (by omega)).mono (fun v w h => ⟨by rw [iZ_self]; exact h.2.1, h.2.2⟩) (fun E w z => z.2.2 h0)
theorem z_X2_ofMoment_s (ad : Nat → Nat) (cs : ClassId × ClassId × ClassId) (S : mS) (T : mT2) (rest : va_W) (hS : sWF S) (a0 : Int) (j : Nat) (hj : j < 4) (e : a0 = (j : Int)) : mCt (mTy cs) yX2_ofMoment cX2_ofMoment 3 (some .int) ⟨7, 1, 6, 103⟩ [.ref (ad 0), .int (iZ a0), .int (b2i false)] (mWd ad cs (mKof S T) rest) (fun v ws' => v = some (.int (iZ (snu S j / 1000000000))) ∧ ws' = mWd ad cs (mKof S T) rest) mNo := by
  subst e
  exact (z_X2_ofMoment_ok ad cs S T rest hS (j : Int) ⟨by omega, by omega⟩ false).mono (fun v w h => h) (fun E w z => z)
theorem z_X2_ofMoment_n (ad : Nat → Nat) (cs : ClassId × ClassId × ClassId) (S : mS) (T : mT2) (rest : va_W) (hS : sWF S) (a0 : Int) (j : Nat) (hj : j < 4) (e : a0 = (j : Int)) : mCt (mTy cs) yX2_ofMoment cX2_ofMoment 3 (some .int) ⟨7, 1, 6, 103⟩ [.ref (ad 0), .int (iZ a0), .int (b2i true)] (mWd ad cs (mKof S T) rest) (fun v ws' => v = some (.int (iZ (snu S j % 1000000000))) ∧ ws' = mWd ad cs (mKof S T) rest) mNo := by
  subst e
  exact (z_X2_ofMoment_ok ad cs S T rest hS (j : Int) ⟨by omega, by omega⟩ true).mono (fun v w h => h) (fun E w z => z)
set_option maxHeartbeats 4000000 in
set_option maxRecDepth 20000 in
theorem z_X2_added (tys : List (ClassId × FieldType)) (ws : va_W) (a b : Int)  : mCt tys yX2_added cX2_added 4 (some .long) ⟨0, 0, 0, 0⟩ [.long (lZ a), .long (lZ b)] ws (fun v ws' => v = some (.long (lZ (a * 31 + b))) ∧ ws' = ws) mNo := by
  refine mCt.of (by decide +kernel) (Nat.le_of_ble_eq_true rfl) (fun X hX hE => ?_)
  replace hX : mOK X RX2 cX2_added 4 ⟨0, 0, 0, 0⟩ [] tys := hX
  refine r_lload_n hX dX2_added_0 rfl rfl ?_
  refine r_ldc2Z (z := 31) hX kc_X2_374 (by decide) dX2_added_1 ?_
  refine r_lmulZ hX dX2_added_4 ?_
  refine r_lload_n hX dX2_added_5 rfl rfl ?_
  refine r_laddZ hX dX2_added_6 ?_
  refine r_lret hX hE dX2_added_7 (Nat.le_of_ble_eq_true rfl) (Nat.le_of_ble_eq_true rfl) ⟨zl ?_, rfl⟩
  rfl
set_option maxHeartbeats 4000000 in
set_option maxRecDepth 20000 in
theorem z_X2_withOffsets (ad : Nat → Nat) (cs : ClassId × ClassId × ClassId) (S : mS) (T : mT2) (rest : va_W) (hS : sWF S) (s : Int)  : mCt (mTy cs) yX2_withOffsets cX2_withOffsets 6 (some .long) ⟨2, 0, 0, 42⟩ [.ref (ad 0), .long (lZ s)] (mWd ad cs (mKof S T) rest) (fun v ws' => v = some (.long (lZ (dOff S s))) ∧ ws' = (mWd ad cs (mKof S T) rest)) mNo := by
  refine mCt.of (by decide +kernel) (Nat.le_of_ble_eq_true rfl) (fun X hX hE => ?_)
  replace hX : mOK X RX2 cX2_withOffsets 6 ⟨2, 0, 0, 42⟩ [] (mTy cs) := hX
  have hn0 := hS.2.1 0 (by decide)
  have hn1 := hS.2.1 1 (by decide)
  have hn2 := hS.2.1 2 (by decide)
  have hn3 := hS.2.1 3 (by decide)
  have ho0 := hS.1 0 (by decide)
  have ho1 := hS.1 1 (by decide)
  have ho2 := hS.1 2 (by decide)
  have ho3 := hS.1 3 (by decide)
  refine r_lload_n hX dX2_withOffsets_0 rfl rfl ?_
  refine r_lstore_n hX dX2_withOffsets_1 rfl (by decide) rfl ?_
  refine r_iconstZ hX dX2_withOffsets_2 ?_
  refine r_istore hX dX2_withOffsets_3 (by decide) rfl ?_
  refine r_iload hX dX2_withOffsets_5 rfl ?_
  refine r_aload_n hX dX2_withOffsets_7 rfl rfl ?_
  refine r_get hX kf_X2_9 0 rfl rfl dX2_withOffsets_8 ?_
  refine r_alen (v := iZ 4) hX 1 0 rfl rfl rfl dX2_withOffsets_11 ?_
  refine r_icmp_geZ (tgt := 33) hX dX2_withOffsets_12 (by decide) (by decide) (by decide) (fun q => absurd q (by decide)) (fun _ => ?_)
  refine r_lload_n hX dX2_withOffsets_15 rfl rfl ?_
  refine r_aload_n hX dX2_withOffsets_16 rfl rfl ?_
  refine r_iload hX dX2_withOffsets_17 rfl ?_
  refine r_callV hX (z_X2_seconds_ok ad cs S T rest hS _ 0 (by omega) (by decide)) kv_X2_64 0 rfl rfl rfl rfl (Nat.le_of_ble_eq_true rfl) ⟨(Nat.le_of_ble_eq_true rfl), (Nat.le_of_ble_eq_true rfl)⟩ ⟨(Nat.le_of_ble_eq_true rfl), (Nat.le_of_ble_eq_true rfl)⟩ dX2_withOffsets_19 (fun _ _ z => False.elim z) (fun v9 ws9 h1 => ?_)
  obtain ⟨rfl, hw9⟩ := h1
  subst ws9
  dsimp only [mPush]
  refine r_i2lZ hX dX2_withOffsets_22 (by omega) ?_
  refine r_callS hX (z_X2_added _ _ _ _) ks_X2_247 rfl rfl (Nat.le_of_ble_eq_true rfl) ⟨(Nat.le_of_ble_eq_true rfl), (Nat.le_of_ble_eq_true rfl)⟩ ⟨(Nat.le_of_ble_eq_true rfl), (Nat.le_of_ble_eq_true rfl)⟩ dX2_withOffsets_23 (fun _ _ z => False.elim z) (fun v9 ws9 h2 => ?_)
  obtain ⟨rfl, hw9⟩ := h2
  subst ws9
  dsimp only [mPush]
  refine r_lstore_n hX dX2_withOffsets_26 rfl (by decide) rfl ?_
  refine r_iincZ (z := 1) (y := 1) hX dX2_withOffsets_27 rfl (by decide) rfl rfl ?_
  refine r_goto (tgt := 5) hX dX2_withOffsets_30 (by decide) ?_
  refine r_iload hX dX2_withOffsets_5 rfl ?_
  refine r_aload_n hX dX2_withOffsets_7 rfl rfl ?_
  refine r_get hX kf_X2_9 0 rfl rfl dX2_withOffsets_8 ?_
  refine r_alen (v := iZ 4) hX 1 0 rfl rfl rfl dX2_withOffsets_11 ?_
  refine r_icmp_geZ (tgt := 33) hX dX2_withOffsets_12 (by decide) (by decide) (by decide) (fun q => absurd q (by decide)) (fun _ => ?_)
  refine r_lload_n hX dX2_withOffsets_15 rfl rfl ?_
  refine r_aload_n hX dX2_withOffsets_16 rfl rfl ?_
  refine r_iload hX dX2_withOffsets_17 rfl ?_
  refine r_callV hX (z_X2_seconds_ok ad cs S T rest hS _ 1 (by omega) (by decide)) kv_X2_64 0 rfl rfl rfl rfl (Nat.le_of_ble_eq_true rfl) ⟨(Nat.le_of_ble_eq_true rfl), (Nat.le_of_ble_eq_true rfl)⟩ ⟨(Nat.le_of_ble_eq_true rfl), (Nat.le_of_ble_eq_true rfl)⟩ dX2_withOffsets_19 (fun _ _ z => False.elim z) (fun v9 ws9 h3 => ?_)
  obtain ⟨rfl, hw9⟩ := h3
  subst ws9
  dsimp only [mPush]
  refine r_i2lZ hX dX2_withOffsets_22 (by omega) ?_
  refine r_callS hX (z_X2_added _ _ _ _) ks_X2_247 rfl rfl (Nat.le_of_ble_eq_true rfl) ⟨(Nat.le_of_ble_eq_true rfl), (Nat.le_of_ble_eq_true rfl)⟩ ⟨(Nat.le_of_ble_eq_true rfl), (Nat.le_of_ble_eq_true rfl)⟩ dX2_withOffsets_23 (fun _ _ z => False.elim z) (fun v9 ws9 h4 => ?_)
  obtain ⟨rfl, hw9⟩ := h4
  subst ws9
  dsimp only [mPush]
  refine r_lstore_n hX dX2_withOffsets_26 rfl (by decide) rfl ?_
  refine r_iincZ (z := 1) (y := 2) hX dX2_withOffsets_27 rfl (by decide) rfl rfl ?_
  refine r_goto (tgt := 5) hX dX2_withOffsets_30 (by decide) ?_
  refine r_iload hX dX2_withOffsets_5 rfl ?_
  refine r_aload_n hX dX2_withOffsets_7 rfl rfl ?_
  refine r_get hX kf_X2_9 0 rfl rfl dX2_withOffsets_8 ?_
  refine r_alen (v := iZ 4) hX 1 0 rfl rfl rfl dX2_withOffsets_11 ?_
  refine r_icmp_geZ (tgt := 33) hX dX2_withOffsets_12 (by decide) (by decide) (by decide) (fun q => absurd q (by decide)) (fun _ => ?_)
  refine r_lload_n hX dX2_withOffsets_15 rfl rfl ?_
  refine r_aload_n hX dX2_withOffsets_16 rfl rfl ?_
  refine r_iload hX dX2_withOffsets_17 rfl ?_
  refine r_callV hX (z_X2_seconds_ok ad cs S T rest hS _ 2 (by omega) (by decide)) kv_X2_64 0 rfl rfl rfl rfl (Nat.le_of_ble_eq_true rfl) ⟨(Nat.le_of_ble_eq_true rfl), (Nat.le_of_ble_eq_true rfl)⟩ ⟨(Nat.le_of_ble_eq_true rfl), (Nat.le_of_ble_eq_true rfl)⟩ dX2_withOffsets_19 (fun _ _ z => False.elim z) (fun v9 ws9 h5 => ?_)
  obtain ⟨rfl, hw9⟩ := h5
  subst ws9
  dsimp only [mPush]
  refine r_i2lZ hX dX2_withOffsets_22 (by omega) ?_
  refine r_callS hX (z_X2_added _ _ _ _) ks_X2_247 rfl rfl (Nat.le_of_ble_eq_true rfl) ⟨(Nat.le_of_ble_eq_true rfl), (Nat.le_of_ble_eq_true rfl)⟩ ⟨(Nat.le_of_ble_eq_true rfl), (Nat.le_of_ble_eq_true rfl)⟩ dX2_withOffsets_23 (fun _ _ z => False.elim z) (fun v9 ws9 h6 => ?_)
  obtain ⟨rfl, hw9⟩ := h6
  subst ws9
  dsimp only [mPush]
  refine r_lstore_n hX dX2_withOffsets_26 rfl (by decide) rfl ?_
  refine r_iincZ (z := 1) (y := 3) hX dX2_withOffsets_27 rfl (by decide) rfl rfl ?_
  refine r_goto (tgt := 5) hX dX2_withOffsets_30 (by decide) ?_
  refine r_iload hX dX2_withOffsets_5 rfl ?_
  refine r_aload_n hX dX2_withOffsets_7 rfl rfl ?_
  refine r_get hX kf_X2_9 0 rfl rfl dX2_withOffsets_8 ?_
  refine r_alen (v := iZ 4) hX 1 0 rfl rfl rfl dX2_withOffsets_11 ?_
  refine r_icmp_geZ (tgt := 33) hX dX2_withOffsets_12 (by decide) (by decide) (by decide) (fun q => absurd q (by decide)) (fun _ => ?_)
  refine r_lload_n hX dX2_withOffsets_15 rfl rfl ?_
  refine r_aload_n hX dX2_withOffsets_16 rfl rfl ?_
  refine r_iload hX dX2_withOffsets_17 rfl ?_
  refine r_callV hX (z_X2_seconds_ok ad cs S T rest hS _ 3 (by omega) (by decide)) kv_X2_64 0 rfl rfl rfl rfl (Nat.le_of_ble_eq_true rfl) ⟨(Nat.le_of_ble_eq_true rfl), (Nat.le_of_ble_eq_true rfl)⟩ ⟨(Nat.le_of_ble_eq_true rfl), (Nat.le_of_ble_eq_true rfl)⟩ dX2_withOffsets_19 (fun _ _ z => False.elim z) (fun v9 ws9 h7 => ?_)
  obtain ⟨rfl, hw9⟩ := h7
  subst ws9
  dsimp only [mPush]
  refine r_i2lZ hX dX2_withOffsets_22 (by omega) ?_
  refine r_callS hX (z_X2_added _ _ _ _) ks_X2_247 rfl rfl (Nat.le_of_ble_eq_true rfl) ⟨(Nat.le_of_ble_eq_true rfl), (Nat.le_of_ble_eq_true rfl)⟩ ⟨(Nat.le_of_ble_eq_true rfl), (Nat.le_of_ble_eq_true rfl)⟩ dX2_withOffsets_23 (fun _ _ z => False.elim z) (fun v9 ws9 h8 => ?_)
  obtain ⟨rfl, hw9⟩ := h8
  subst ws9
  dsimp only [mPush]
  refine r_lstore_n hX dX2_withOffsets_26 rfl (by decide) rfl ?_
  refine r_iincZ (z := 1) (y := 4) hX dX2_withOffsets_27 rfl (by decide) rfl rfl ?_
  refine r_goto (tgt := 5) hX dX2_withOffsets_30 (by decide) ?_
  refine r_iload hX dX2_withOffsets_5 rfl ?_
  refine r_aload_n hX dX2_withOffsets_7 rfl rfl ?_
  refine r_get hX kf_X2_9 0 rfl rfl dX2_withOffsets_8 ?_
  refine r_alen (v := iZ 4) hX 1 0 rfl rfl rfl dX2_withOffsets_11 ?_
  refine r_icmp_geZ (tgt := 33) hX dX2_withOffsets_12 (by decide) (by decide) (by decide) (fun _ => ?_) (fun q => absurd (by decide) q)
  refine r_lload_n hX dX2_withOffsets_33 rfl rfl ?_
  refine r_lret hX hE dX2_withOffsets_34 (Nat.le_of_ble_eq_true rfl) (Nat.le_of_ble_eq_true rfl) ⟨zl ?_, rfl⟩
  rfl
set_option maxHeartbeats 4000000 in
set_option maxRecDepth 20000 in
theorem z_X2_withMoments (ad : Nat → Nat) (cs : ClassId × ClassId × ClassId) (S : mS) (T : mT2) (rest : va_W) (hS : sWF S) (s : Int)  : mCt (mTy cs) yX2_withMoments cX2_withMoments 6 (some .long) ⟨8, 8, 48, 125⟩ [.ref (ad 0), .long (lZ s)] (mWd ad cs (mKof S T) rest) (fun v ws' => v = some (.long (lZ (dMom S s))) ∧ ws' = (mWd ad cs (mKof S T) rest)) mNo := by
  refine mCt.of (by decide +kernel) (Nat.le_of_ble_eq_true rfl) (fun X hX hE => ?_)
  replace hX : mOK X RX2 cX2_withMoments 6 ⟨8, 8, 48, 125⟩ [] (mTy cs) := hX
  have hn0 := hS.2.1 0 (by decide)
  have hn1 := hS.2.1 1 (by decide)
  have hn2 := hS.2.1 2 (by decide)
  have hn3 := hS.2.1 3 (by decide)
  have ho0 := hS.1 0 (by decide)
  have ho1 := hS.1 1 (by decide)
  have ho2 := hS.1 2 (by decide)
  have ho3 := hS.1 3 (by decide)
  refine r_lload_n hX dX2_withMoments_0 rfl rfl ?_
  refine r_lstore_n hX dX2_withMoments_1 rfl (by decide) rfl ?_
  refine r_iconstZ hX dX2_withMoments_2 ?_
  refine r_istore hX dX2_withMoments_3 (by decide) rfl ?_
  refine r_iload hX dX2_withMoments_5 rfl ?_
  refine r_aload_n hX dX2_withMoments_7 rfl rfl ?_
  refine r_get hX kf_X2_13 0 rfl rfl dX2_withMoments_8 ?_
  refine r_alen (v := iZ 4) hX 2 1 rfl rfl rfl dX2_withMoments_11 ?_
  refine r_icmp_geZ (tgt := 47) hX dX2_withMoments_12 (by decide) (by decide) (by decide) (fun q => absurd q (by decide)) (fun _ => ?_)
  refine r_lload_n hX dX2_withMoments_15 rfl rfl ?_
  refine r_aload_n hX dX2_withMoments_16 rfl rfl ?_
  refine r_iload hX dX2_withMoments_17 rfl ?_
  refine r_iconstZ hX dX2_withMoments_19 ?_
  refine r_callV hX (z_X2_ofMoment_s ad cs S T rest hS _ 0 (by decide) (by decide)) kv_X2_376 0 rfl rfl rfl rfl (Nat.le_of_ble_eq_true rfl) ⟨(Nat.le_of_ble_eq_true rfl), (Nat.le_of_ble_eq_true rfl)⟩ ⟨(Nat.le_of_ble_eq_true rfl), (Nat.le_of_ble_eq_true rfl)⟩ dX2_withMoments_20 (fun _ _ z => False.elim z) (fun v9 ws9 h1 => ?_)
  obtain ⟨rfl, hw9⟩ := h1
  subst ws9
  dsimp only [mPush]
  refine r_i2lZ hX dX2_withMoments_23 (by omega) ?_
  refine r_callS hX (z_X2_added _ _ _ _) ks_X2_247 rfl rfl (Nat.le_of_ble_eq_true rfl) ⟨(Nat.le_of_ble_eq_true rfl), (Nat.le_of_ble_eq_true rfl)⟩ ⟨(Nat.le_of_ble_eq_true rfl), (Nat.le_of_ble_eq_true rfl)⟩ dX2_withMoments_24 (fun _ _ z => False.elim z) (fun v9 ws9 h2 => ?_)
  obtain ⟨rfl, hw9⟩ := h2
  subst ws9
  dsimp only [mPush]
  refine r_lstore_n hX dX2_withMoments_27 rfl (by decide) rfl ?_
  refine r_lload_n hX dX2_withMoments_28 rfl rfl ?_
  refine r_aload_n hX dX2_withMoments_29 rfl rfl ?_
  refine r_iload hX dX2_withMoments_30 rfl ?_
  refine r_iconstZ hX dX2_withMoments_32 ?_
  refine r_callV hX (z_X2_ofMoment_n ad cs S T rest hS _ 0 (by decide) (by decide)) kv_X2_376 0 rfl rfl rfl rfl (Nat.le_of_ble_eq_true rfl) ⟨(Nat.le_of_ble_eq_true rfl), (Nat.le_of_ble_eq_true rfl)⟩ ⟨(Nat.le_of_ble_eq_true rfl), (Nat.le_of_ble_eq_true rfl)⟩ dX2_withMoments_33 (fun _ _ z => False.elim z) (fun v9 ws9 h3 => ?_)
  obtain ⟨rfl, hw9⟩ := h3
  subst ws9
  dsimp only [mPush]
  refine r_i2lZ hX dX2_withMoments_36 (by omega) ?_
  refine r_callS hX (z_X2_added _ _ _ _) ks_X2_247 rfl rfl (Nat.le_of_ble_eq_true rfl) ⟨(Nat.le_of_ble_eq_true rfl), (Nat.le_of_ble_eq_true rfl)⟩ ⟨(Nat.le_of_ble_eq_true rfl), (Nat.le_of_ble_eq_true rfl)⟩ dX2_withMoments_37 (fun _ _ z => False.elim z) (fun v9 ws9 h4 => ?_)
  obtain ⟨rfl, hw9⟩ := h4
  subst ws9
  dsimp only [mPush]
  refine r_lstore_n hX dX2_withMoments_40 rfl (by decide) rfl ?_
  refine r_iincZ (z := 1) (y := 1) hX dX2_withMoments_41 rfl (by decide) rfl rfl ?_
  refine r_goto (tgt := 5) hX dX2_withMoments_44 (by decide) ?_
  refine r_iload hX dX2_withMoments_5 rfl ?_
  refine r_aload_n hX dX2_withMoments_7 rfl rfl ?_
  refine r_get hX kf_X2_13 0 rfl rfl dX2_withMoments_8 ?_
  refine r_alen (v := iZ 4) hX 2 1 rfl rfl rfl dX2_withMoments_11 ?_
  refine r_icmp_geZ (tgt := 47) hX dX2_withMoments_12 (by decide) (by decide) (by decide) (fun q => absurd q (by decide)) (fun _ => ?_)
  refine r_lload_n hX dX2_withMoments_15 rfl rfl ?_
  refine r_aload_n hX dX2_withMoments_16 rfl rfl ?_
  refine r_iload hX dX2_withMoments_17 rfl ?_
  refine r_iconstZ hX dX2_withMoments_19 ?_
  refine r_callV hX (z_X2_ofMoment_s ad cs S T rest hS _ 1 (by decide) (by decide)) kv_X2_376 0 rfl rfl rfl rfl (Nat.le_of_ble_eq_true rfl) ⟨(Nat.le_of_ble_eq_true rfl), (Nat.le_of_ble_eq_true rfl)⟩ ⟨(Nat.le_of_ble_eq_true rfl), (Nat.le_of_ble_eq_true rfl)⟩ dX2_withMoments_20 (fun _ _ z => False.elim z) (fun v9 ws9 h5 => ?_)
  obtain ⟨rfl, hw9⟩ := h5
  subst ws9
  dsimp only [mPush]
  refine r_i2lZ hX dX2_withMoments_23 (by omega) ?_
  refine r_callS hX (z_X2_added _ _ _ _) ks_X2_247 rfl rfl (Nat.le_of_ble_eq_true rfl) ⟨(Nat.le_of_ble_eq_true rfl), (Nat.le_of_ble_eq_true rfl)⟩ ⟨(Nat.le_of_ble_eq_true rfl), (Nat.le_of_ble_eq_true rfl)⟩ dX2_withMoments_24 (fun _ _ z => False.elim z) (fun v9 ws9 h6 => ?_)
  obtain ⟨rfl, hw9⟩ := h6
  subst ws9
  dsimp only [mPush]
  refine r_lstore_n hX dX2_withMoments_27 rfl (by decide) rfl ?_
  refine r_lload_n hX dX2_withMoments_28 rfl rfl ?_
  refine r_aload_n hX dX2_withMoments_29 rfl rfl ?_
  refine r_iload hX dX2_withMoments_30 rfl ?_
  refine r_iconstZ hX dX2_withMoments_32 ?_
  refine r_callV hX (z_X2_ofMoment_n ad cs S T rest hS _ 1 (by decide) (by decide)) kv_X2_376 0 rfl rfl rfl rfl (Nat.le_of_ble_eq_true rfl) ⟨(Nat.le_of_ble_eq_true rfl), (Nat.le_of_ble_eq_true rfl)⟩ ⟨(Nat.le_of_ble_eq_true rfl), (Nat.le_of_ble_eq_true rfl)⟩ dX2_withMoments_33 (fun _ _ z => False.elim z) (fun v9 ws9 h7 => ?_)
  obtain ⟨rfl, hw9⟩ := h7
  subst ws9
  dsimp only [mPush]
  refine r_i2lZ hX dX2_withMoments_36 (by omega) ?_
  refine r_callS hX (z_X2_added _ _ _ _) ks_X2_247 rfl rfl (Nat.le_of_ble_eq_true rfl) ⟨(Nat.le_of_ble_eq_true rfl), (Nat.le_of_ble_eq_true rfl)⟩ ⟨(Nat.le_of_ble_eq_true rfl), (Nat.le_of_ble_eq_true rfl)⟩ dX2_withMoments_37 (fun _ _ z => False.elim z) (fun v9 ws9 h8 => ?_)
  obtain ⟨rfl, hw9⟩ := h8
  subst ws9
  dsimp only [mPush]
  refine r_lstore_n hX dX2_withMoments_40 rfl (by decide) rfl ?_
  refine r_iincZ (z := 1) (y := 2) hX dX2_withMoments_41 rfl (by decide) rfl rfl ?_
  refine r_goto (tgt := 5) hX dX2_withMoments_44 (by decide) ?_
  refine r_iload hX dX2_withMoments_5 rfl ?_
  refine r_aload_n hX dX2_withMoments_7 rfl rfl ?_
  refine r_get hX kf_X2_13 0 rfl rfl dX2_withMoments_8 ?_
  refine r_alen (v := iZ 4) hX 2 1 rfl rfl rfl dX2_withMoments_11 ?_
  refine r_icmp_geZ (tgt := 47) hX dX2_withMoments_12 (by decide) (by decide) (by decide) (fun q => absurd q (by decide)) (fun _ => ?_)
  refine r_lload_n hX dX2_withMoments_15 rfl rfl ?_
  refine r_aload_n hX dX2_withMoments_16 rfl rfl ?_
  refine r_iload hX dX2_withMoments_17 rfl ?_
  refine r_iconstZ hX dX2_withMoments_19 ?_
  refine r_callV hX (z_X2_ofMoment_s ad cs S T rest hS _ 2 (by decide) (by decide)) kv_X2_376 0 rfl rfl rfl rfl (Nat.le_of_ble_eq_true rfl) ⟨(Nat.le_of_ble_eq_true rfl), (Nat.le_of_ble_eq_true rfl)⟩ ⟨(Nat.le_of_ble_eq_true rfl), (Nat.le_of_ble_eq_true rfl)⟩ dX2_withMoments_20 (fun _ _ z => False.elim z) (fun v9 ws9 h9 => ?_)
  obtain ⟨rfl, hw9⟩ := h9
  subst ws9
  dsimp only [mPush]
  refine r_i2lZ hX dX2_withMoments_23 (by omega) ?_
  refine r_callS hX (z_X2_added _ _ _ _) ks_X2_247 rfl rfl (Nat.le_of_ble_eq_true rfl) ⟨(Nat.le_of_ble_eq_true rfl), (Nat.le_of_ble_eq_true rfl)⟩ ⟨(Nat.le_of_ble_eq_true rfl), (Nat.le_of_ble_eq_true rfl)⟩ dX2_withMoments_24 (fun _ _ z => False.elim z) (fun v9 ws9 h10 => ?_)
  obtain ⟨rfl, hw9⟩ := h10
  subst ws9
  dsimp only [mPush]
  refine r_lstore_n hX dX2_withMoments_27 rfl (by decide) rfl ?_
  refine r_lload_n hX dX2_withMoments_28 rfl rfl ?_
  refine r_aload_n hX dX2_withMoments_29 rfl rfl ?_
  refine r_iload hX dX2_withMoments_30 rfl ?_
  refine r_iconstZ hX dX2_withMoments_32 ?_
  refine r_callV hX (z_X2_ofMoment_n ad cs S T rest hS _ 2 (by decide) (by decide)) kv_X2_376 0 rfl rfl rfl rfl (Nat.le_of_ble_eq_true rfl) ⟨(Nat.le_of_ble_eq_true rfl), (Nat.le_of_ble_eq_true rfl)⟩ ⟨(Nat.le_of_ble_eq_true rfl), (Nat.le_of_ble_eq_true rfl)⟩ dX2_withMoments_33 (fun _ _ z => False.elim z) (fun v9 ws9 h11 => ?_)
  obtain ⟨rfl, hw9⟩ := h11
  subst ws9
  dsimp only [mPush]
  refine r_i2lZ hX dX2_withMoments_36 (by omega) ?_
  refine r_callS hX (z_X2_added _ _ _ _) ks_X2_247 rfl rfl (Nat.le_of_ble_eq_true rfl) ⟨(Nat.le_of_ble_eq_true rfl), (Nat.le_of_ble_eq_true rfl)⟩ ⟨(Nat.le_of_ble_eq_true rfl), (Nat.le_of_ble_eq_true rfl)⟩ dX2_withMoments_37 (fun _ _ z => False.elim z) (fun v9 ws9 h12 => ?_)
  obtain ⟨rfl, hw9⟩ := h12
  subst ws9
  dsimp only [mPush]
  refine r_lstore_n hX dX2_withMoments_40 rfl (by decide) rfl ?_
  refine r_iincZ (z := 1) (y := 3) hX dX2_withMoments_41 rfl (by decide) rfl rfl ?_
  refine r_goto (tgt := 5) hX dX2_withMoments_44 (by decide) ?_
  refine r_iload hX dX2_withMoments_5 rfl ?_
  refine r_aload_n hX dX2_withMoments_7 rfl rfl ?_
  refine r_get hX kf_X2_13 0 rfl rfl dX2_withMoments_8 ?_
  refine r_alen (v := iZ 4) hX 2 1 rfl rfl rfl dX2_withMoments_11 ?_
  refine r_icmp_geZ (tgt := 47) hX dX2_withMoments_12 (by decide) (by decide) (by decide) (fun q => absurd q (by decide)) (fun _ => ?_)
  refine r_lload_n hX dX2_withMoments_15 rfl rfl ?_
  refine r_aload_n hX dX2_withMoments_16 rfl rfl ?_
  refine r_iload hX dX2_withMoments_17 rfl ?_
  refine r_iconstZ hX dX2_withMoments_19 ?_
  refine r_callV hX (z_X2_ofMoment_s ad cs S T rest hS _ 3 (by decide) (by decide)) kv_X2_376 0 rfl rfl rfl rfl (Nat.le_of_ble_eq_true rfl) ⟨(Nat.le_of_ble_eq_true rfl), (Nat.le_of_ble_eq_true rfl)⟩ ⟨(Nat.le_of_ble_eq_true rfl), (Nat.le_of_ble_eq_true rfl)⟩ dX2_withMoments_20 (fun _ _ z => False.elim z) (fun v9 ws9 h13 => ?_)
  obtain ⟨rfl, hw9⟩ := h13
  subst ws9
  dsimp only [mPush]
  refine r_i2lZ hX dX2_withMoments_23 (by omega) ?_
  refine r_callS hX (z_X2_added _ _ _ _) ks_X2_247 rfl rfl (Nat.le_of_ble_eq_true rfl) ⟨(Nat.le_of_ble_eq_true rfl), (Nat.le_of_ble_eq_true rfl)⟩ ⟨(Nat.le_of_ble_eq_true rfl), (Nat.le_of_ble_eq_true rfl)⟩ dX2_withMoments_24 (fun _ _ z => False.elim z) (fun v9 ws9 h14 => ?_)
  obtain ⟨rfl, hw9⟩ := h14
  subst ws9
  dsimp only [mPush]
  refine r_lstore_n hX dX2_withMoments_27 rfl (by decide) rfl ?_
  refine r_lload_n hX dX2_withMoments_28 rfl rfl ?_
  refine r_aload_n hX dX2_withMoments_29 rfl rfl ?_
  refine r_iload hX dX2_withMoments_30 rfl ?_
  refine r_iconstZ hX dX2_withMoments_32 ?_
  refine r_callV hX (z_X2_ofMoment_n ad cs S T rest hS _ 3 (by decide) (by decide)) kv_X2_376 0 rfl rfl rfl rfl (Nat.le_of_ble_eq_true rfl) ⟨(Nat.le_of_ble_eq_true rfl), (Nat.le_of_ble_eq_true rfl)⟩ ⟨(Nat.le_of_ble_eq_true rfl), (Nat.le_of_ble_eq_true rfl)⟩ dX2_withMoments_33 (fun _ _ z => False.elim z) (fun v9 ws9 h15 => ?_)
  obtain ⟨rfl, hw9⟩ := h15
  subst ws9
  dsimp only [mPush]
  refine r_i2lZ hX dX2_withMoments_36 (by omega) ?_
  refine r_callS hX (z_X2_added _ _ _ _) ks_X2_247 rfl rfl (Nat.le_of_ble_eq_true rfl) ⟨(Nat.le_of_ble_eq_true rfl), (Nat.le_of_ble_eq_true rfl)⟩ ⟨(Nat.le_of_ble_eq_true rfl), (Nat.le_of_ble_eq_true rfl)⟩ dX2_withMoments_37 (fun _ _ z => False.elim z) (fun v9 ws9 h16 => ?_)
  obtain ⟨rfl, hw9⟩ := h16
  subst ws9
  dsimp only [mPush]
  refine r_lstore_n hX dX2_withMoments_40 rfl (by decide) rfl ?_
  refine r_iincZ (z := 1) (y := 4) hX dX2_withMoments_41 rfl (by decide) rfl rfl ?_
  refine r_goto (tgt := 5) hX dX2_withMoments_44 (by decide) ?_
  refine r_iload hX dX2_withMoments_5 rfl ?_
  refine r_aload_n hX dX2_withMoments_7 rfl rfl ?_
  refine r_get hX kf_X2_13 0 rfl rfl dX2_withMoments_8 ?_
  refine r_alen (v := iZ 4) hX 2 1 rfl rfl rfl dX2_withMoments_11 ?_
  refine r_icmp_geZ (tgt := 47) hX dX2_withMoments_12 (by decide) (by decide) (by decide) (fun _ => ?_) (fun q => absurd (by decide) q)
  refine r_lload_n hX dX2_withMoments_47 rfl rfl ?_
  refine r_lret hX hE dX2_withMoments_48 (Nat.le_of_ble_eq_true rfl) (Nat.le_of_ble_eq_true rfl) ⟨zl ?_, rfl⟩
  rfl
theorem zDP_b {s n o w : Int} (hs : -21915 ≤ s / 86400 ∧ s / 86400 ≤ 22279) (hn : 0 ≤ n ∧ n ≤ 999999999) (ho : -64800 ≤ o ∧ o ≤ 64800) : -2147483648 ≤ zDP s n o w ∧ zDP s n o w ≤ 2147483647 := by
  have h1 := YR_spec hs.1 hs.2
  have h2 := MO_b (s / 86400)
  have h3 := DOM_b hs.1 hs.2
  have h4 := dm_b (YR (s / 86400)) (MO (s / 86400))
  have h5 := FO_b (y := YR (s / 86400)) (by omega)
  unfold zDP
  repeat' split
  all_goals omega
theorem zCP_b {s n o w : Int} (hs : -21915 ≤ s / 86400 ∧ s / 86400 ≤ 22279) (hn : 0 ≤ n ∧ n ≤ 999999999) (ho : -64800 ≤ o ∧ o ≤ 64800) : -2147483648 ≤ zCP s n o w ∧ zCP s n o w ≤ 2147483647 := by
  unfold zCP
  repeat' split
  all_goals omega
set_option maxHeartbeats 4000000 in
set_option maxRecDepth 20000 in
theorem z_X2_withDates (ad : Nat → Nat) (cs : ClassId × ClassId × ClassId) (S : mS) (T : mT2) (rest : va_W) (hS : sWF S) (s : Int)  : mCt (mTy cs) yX2_withDates cX2_withDates 7 (some .long) ⟨5, 0, 0, 107⟩ [.ref (ad 0), .long (lZ s)] (mWd ad cs (mKof S T) rest) (fun v ws' => v = some (.long (lZ (dDat S s))) ∧ ws' = (mWd ad cs (mKof S T) rest)) mNo := by
  refine mCt.of (by decide +kernel) (Nat.le_of_ble_eq_true rfl) (fun X hX hE => ?_)
  replace hX : mOK X RX2 cX2_withDates 7 ⟨5, 0, 0, 107⟩ [] (mTy cs) := hX
  have hr0 := zrg hS (d := 0) (by decide)
  have hr1 := zrg hS (d := 1) (by decide)
  have hr2 := zrg hS (d := 2) (by decide)
  have hr3 := zrg hS (d := 3) (by decide)
  have hr4 := zrg hS (d := 4) (by decide)
  have hr5 := zrg hS (d := 5) (by decide)
  have hr6 := zrg hS (d := 6) (by decide)
  have hs0 := hS.2.2.2.1 0 (by decide)
  have hs1 := hS.2.2.2.1 1 (by decide)
  have hs2 := hS.2.2.2.1 2 (by decide)
  have hs3 := hS.2.2.2.1 3 (by decide)
  have hc4 := hS.2.2.2.2 4 (by decide) (by decide)
  have hc5 := hS.2.2.2.2 5 (by decide) (by decide)
  have hc6 := hS.2.2.2.2 6 (by decide) (by decide)
  have hbD0 : ∀ w : Int, -2147483648 ≤ zDP (sse S 0) (sna S 0) (sow S 0) w ∧ zDP (sse S 0) (sna S 0) (sow S 0) w ≤ 2147483647 := by
    exact fun w => zDP_b (by omega) (by omega) (by omega)
  have hbD1 : ∀ w : Int, -2147483648 ≤ zDP (sse S 1) (sna S 1) (sow S 1) w ∧ zDP (sse S 1) (sna S 1) (sow S 1) w ≤ 2147483647 := by
    exact fun w => zDP_b (by omega) (by omega) (by omega)
  have hbD2 : ∀ w : Int, -2147483648 ≤ zDP (sse S 2) (sna S 2) (sow S 2) w ∧ zDP (sse S 2) (sna S 2) (sow S 2) w ≤ 2147483647 := by
    exact fun w => zDP_b (by omega) (by omega) (by omega)
  have hbD3 : ∀ w : Int, -2147483648 ≤ zDP (sse S 3) (sna S 3) (sow S 3) w ∧ zDP (sse S 3) (sna S 3) (sow S 3) w ≤ 2147483647 := by
    exact fun w => zDP_b (by omega) (by omega) (by omega)
  refine r_lload_n hX dX2_withDates_0 rfl rfl ?_
  refine r_lstore_n hX dX2_withDates_1 rfl (by decide) rfl ?_
  refine r_iconstZ hX dX2_withDates_2 ?_
  refine r_istore hX dX2_withDates_3 (by decide) rfl ?_
  refine r_iload hX dX2_withDates_5 rfl ?_
  refine r_aload_n hX dX2_withDates_7 rfl rfl ?_
  refine r_get hX kf_X2_20 0 rfl rfl dX2_withDates_8 ?_
  refine r_alen (v := iZ 4) hX 3 2 rfl rfl rfl dX2_withDates_11 ?_
  refine r_icmp_geZ (tgt := 57) hX dX2_withDates_12 (by decide) (by decide) (by decide) (fun q => absurd q (by decide)) (fun _ => ?_)
  refine r_iconstZ hX dX2_withDates_15 ?_
  refine r_istore hX dX2_withDates_16 (by decide) rfl ?_
  refine r_iload hX dX2_withDates_18 rfl ?_
  refine r_bipushZ hX dX2_withDates_20 (by decide) ?_
  refine r_icmp_geZ (tgt := 51) hX dX2_withDates_22 (by decide) (by decide) (by decide) (fun q => absurd q (by decide)) (fun _ => ?_)
  refine r_lload_n hX dX2_withDates_25 rfl rfl ?_
  refine r_aload_n hX dX2_withDates_26 rfl rfl ?_
  refine r_get hX kf_X2_20 0 rfl rfl dX2_withDates_27 ?_
  refine r_iload hX dX2_withDates_30 rfl ?_
  refine r_callS hX (z_X2_at_ok ad cs _ 3 _ 4 0 rfl (by decide) _ 0 (by omega) (by decide)) ks_X2_84 rfl rfl (Nat.le_of_ble_eq_true rfl) ⟨(Nat.le_of_ble_eq_true rfl), (Nat.le_of_ble_eq_true rfl)⟩ ⟨(Nat.le_of_ble_eq_true rfl), (Nat.le_of_ble_eq_true rfl)⟩ dX2_withDates_32 (fun _ _ z => False.elim z) (fun v9 ws9 h1 => ?_)
  obtain ⟨rfl, hw9⟩ := h1
  subst ws9
  dsimp only [mPush]
  refine r_iload hX dX2_withDates_35 rfl ?_
  refine r_callS hX (z_X2_datePart _ _ (0 + 5) _ _ _ _ (zWd_loc (d := 0) (by decide)) (zrg hS (by decide)) _ (by omega) (by omega)) ks_X2_175 rfl rfl (Nat.le_of_ble_eq_true rfl) ⟨(Nat.le_of_ble_eq_true rfl), (Nat.le_of_ble_eq_true rfl)⟩ ⟨(Nat.le_of_ble_eq_true rfl), (Nat.le_of_ble_eq_true rfl)⟩ dX2_withDates_37 (fun _ _ z => False.elim z) (fun v9 ws9 h2 => ?_)
  obtain ⟨rfl, hw9⟩ := h2
  subst ws9
  dsimp only [mPush]
  refine r_i2lZ hX dX2_withDates_40 (hbD0 _) ?_
  refine r_callS hX (z_X2_added _ _ _ _) ks_X2_247 rfl rfl (Nat.le_of_ble_eq_true rfl) ⟨(Nat.le_of_ble_eq_true rfl), (Nat.le_of_ble_eq_true rfl)⟩ ⟨(Nat.le_of_ble_eq_true rfl), (Nat.le_of_ble_eq_true rfl)⟩ dX2_withDates_41 (fun _ _ z => False.elim z) (fun v9 ws9 h3 => ?_)
  obtain ⟨rfl, hw9⟩ := h3
  subst ws9
  dsimp only [mPush]
  refine r_lstore_n hX dX2_withDates_44 rfl (by decide) rfl ?_
  refine r_iincZ (z := 1) (y := 1) hX dX2_withDates_45 rfl (by decide) rfl rfl ?_
  refine r_goto (tgt := 18) hX dX2_withDates_48 (by decide) ?_
  refine r_iload hX dX2_withDates_18 rfl ?_
  refine r_bipushZ hX dX2_withDates_20 (by decide) ?_
  refine r_icmp_geZ (tgt := 51) hX dX2_withDates_22 (by decide) (by decide) (by decide) (fun q => absurd q (by decide)) (fun _ => ?_)
  refine r_lload_n hX dX2_withDates_25 rfl rfl ?_
  refine r_aload_n hX dX2_withDates_26 rfl rfl ?_
  refine r_get hX kf_X2_20 0 rfl rfl dX2_withDates_27 ?_
  refine r_iload hX dX2_withDates_30 rfl ?_
  refine r_callS hX (z_X2_at_ok ad cs _ 3 _ 4 0 rfl (by decide) _ 0 (by omega) (by decide)) ks_X2_84 rfl rfl (Nat.le_of_ble_eq_true rfl) ⟨(Nat.le_of_ble_eq_true rfl), (Nat.le_of_ble_eq_true rfl)⟩ ⟨(Nat.le_of_ble_eq_true rfl), (Nat.le_of_ble_eq_true rfl)⟩ dX2_withDates_32 (fun _ _ z => False.elim z) (fun v9 ws9 h4 => ?_)
  obtain ⟨rfl, hw9⟩ := h4
  subst ws9
  dsimp only [mPush]
  refine r_iload hX dX2_withDates_35 rfl ?_
  refine r_callS hX (z_X2_datePart _ _ (0 + 5) _ _ _ _ (zWd_loc (d := 0) (by decide)) (zrg hS (by decide)) _ (by omega) (by omega)) ks_X2_175 rfl rfl (Nat.le_of_ble_eq_true rfl) ⟨(Nat.le_of_ble_eq_true rfl), (Nat.le_of_ble_eq_true rfl)⟩ ⟨(Nat.le_of_ble_eq_true rfl), (Nat.le_of_ble_eq_true rfl)⟩ dX2_withDates_37 (fun _ _ z => False.elim z) (fun v9 ws9 h5 => ?_)
  obtain ⟨rfl, hw9⟩ := h5
  subst ws9
  dsimp only [mPush]
  refine r_i2lZ hX dX2_withDates_40 (hbD0 _) ?_
  refine r_callS hX (z_X2_added _ _ _ _) ks_X2_247 rfl rfl (Nat.le_of_ble_eq_true rfl) ⟨(Nat.le_of_ble_eq_true rfl), (Nat.le_of_ble_eq_true rfl)⟩ ⟨(Nat.le_of_ble_eq_true rfl), (Nat.le_of_ble_eq_true rfl)⟩ dX2_withDates_41 (fun _ _ z => False.elim z) (fun v9 ws9 h6 => ?_)
  obtain ⟨rfl, hw9⟩ := h6
  subst ws9
  dsimp only [mPush]
  refine r_lstore_n hX dX2_withDates_44 rfl (by decide) rfl ?_
  refine r_iincZ (z := 1) (y := 2) hX dX2_withDates_45 rfl (by decide) rfl rfl ?_
  refine r_goto (tgt := 18) hX dX2_withDates_48 (by decide) ?_
  refine r_iload hX dX2_withDates_18 rfl ?_
  refine r_bipushZ hX dX2_withDates_20 (by decide) ?_
  refine r_icmp_geZ (tgt := 51) hX dX2_withDates_22 (by decide) (by decide) (by decide) (fun q => absurd q (by decide)) (fun _ => ?_)
  refine r_lload_n hX dX2_withDates_25 rfl rfl ?_
  refine r_aload_n hX dX2_withDates_26 rfl rfl ?_
  refine r_get hX kf_X2_20 0 rfl rfl dX2_withDates_27 ?_
  refine r_iload hX dX2_withDates_30 rfl ?_
  refine r_callS hX (z_X2_at_ok ad cs _ 3 _ 4 0 rfl (by decide) _ 0 (by omega) (by decide)) ks_X2_84 rfl rfl (Nat.le_of_ble_eq_true rfl) ⟨(Nat.le_of_ble_eq_true rfl), (Nat.le_of_ble_eq_true rfl)⟩ ⟨(Nat.le_of_ble_eq_true rfl), (Nat.le_of_ble_eq_true rfl)⟩ dX2_withDates_32 (fun _ _ z => False.elim z) (fun v9 ws9 h7 => ?_)
  obtain ⟨rfl, hw9⟩ := h7
  subst ws9
  dsimp only [mPush]
  refine r_iload hX dX2_withDates_35 rfl ?_
  refine r_callS hX (z_X2_datePart _ _ (0 + 5) _ _ _ _ (zWd_loc (d := 0) (by decide)) (zrg hS (by decide)) _ (by omega) (by omega)) ks_X2_175 rfl rfl (Nat.le_of_ble_eq_true rfl) ⟨(Nat.le_of_ble_eq_true rfl), (Nat.le_of_ble_eq_true rfl)⟩ ⟨(Nat.le_of_ble_eq_true rfl), (Nat.le_of_ble_eq_true rfl)⟩ dX2_withDates_37 (fun _ _ z => False.elim z) (fun v9 ws9 h8 => ?_)
  obtain ⟨rfl, hw9⟩ := h8
  subst ws9
  dsimp only [mPush]
  refine r_i2lZ hX dX2_withDates_40 (hbD0 _) ?_
  refine r_callS hX (z_X2_added _ _ _ _) ks_X2_247 rfl rfl (Nat.le_of_ble_eq_true rfl) ⟨(Nat.le_of_ble_eq_true rfl), (Nat.le_of_ble_eq_true rfl)⟩ ⟨(Nat.le_of_ble_eq_true rfl), (Nat.le_of_ble_eq_true rfl)⟩ dX2_withDates_41 (fun _ _ z => False.elim z) (fun v9 ws9 h9 => ?_)
  obtain ⟨rfl, hw9⟩ := h9
  subst ws9
  dsimp only [mPush]
  refine r_lstore_n hX dX2_withDates_44 rfl (by decide) rfl ?_
  refine r_iincZ (z := 1) (y := 3) hX dX2_withDates_45 rfl (by decide) rfl rfl ?_
  refine r_goto (tgt := 18) hX dX2_withDates_48 (by decide) ?_
  refine r_iload hX dX2_withDates_18 rfl ?_
  refine r_bipushZ hX dX2_withDates_20 (by decide) ?_
  refine r_icmp_geZ (tgt := 51) hX dX2_withDates_22 (by decide) (by decide) (by decide) (fun q => absurd q (by decide)) (fun _ => ?_)
  refine r_lload_n hX dX2_withDates_25 rfl rfl ?_
  refine r_aload_n hX dX2_withDates_26 rfl rfl ?_
  refine r_get hX kf_X2_20 0 rfl rfl dX2_withDates_27 ?_
  refine r_iload hX dX2_withDates_30 rfl ?_
  refine r_callS hX (z_X2_at_ok ad cs _ 3 _ 4 0 rfl (by decide) _ 0 (by omega) (by decide)) ks_X2_84 rfl rfl (Nat.le_of_ble_eq_true rfl) ⟨(Nat.le_of_ble_eq_true rfl), (Nat.le_of_ble_eq_true rfl)⟩ ⟨(Nat.le_of_ble_eq_true rfl), (Nat.le_of_ble_eq_true rfl)⟩ dX2_withDates_32 (fun _ _ z => False.elim z) (fun v9 ws9 h10 => ?_)
  obtain ⟨rfl, hw9⟩ := h10
  subst ws9
  dsimp only [mPush]
  refine r_iload hX dX2_withDates_35 rfl ?_
  refine r_callS hX (z_X2_datePart _ _ (0 + 5) _ _ _ _ (zWd_loc (d := 0) (by decide)) (zrg hS (by decide)) _ (by omega) (by omega)) ks_X2_175 rfl rfl (Nat.le_of_ble_eq_true rfl) ⟨(Nat.le_of_ble_eq_true rfl), (Nat.le_of_ble_eq_true rfl)⟩ ⟨(Nat.le_of_ble_eq_true rfl), (Nat.le_of_ble_eq_true rfl)⟩ dX2_withDates_37 (fun _ _ z => False.elim z) (fun v9 ws9 h11 => ?_)
  obtain ⟨rfl, hw9⟩ := h11
  subst ws9
  dsimp only [mPush]
  refine r_i2lZ hX dX2_withDates_40 (hbD0 _) ?_
  refine r_callS hX (z_X2_added _ _ _ _) ks_X2_247 rfl rfl (Nat.le_of_ble_eq_true rfl) ⟨(Nat.le_of_ble_eq_true rfl), (Nat.le_of_ble_eq_true rfl)⟩ ⟨(Nat.le_of_ble_eq_true rfl), (Nat.le_of_ble_eq_true rfl)⟩ dX2_withDates_41 (fun _ _ z => False.elim z) (fun v9 ws9 h12 => ?_)
  obtain ⟨rfl, hw9⟩ := h12
  subst ws9
  dsimp only [mPush]
  refine r_lstore_n hX dX2_withDates_44 rfl (by decide) rfl ?_
  refine r_iincZ (z := 1) (y := 4) hX dX2_withDates_45 rfl (by decide) rfl rfl ?_
  refine r_goto (tgt := 18) hX dX2_withDates_48 (by decide) ?_
  refine r_iload hX dX2_withDates_18 rfl ?_
  refine r_bipushZ hX dX2_withDates_20 (by decide) ?_
  refine r_icmp_geZ (tgt := 51) hX dX2_withDates_22 (by decide) (by decide) (by decide) (fun q => absurd q (by decide)) (fun _ => ?_)
  refine r_lload_n hX dX2_withDates_25 rfl rfl ?_
  refine r_aload_n hX dX2_withDates_26 rfl rfl ?_
  refine r_get hX kf_X2_20 0 rfl rfl dX2_withDates_27 ?_
  refine r_iload hX dX2_withDates_30 rfl ?_
  refine r_callS hX (z_X2_at_ok ad cs _ 3 _ 4 0 rfl (by decide) _ 0 (by omega) (by decide)) ks_X2_84 rfl rfl (Nat.le_of_ble_eq_true rfl) ⟨(Nat.le_of_ble_eq_true rfl), (Nat.le_of_ble_eq_true rfl)⟩ ⟨(Nat.le_of_ble_eq_true rfl), (Nat.le_of_ble_eq_true rfl)⟩ dX2_withDates_32 (fun _ _ z => False.elim z) (fun v9 ws9 h13 => ?_)
  obtain ⟨rfl, hw9⟩ := h13
  subst ws9
  dsimp only [mPush]
  refine r_iload hX dX2_withDates_35 rfl ?_
  refine r_callS hX (z_X2_datePart _ _ (0 + 5) _ _ _ _ (zWd_loc (d := 0) (by decide)) (zrg hS (by decide)) _ (by omega) (by omega)) ks_X2_175 rfl rfl (Nat.le_of_ble_eq_true rfl) ⟨(Nat.le_of_ble_eq_true rfl), (Nat.le_of_ble_eq_true rfl)⟩ ⟨(Nat.le_of_ble_eq_true rfl), (Nat.le_of_ble_eq_true rfl)⟩ dX2_withDates_37 (fun _ _ z => False.elim z) (fun v9 ws9 h14 => ?_)
  obtain ⟨rfl, hw9⟩ := h14
  subst ws9
  dsimp only [mPush]
  refine r_i2lZ hX dX2_withDates_40 (hbD0 _) ?_
  refine r_callS hX (z_X2_added _ _ _ _) ks_X2_247 rfl rfl (Nat.le_of_ble_eq_true rfl) ⟨(Nat.le_of_ble_eq_true rfl), (Nat.le_of_ble_eq_true rfl)⟩ ⟨(Nat.le_of_ble_eq_true rfl), (Nat.le_of_ble_eq_true rfl)⟩ dX2_withDates_41 (fun _ _ z => False.elim z) (fun v9 ws9 h15 => ?_)
  obtain ⟨rfl, hw9⟩ := h15
  subst ws9
  dsimp only [mPush]
  refine r_lstore_n hX dX2_withDates_44 rfl (by decide) rfl ?_
  refine r_iincZ (z := 1) (y := 5) hX dX2_withDates_45 rfl (by decide) rfl rfl ?_
  refine r_goto (tgt := 18) hX dX2_withDates_48 (by decide) ?_
  refine r_iload hX dX2_withDates_18 rfl ?_
  refine r_bipushZ hX dX2_withDates_20 (by decide) ?_
  refine r_icmp_geZ (tgt := 51) hX dX2_withDates_22 (by decide) (by decide) (by decide) (fun q => absurd q (by decide)) (fun _ => ?_)
  refine r_lload_n hX dX2_withDates_25 rfl rfl ?_
  refine r_aload_n hX dX2_withDates_26 rfl rfl ?_
  refine r_get hX kf_X2_20 0 rfl rfl dX2_withDates_27 ?_
  refine r_iload hX dX2_withDates_30 rfl ?_
  refine r_callS hX (z_X2_at_ok ad cs _ 3 _ 4 0 rfl (by decide) _ 0 (by omega) (by decide)) ks_X2_84 rfl rfl (Nat.le_of_ble_eq_true rfl) ⟨(Nat.le_of_ble_eq_true rfl), (Nat.le_of_ble_eq_true rfl)⟩ ⟨(Nat.le_of_ble_eq_true rfl), (Nat.le_of_ble_eq_true rfl)⟩ dX2_withDates_32 (fun _ _ z => False.elim z) (fun v9 ws9 h16 => ?_)
  obtain ⟨rfl, hw9⟩ := h16
  subst ws9
  dsimp only [mPush]
  refine r_iload hX dX2_withDates_35 rfl ?_
  refine r_callS hX (z_X2_datePart _ _ (0 + 5) _ _ _ _ (zWd_loc (d := 0) (by decide)) (zrg hS (by decide)) _ (by omega) (by omega)) ks_X2_175 rfl rfl (Nat.le_of_ble_eq_true rfl) ⟨(Nat.le_of_ble_eq_true rfl), (Nat.le_of_ble_eq_true rfl)⟩ ⟨(Nat.le_of_ble_eq_true rfl), (Nat.le_of_ble_eq_true rfl)⟩ dX2_withDates_37 (fun _ _ z => False.elim z) (fun v9 ws9 h17 => ?_)
  obtain ⟨rfl, hw9⟩ := h17
  subst ws9
  dsimp only [mPush]
  refine r_i2lZ hX dX2_withDates_40 (hbD0 _) ?_
  refine r_callS hX (z_X2_added _ _ _ _) ks_X2_247 rfl rfl (Nat.le_of_ble_eq_true rfl) ⟨(Nat.le_of_ble_eq_true rfl), (Nat.le_of_ble_eq_true rfl)⟩ ⟨(Nat.le_of_ble_eq_true rfl), (Nat.le_of_ble_eq_true rfl)⟩ dX2_withDates_41 (fun _ _ z => False.elim z) (fun v9 ws9 h18 => ?_)
  obtain ⟨rfl, hw9⟩ := h18
  subst ws9
  dsimp only [mPush]
  refine r_lstore_n hX dX2_withDates_44 rfl (by decide) rfl ?_
  refine r_iincZ (z := 1) (y := 6) hX dX2_withDates_45 rfl (by decide) rfl rfl ?_
  refine r_goto (tgt := 18) hX dX2_withDates_48 (by decide) ?_
  refine r_iload hX dX2_withDates_18 rfl ?_
  refine r_bipushZ hX dX2_withDates_20 (by decide) ?_
  refine r_icmp_geZ (tgt := 51) hX dX2_withDates_22 (by decide) (by decide) (by decide) (fun q => absurd q (by decide)) (fun _ => ?_)
  refine r_lload_n hX dX2_withDates_25 rfl rfl ?_
  refine r_aload_n hX dX2_withDates_26 rfl rfl ?_
  refine r_get hX kf_X2_20 0 rfl rfl dX2_withDates_27 ?_
  refine r_iload hX dX2_withDates_30 rfl ?_
  refine r_callS hX (z_X2_at_ok ad cs _ 3 _ 4 0 rfl (by decide) _ 0 (by omega) (by decide)) ks_X2_84 rfl rfl (Nat.le_of_ble_eq_true rfl) ⟨(Nat.le_of_ble_eq_true rfl), (Nat.le_of_ble_eq_true rfl)⟩ ⟨(Nat.le_of_ble_eq_true rfl), (Nat.le_of_ble_eq_true rfl)⟩ dX2_withDates_32 (fun _ _ z => False.elim z) (fun v9 ws9 h19 => ?_)
  obtain ⟨rfl, hw9⟩ := h19
  subst ws9
  dsimp only [mPush]
  refine r_iload hX dX2_withDates_35 rfl ?_
  refine r_callS hX (z_X2_datePart _ _ (0 + 5) _ _ _ _ (zWd_loc (d := 0) (by decide)) (zrg hS (by decide)) _ (by omega) (by omega)) ks_X2_175 rfl rfl (Nat.le_of_ble_eq_true rfl) ⟨(Nat.le_of_ble_eq_true rfl), (Nat.le_of_ble_eq_true rfl)⟩ ⟨(Nat.le_of_ble_eq_true rfl), (Nat.le_of_ble_eq_true rfl)⟩ dX2_withDates_37 (fun _ _ z => False.elim z) (fun v9 ws9 h20 => ?_)
  obtain ⟨rfl, hw9⟩ := h20
  subst ws9
  dsimp only [mPush]
  refine r_i2lZ hX dX2_withDates_40 (hbD0 _) ?_
  refine r_callS hX (z_X2_added _ _ _ _) ks_X2_247 rfl rfl (Nat.le_of_ble_eq_true rfl) ⟨(Nat.le_of_ble_eq_true rfl), (Nat.le_of_ble_eq_true rfl)⟩ ⟨(Nat.le_of_ble_eq_true rfl), (Nat.le_of_ble_eq_true rfl)⟩ dX2_withDates_41 (fun _ _ z => False.elim z) (fun v9 ws9 h21 => ?_)
  obtain ⟨rfl, hw9⟩ := h21
  subst ws9
  dsimp only [mPush]
  refine r_lstore_n hX dX2_withDates_44 rfl (by decide) rfl ?_
  refine r_iincZ (z := 1) (y := 7) hX dX2_withDates_45 rfl (by decide) rfl rfl ?_
  refine r_goto (tgt := 18) hX dX2_withDates_48 (by decide) ?_
  refine r_iload hX dX2_withDates_18 rfl ?_
  refine r_bipushZ hX dX2_withDates_20 (by decide) ?_
  refine r_icmp_geZ (tgt := 51) hX dX2_withDates_22 (by decide) (by decide) (by decide) (fun q => absurd q (by decide)) (fun _ => ?_)
  refine r_lload_n hX dX2_withDates_25 rfl rfl ?_
  refine r_aload_n hX dX2_withDates_26 rfl rfl ?_
  refine r_get hX kf_X2_20 0 rfl rfl dX2_withDates_27 ?_
  refine r_iload hX dX2_withDates_30 rfl ?_
  refine r_callS hX (z_X2_at_ok ad cs _ 3 _ 4 0 rfl (by decide) _ 0 (by omega) (by decide)) ks_X2_84 rfl rfl (Nat.le_of_ble_eq_true rfl) ⟨(Nat.le_of_ble_eq_true rfl), (Nat.le_of_ble_eq_true rfl)⟩ ⟨(Nat.le_of_ble_eq_true rfl), (Nat.le_of_ble_eq_true rfl)⟩ dX2_withDates_32 (fun _ _ z => False.elim z) (fun v9 ws9 h22 => ?_)
  obtain ⟨rfl, hw9⟩ := h22
  subst ws9
  dsimp only [mPush]
  refine r_iload hX dX2_withDates_35 rfl ?_
  refine r_callS hX (z_X2_datePart _ _ (0 + 5) _ _ _ _ (zWd_loc (d := 0) (by decide)) (zrg hS (by decide)) _ (by omega) (by omega)) ks_X2_175 rfl rfl (Nat.le_of_ble_eq_true rfl) ⟨(Nat.le_of_ble_eq_true rfl), (Nat.le_of_ble_eq_true rfl)⟩ ⟨(Nat.le_of_ble_eq_true rfl), (Nat.le_of_ble_eq_true rfl)⟩ dX2_withDates_37 (fun _ _ z => False.elim z) (fun v9 ws9 h23 => ?_)
  obtain ⟨rfl, hw9⟩ := h23
  subst ws9
  dsimp only [mPush]
  refine r_i2lZ hX dX2_withDates_40 (hbD0 _) ?_
  refine r_callS hX (z_X2_added _ _ _ _) ks_X2_247 rfl rfl (Nat.le_of_ble_eq_true rfl) ⟨(Nat.le_of_ble_eq_true rfl), (Nat.le_of_ble_eq_true rfl)⟩ ⟨(Nat.le_of_ble_eq_true rfl), (Nat.le_of_ble_eq_true rfl)⟩ dX2_withDates_41 (fun _ _ z => False.elim z) (fun v9 ws9 h24 => ?_)
  obtain ⟨rfl, hw9⟩ := h24
  subst ws9
  dsimp only [mPush]
  refine r_lstore_n hX dX2_withDates_44 rfl (by decide) rfl ?_
  refine r_iincZ (z := 1) (y := 8) hX dX2_withDates_45 rfl (by decide) rfl rfl ?_
  refine r_goto (tgt := 18) hX dX2_withDates_48 (by decide) ?_
  refine r_iload hX dX2_withDates_18 rfl ?_
  refine r_bipushZ hX dX2_withDates_20 (by decide) ?_
  refine r_icmp_geZ (tgt := 51) hX dX2_withDates_22 (by decide) (by decide) (by decide) (fun q => absurd q (by decide)) (fun _ => ?_)
  refine r_lload_n hX dX2_withDates_25 rfl rfl ?_
  refine r_aload_n hX dX2_withDates_26 rfl rfl ?_
  refine r_get hX kf_X2_20 0 rfl rfl dX2_withDates_27 ?_
  refine r_iload hX dX2_withDates_30 rfl ?_
  refine r_callS hX (z_X2_at_ok ad cs _ 3 _ 4 0 rfl (by decide) _ 0 (by omega) (by decide)) ks_X2_84 rfl rfl (Nat.le_of_ble_eq_true rfl) ⟨(Nat.le_of_ble_eq_true rfl), (Nat.le_of_ble_eq_true rfl)⟩ ⟨(Nat.le_of_ble_eq_true rfl), (Nat.le_of_ble_eq_true rfl)⟩ dX2_withDates_32 (fun _ _ z => False.elim z) (fun v9 ws9 h25 => ?_)
  obtain ⟨rfl, hw9⟩ := h25
  subst ws9
  dsimp only [mPush]
  refine r_iload hX dX2_withDates_35 rfl ?_
  refine r_callS hX (z_X2_datePart _ _ (0 + 5) _ _ _ _ (zWd_loc (d := 0) (by decide)) (zrg hS (by decide)) _ (by omega) (by omega)) ks_X2_175 rfl rfl (Nat.le_of_ble_eq_true rfl) ⟨(Nat.le_of_ble_eq_true rfl), (Nat.le_of_ble_eq_true rfl)⟩ ⟨(Nat.le_of_ble_eq_true rfl), (Nat.le_of_ble_eq_true rfl)⟩ dX2_withDates_37 (fun _ _ z => False.elim z) (fun v9 ws9 h26 => ?_)
  obtain ⟨rfl, hw9⟩ := h26
  subst ws9
  dsimp only [mPush]
  refine r_i2lZ hX dX2_withDates_40 (hbD0 _) ?_
  refine r_callS hX (z_X2_added _ _ _ _) ks_X2_247 rfl rfl (Nat.le_of_ble_eq_true rfl) ⟨(Nat.le_of_ble_eq_true rfl), (Nat.le_of_ble_eq_true rfl)⟩ ⟨(Nat.le_of_ble_eq_true rfl), (Nat.le_of_ble_eq_true rfl)⟩ dX2_withDates_41 (fun _ _ z => False.elim z) (fun v9 ws9 h27 => ?_)
  obtain ⟨rfl, hw9⟩ := h27
  subst ws9
  dsimp only [mPush]
  refine r_lstore_n hX dX2_withDates_44 rfl (by decide) rfl ?_
  refine r_iincZ (z := 1) (y := 9) hX dX2_withDates_45 rfl (by decide) rfl rfl ?_
  refine r_goto (tgt := 18) hX dX2_withDates_48 (by decide) ?_
  refine r_iload hX dX2_withDates_18 rfl ?_
  refine r_bipushZ hX dX2_withDates_20 (by decide) ?_
  refine r_icmp_geZ (tgt := 51) hX dX2_withDates_22 (by decide) (by decide) (by decide) (fun q => absurd q (by decide)) (fun _ => ?_)
  refine r_lload_n hX dX2_withDates_25 rfl rfl ?_
  refine r_aload_n hX dX2_withDates_26 rfl rfl ?_
  refine r_get hX kf_X2_20 0 rfl rfl dX2_withDates_27 ?_
  refine r_iload hX dX2_withDates_30 rfl ?_
  refine r_callS hX (z_X2_at_ok ad cs _ 3 _ 4 0 rfl (by decide) _ 0 (by omega) (by decide)) ks_X2_84 rfl rfl (Nat.le_of_ble_eq_true rfl) ⟨(Nat.le_of_ble_eq_true rfl), (Nat.le_of_ble_eq_true rfl)⟩ ⟨(Nat.le_of_ble_eq_true rfl), (Nat.le_of_ble_eq_true rfl)⟩ dX2_withDates_32 (fun _ _ z => False.elim z) (fun v9 ws9 h28 => ?_)
  obtain ⟨rfl, hw9⟩ := h28
  subst ws9
  dsimp only [mPush]
  refine r_iload hX dX2_withDates_35 rfl ?_
  refine r_callS hX (z_X2_datePart _ _ (0 + 5) _ _ _ _ (zWd_loc (d := 0) (by decide)) (zrg hS (by decide)) _ (by omega) (by omega)) ks_X2_175 rfl rfl (Nat.le_of_ble_eq_true rfl) ⟨(Nat.le_of_ble_eq_true rfl), (Nat.le_of_ble_eq_true rfl)⟩ ⟨(Nat.le_of_ble_eq_true rfl), (Nat.le_of_ble_eq_true rfl)⟩ dX2_withDates_37 (fun _ _ z => False.elim z) (fun v9 ws9 h29 => ?_)
  obtain ⟨rfl, hw9⟩ := h29
  subst ws9
  dsimp only [mPush]
  refine r_i2lZ hX dX2_withDates_40 (hbD0 _) ?_
  refine r_callS hX (z_X2_added _ _ _ _) ks_X2_247 rfl rfl (Nat.le_of_ble_eq_true rfl) ⟨(Nat.le_of_ble_eq_true rfl), (Nat.le_of_ble_eq_true rfl)⟩ ⟨(Nat.le_of_ble_eq_true rfl), (Nat.le_of_ble_eq_true rfl)⟩ dX2_withDates_41 (fun _ _ z => False.elim z) (fun v9 ws9 h30 => ?_)
  obtain ⟨rfl, hw9⟩ := h30
  subst ws9
  dsimp only [mPush]
  refine r_lstore_n hX dX2_withDates_44 rfl (by decide) rfl ?_
  refine r_iincZ (z := 1) (y := 10) hX dX2_withDates_45 rfl (by decide) rfl rfl ?_
  refine r_goto (tgt := 18) hX dX2_withDates_48 (by decide) ?_
  refine r_iload hX dX2_withDates_18 rfl ?_
  refine r_bipushZ hX dX2_withDates_20 (by decide) ?_
  refine r_icmp_geZ (tgt := 51) hX dX2_withDates_22 (by decide) (by decide) (by decide) (fun q => absurd q (by decide)) (fun _ => ?_)
  refine r_lload_n hX dX2_withDates_25 rfl rfl ?_
  refine r_aload_n hX dX2_withDates_26 rfl rfl ?_
  refine r_get hX kf_X2_20 0 rfl rfl dX2_withDates_27 ?_
  refine r_iload hX dX2_withDates_30 rfl ?_
  refine r_callS hX (z_X2_at_ok ad cs _ 3 _ 4 0 rfl (by decide) _ 0 (by omega) (by decide)) ks_X2_84 rfl rfl (Nat.le_of_ble_eq_true rfl) ⟨(Nat.le_of_ble_eq_true rfl), (Nat.le_of_ble_eq_true rfl)⟩ ⟨(Nat.le_of_ble_eq_true rfl), (Nat.le_of_ble_eq_true rfl)⟩ dX2_withDates_32 (fun _ _ z => False.elim z) (fun v9 ws9 h31 => ?_)
  obtain ⟨rfl, hw9⟩ := h31
  subst ws9
  dsimp only [mPush]
  refine r_iload hX dX2_withDates_35 rfl ?_
  refine r_callS hX (z_X2_datePart _ _ (0 + 5) _ _ _ _ (zWd_loc (d := 0) (by decide)) (zrg hS (by decide)) _ (by omega) (by omega)) ks_X2_175 rfl rfl (Nat.le_of_ble_eq_true rfl) ⟨(Nat.le_of_ble_eq_true rfl), (Nat.le_of_ble_eq_true rfl)⟩ ⟨(Nat.le_of_ble_eq_true rfl), (Nat.le_of_ble_eq_true rfl)⟩ dX2_withDates_37 (fun _ _ z => False.elim z) (fun v9 ws9 h32 => ?_)
  obtain ⟨rfl, hw9⟩ := h32
  subst ws9
  dsimp only [mPush]
  refine r_i2lZ hX dX2_withDates_40 (hbD0 _) ?_
  refine r_callS hX (z_X2_added _ _ _ _) ks_X2_247 rfl rfl (Nat.le_of_ble_eq_true rfl) ⟨(Nat.le_of_ble_eq_true rfl), (Nat.le_of_ble_eq_true rfl)⟩ ⟨(Nat.le_of_ble_eq_true rfl), (Nat.le_of_ble_eq_true rfl)⟩ dX2_withDates_41 (fun _ _ z => False.elim z) (fun v9 ws9 h33 => ?_)
  obtain ⟨rfl, hw9⟩ := h33
  subst ws9
  dsimp only [mPush]
  refine r_lstore_n hX dX2_withDates_44 rfl (by decide) rfl ?_
  refine r_iincZ (z := 1) (y := 11) hX dX2_withDates_45 rfl (by decide) rfl rfl ?_
  refine r_goto (tgt := 18) hX dX2_withDates_48 (by decide) ?_
  refine r_iload hX dX2_withDates_18 rfl ?_
  refine r_bipushZ hX dX2_withDates_20 (by decide) ?_
  refine r_icmp_geZ (tgt := 51) hX dX2_withDates_22 (by decide) (by decide) (by decide) (fun q => absurd q (by decide)) (fun _ => ?_)
  refine r_lload_n hX dX2_withDates_25 rfl rfl ?_
  refine r_aload_n hX dX2_withDates_26 rfl rfl ?_
  refine r_get hX kf_X2_20 0 rfl rfl dX2_withDates_27 ?_
  refine r_iload hX dX2_withDates_30 rfl ?_
  refine r_callS hX (z_X2_at_ok ad cs _ 3 _ 4 0 rfl (by decide) _ 0 (by omega) (by decide)) ks_X2_84 rfl rfl (Nat.le_of_ble_eq_true rfl) ⟨(Nat.le_of_ble_eq_true rfl), (Nat.le_of_ble_eq_true rfl)⟩ ⟨(Nat.le_of_ble_eq_true rfl), (Nat.le_of_ble_eq_true rfl)⟩ dX2_withDates_32 (fun _ _ z => False.elim z) (fun v9 ws9 h34 => ?_)
  obtain ⟨rfl, hw9⟩ := h34
  subst ws9
  dsimp only [mPush]
  refine r_iload hX dX2_withDates_35 rfl ?_
  refine r_callS hX (z_X2_datePart _ _ (0 + 5) _ _ _ _ (zWd_loc (d := 0) (by decide)) (zrg hS (by decide)) _ (by omega) (by omega)) ks_X2_175 rfl rfl (Nat.le_of_ble_eq_true rfl) ⟨(Nat.le_of_ble_eq_true rfl), (Nat.le_of_ble_eq_true rfl)⟩ ⟨(Nat.le_of_ble_eq_true rfl), (Nat.le_of_ble_eq_true rfl)⟩ dX2_withDates_37 (fun _ _ z => False.elim z) (fun v9 ws9 h35 => ?_)
  obtain ⟨rfl, hw9⟩ := h35
  subst ws9
  dsimp only [mPush]
  refine r_i2lZ hX dX2_withDates_40 (hbD0 _) ?_
  refine r_callS hX (z_X2_added _ _ _ _) ks_X2_247 rfl rfl (Nat.le_of_ble_eq_true rfl) ⟨(Nat.le_of_ble_eq_true rfl), (Nat.le_of_ble_eq_true rfl)⟩ ⟨(Nat.le_of_ble_eq_true rfl), (Nat.le_of_ble_eq_true rfl)⟩ dX2_withDates_41 (fun _ _ z => False.elim z) (fun v9 ws9 h36 => ?_)
  obtain ⟨rfl, hw9⟩ := h36
  subst ws9
  dsimp only [mPush]
  refine r_lstore_n hX dX2_withDates_44 rfl (by decide) rfl ?_
  refine r_iincZ (z := 1) (y := 12) hX dX2_withDates_45 rfl (by decide) rfl rfl ?_
  refine r_goto (tgt := 18) hX dX2_withDates_48 (by decide) ?_
  refine r_iload hX dX2_withDates_18 rfl ?_
  refine r_bipushZ hX dX2_withDates_20 (by decide) ?_
  refine r_icmp_geZ (tgt := 51) hX dX2_withDates_22 (by decide) (by decide) (by decide) (fun q => absurd q (by decide)) (fun _ => ?_)
  refine r_lload_n hX dX2_withDates_25 rfl rfl ?_
  refine r_aload_n hX dX2_withDates_26 rfl rfl ?_
  refine r_get hX kf_X2_20 0 rfl rfl dX2_withDates_27 ?_
  refine r_iload hX dX2_withDates_30 rfl ?_
  refine r_callS hX (z_X2_at_ok ad cs _ 3 _ 4 0 rfl (by decide) _ 0 (by omega) (by decide)) ks_X2_84 rfl rfl (Nat.le_of_ble_eq_true rfl) ⟨(Nat.le_of_ble_eq_true rfl), (Nat.le_of_ble_eq_true rfl)⟩ ⟨(Nat.le_of_ble_eq_true rfl), (Nat.le_of_ble_eq_true rfl)⟩ dX2_withDates_32 (fun _ _ z => False.elim z) (fun v9 ws9 h37 => ?_)
  obtain ⟨rfl, hw9⟩ := h37
  subst ws9
  dsimp only [mPush]
  refine r_iload hX dX2_withDates_35 rfl ?_
  refine r_callS hX (z_X2_datePart _ _ (0 + 5) _ _ _ _ (zWd_loc (d := 0) (by decide)) (zrg hS (by decide)) _ (by omega) (by omega)) ks_X2_175 rfl rfl (Nat.le_of_ble_eq_true rfl) ⟨(Nat.le_of_ble_eq_true rfl), (Nat.le_of_ble_eq_true rfl)⟩ ⟨(Nat.le_of_ble_eq_true rfl), (Nat.le_of_ble_eq_true rfl)⟩ dX2_withDates_37 (fun _ _ z => False.elim z) (fun v9 ws9 h38 => ?_)
  obtain ⟨rfl, hw9⟩ := h38
  subst ws9
  dsimp only [mPush]
  refine r_i2lZ hX dX2_withDates_40 (hbD0 _) ?_
  refine r_callS hX (z_X2_added _ _ _ _) ks_X2_247 rfl rfl (Nat.le_of_ble_eq_true rfl) ⟨(Nat.le_of_ble_eq_true rfl), (Nat.le_of_ble_eq_true rfl)⟩ ⟨(Nat.le_of_ble_eq_true rfl), (Nat.le_of_ble_eq_true rfl)⟩ dX2_withDates_41 (fun _ _ z => False.elim z) (fun v9 ws9 h39 => ?_)
  obtain ⟨rfl, hw9⟩ := h39
  subst ws9
  dsimp only [mPush]
  refine r_lstore_n hX dX2_withDates_44 rfl (by decide) rfl ?_
  refine r_iincZ (z := 1) (y := 13) hX dX2_withDates_45 rfl (by decide) rfl rfl ?_
  refine r_goto (tgt := 18) hX dX2_withDates_48 (by decide) ?_
  refine r_iload hX dX2_withDates_18 rfl ?_
  refine r_bipushZ hX dX2_withDates_20 (by decide) ?_
  refine r_icmp_geZ (tgt := 51) hX dX2_withDates_22 (by decide) (by decide) (by decide) (fun _ => ?_) (fun q => absurd (by decide) q)
  refine r_iincZ (z := 1) (y := 1) hX dX2_withDates_51 rfl (by decide) rfl rfl ?_
  refine r_goto (tgt := 5) hX dX2_withDates_54 (by decide) ?_
  refine r_iload hX dX2_withDates_5 rfl ?_
  refine r_aload_n hX dX2_withDates_7 rfl rfl ?_
  refine r_get hX kf_X2_20 0 rfl rfl dX2_withDates_8 ?_
  refine r_alen (v := iZ 4) hX 3 2 rfl rfl rfl dX2_withDates_11 ?_
  refine r_icmp_geZ (tgt := 57) hX dX2_withDates_12 (by decide) (by decide) (by decide) (fun q => absurd q (by decide)) (fun _ => ?_)
  refine r_iconstZ hX dX2_withDates_15 ?_
  refine r_istore hX dX2_withDates_16 (by decide) rfl ?_
  refine r_iload hX dX2_withDates_18 rfl ?_
  refine r_bipushZ hX dX2_withDates_20 (by decide) ?_
  refine r_icmp_geZ (tgt := 51) hX dX2_withDates_22 (by decide) (by decide) (by decide) (fun q => absurd q (by decide)) (fun _ => ?_)
  refine r_lload_n hX dX2_withDates_25 rfl rfl ?_
  refine r_aload_n hX dX2_withDates_26 rfl rfl ?_
  refine r_get hX kf_X2_20 0 rfl rfl dX2_withDates_27 ?_
  refine r_iload hX dX2_withDates_30 rfl ?_
  refine r_callS hX (z_X2_at_ok ad cs _ 3 _ 4 0 rfl (by decide) _ 1 (by omega) (by decide)) ks_X2_84 rfl rfl (Nat.le_of_ble_eq_true rfl) ⟨(Nat.le_of_ble_eq_true rfl), (Nat.le_of_ble_eq_true rfl)⟩ ⟨(Nat.le_of_ble_eq_true rfl), (Nat.le_of_ble_eq_true rfl)⟩ dX2_withDates_32 (fun _ _ z => False.elim z) (fun v9 ws9 h40 => ?_)
  obtain ⟨rfl, hw9⟩ := h40
  subst ws9
  dsimp only [mPush]
  refine r_iload hX dX2_withDates_35 rfl ?_
  refine r_callS hX (z_X2_datePart _ _ (1 + 5) _ _ _ _ (zWd_loc (d := 1) (by decide)) (zrg hS (by decide)) _ (by omega) (by omega)) ks_X2_175 rfl rfl (Nat.le_of_ble_eq_true rfl) ⟨(Nat.le_of_ble_eq_true rfl), (Nat.le_of_ble_eq_true rfl)⟩ ⟨(Nat.le_of_ble_eq_true rfl), (Nat.le_of_ble_eq_true rfl)⟩ dX2_withDates_37 (fun _ _ z => False.elim z) (fun v9 ws9 h41 => ?_)
  obtain ⟨rfl, hw9⟩ := h41
  subst ws9
  dsimp only [mPush]
  refine r_i2lZ hX dX2_withDates_40 (hbD1 _) ?_
  refine r_callS hX (z_X2_added _ _ _ _) ks_X2_247 rfl rfl (Nat.le_of_ble_eq_true rfl) ⟨(Nat.le_of_ble_eq_true rfl), (Nat.le_of_ble_eq_true rfl)⟩ ⟨(Nat.le_of_ble_eq_true rfl), (Nat.le_of_ble_eq_true rfl)⟩ dX2_withDates_41 (fun _ _ z => False.elim z) (fun v9 ws9 h42 => ?_)
  obtain ⟨rfl, hw9⟩ := h42
  subst ws9
  dsimp only [mPush]
  refine r_lstore_n hX dX2_withDates_44 rfl (by decide) rfl ?_
  refine r_iincZ (z := 1) (y := 1) hX dX2_withDates_45 rfl (by decide) rfl rfl ?_
  refine r_goto (tgt := 18) hX dX2_withDates_48 (by decide) ?_
  refine r_iload hX dX2_withDates_18 rfl ?_
  refine r_bipushZ hX dX2_withDates_20 (by decide) ?_
  refine r_icmp_geZ (tgt := 51) hX dX2_withDates_22 (by decide) (by decide) (by decide) (fun q => absurd q (by decide)) (fun _ => ?_)
  refine r_lload_n hX dX2_withDates_25 rfl rfl ?_
  refine r_aload_n hX dX2_withDates_26 rfl rfl ?_
  refine r_get hX kf_X2_20 0 rfl rfl dX2_withDates_27 ?_
  refine r_iload hX dX2_withDates_30 rfl ?_
  refine r_callS hX (z_X2_at_ok ad cs _ 3 _ 4 0 rfl (by decide) _ 1 (by omega) (by decide)) ks_X2_84 rfl rfl (Nat.le_of_ble_eq_true rfl) ⟨(Nat.le_of_ble_eq_true rfl), (Nat.le_of_ble_eq_true rfl)⟩ ⟨(Nat.le_of_ble_eq_true rfl), (Nat.le_of_ble_eq_true rfl)⟩ dX2_withDates_32 (fun _ _ z => False.elim z) (fun v9 ws9 h43 => ?_)
  obtain ⟨rfl, hw9⟩ := h43
  subst ws9
  dsimp only [mPush]
  refine r_iload hX dX2_withDates_35 rfl ?_
  refine r_callS hX (z_X2_datePart _ _ (1 + 5) _ _ _ _ (zWd_loc (d := 1) (by decide)) (zrg hS (by decide)) _ (by omega) (by omega)) ks_X2_175 rfl rfl (Nat.le_of_ble_eq_true rfl) ⟨(Nat.le_of_ble_eq_true rfl), (Nat.le_of_ble_eq_true rfl)⟩ ⟨(Nat.le_of_ble_eq_true rfl), (Nat.le_of_ble_eq_true rfl)⟩ dX2_withDates_37 (fun _ _ z => False.elim z) (fun v9 ws9 h44 => ?_)
  obtain ⟨rfl, hw9⟩ := h44
  subst ws9
  dsimp only [mPush]
  refine r_i2lZ hX dX2_withDates_40 (hbD1 _) ?_
  refine r_callS hX (z_X2_added _ _ _ _) ks_X2_247 rfl rfl (Nat.le_of_ble_eq_true rfl) ⟨(Nat.le_of_ble_eq_true rfl), (Nat.le_of_ble_eq_true rfl)⟩ ⟨(Nat.le_of_ble_eq_true rfl), (Nat.le_of_ble_eq_true rfl)⟩ dX2_withDates_41 (fun _ _ z => False.elim z) (fun v9 ws9 h45 => ?_)
  obtain ⟨rfl, hw9⟩ := h45
  subst ws9
  dsimp only [mPush]
  refine r_lstore_n hX dX2_withDates_44 rfl (by decide) rfl ?_
  refine r_iincZ (z := 1) (y := 2) hX dX2_withDates_45 rfl (by decide) rfl rfl ?_
  refine r_goto (tgt := 18) hX dX2_withDates_48 (by decide) ?_
  refine r_iload hX dX2_withDates_18 rfl ?_
  refine r_bipushZ hX dX2_withDates_20 (by decide) ?_
  refine r_icmp_geZ (tgt := 51) hX dX2_withDates_22 (by decide) (by decide) (by decide) (fun q => absurd q (by decide)) (fun _ => ?_)
  refine r_lload_n hX dX2_withDates_25 rfl rfl ?_
  refine r_aload_n hX dX2_withDates_26 rfl rfl ?_
  refine r_get hX kf_X2_20 0 rfl rfl dX2_withDates_27 ?_
  refine r_iload hX dX2_withDates_30 rfl ?_
  refine r_callS hX (z_X2_at_ok ad cs _ 3 _ 4 0 rfl (by decide) _ 1 (by omega) (by decide)) ks_X2_84 rfl rfl (Nat.le_of_ble_eq_true rfl) ⟨(Nat.le_of_ble_eq_true rfl), (Nat.le_of_ble_eq_true rfl)⟩ ⟨(Nat.le_of_ble_eq_true rfl), (Nat.le_of_ble_eq_true rfl)⟩ dX2_withDates_32 (fun _ _ z => False.elim z) (fun v9 ws9 h46 => ?_)
  obtain ⟨rfl, hw9⟩ := h46
  subst ws9
  dsimp only [mPush]
  refine r_iload hX dX2_withDates_35 rfl ?_
  refine r_callS hX (z_X2_datePart _ _ (1 + 5) _ _ _ _ (zWd_loc (d := 1) (by decide)) (zrg hS (by decide)) _ (by omega) (by omega)) ks_X2_175 rfl rfl (Nat.le_of_ble_eq_true rfl) ⟨(Nat.le_of_ble_eq_true rfl), (Nat.le_of_ble_eq_true rfl)⟩ ⟨(Nat.le_of_ble_eq_true rfl), (Nat.le_of_ble_eq_true rfl)⟩ dX2_withDates_37 (fun _ _ z => False.elim z) (fun v9 ws9 h47 => ?_)
  obtain ⟨rfl, hw9⟩ := h47
  subst ws9
  dsimp only [mPush]
  refine r_i2lZ hX dX2_withDates_40 (hbD1 _) ?_
  refine r_callS hX (z_X2_added _ _ _ _) ks_X2_247 rfl rfl (Nat.le_of_ble_eq_true rfl) ⟨(Nat.le_of_ble_eq_true rfl), (Nat.le_of_ble_eq_true rfl)⟩ ⟨(Nat.le_of_ble_eq_true rfl), (Nat.le_of_ble_eq_true rfl)⟩ dX2_withDates_41 (fun _ _ z => False.elim z) (fun v9 ws9 h48 => ?_)
  obtain ⟨rfl, hw9⟩ := h48
  subst ws9
  dsimp only [mPush]
  refine r_lstore_n hX dX2_withDates_44 rfl (by decide) rfl ?_
  refine r_iincZ (z := 1) (y := 3) hX dX2_withDates_45 rfl (by decide) rfl rfl ?_
  refine r_goto (tgt := 18) hX dX2_withDates_48 (by decide) ?_
  refine r_iload hX dX2_withDates_18 rfl ?_
  refine r_bipushZ hX dX2_withDates_20 (by decide) ?_
  refine r_icmp_geZ (tgt := 51) hX dX2_withDates_22 (by decide) (by decide) (by decide) (fun q => absurd q (by decide)) (fun _ => ?_)
  refine r_lload_n hX dX2_withDates_25 rfl rfl ?_
  refine r_aload_n hX dX2_withDates_26 rfl rfl ?_
  refine r_get hX kf_X2_20 0 rfl rfl dX2_withDates_27 ?_
  refine r_iload hX dX2_withDates_30 rfl ?_
  refine r_callS hX (z_X2_at_ok ad cs _ 3 _ 4 0 rfl (by decide) _ 1 (by omega) (by decide)) ks_X2_84 rfl rfl (Nat.le_of_ble_eq_true rfl) ⟨(Nat.le_of_ble_eq_true rfl), (Nat.le_of_ble_eq_true rfl)⟩ ⟨(Nat.le_of_ble_eq_true rfl), (Nat.le_of_ble_eq_true rfl)⟩ dX2_withDates_32 (fun _ _ z => False.elim z) (fun v9 ws9 h49 => ?_)
  obtain ⟨rfl, hw9⟩ := h49
  subst ws9
  dsimp only [mPush]
  refine r_iload hX dX2_withDates_35 rfl ?_
  refine r_callS hX (z_X2_datePart _ _ (1 + 5) _ _ _ _ (zWd_loc (d := 1) (by decide)) (zrg hS (by decide)) _ (by omega) (by omega)) ks_X2_175 rfl rfl (Nat.le_of_ble_eq_true rfl) ⟨(Nat.le_of_ble_eq_true rfl), (Nat.le_of_ble_eq_true rfl)⟩ ⟨(Nat.le_of_ble_eq_true rfl), (Nat.le_of_ble_eq_true rfl)⟩ dX2_withDates_37 (fun _ _ z => False.elim z) (fun v9 ws9 h50 => ?_)
  obtain ⟨rfl, hw9⟩ := h50
  subst ws9
  dsimp only [mPush]
  refine r_i2lZ hX dX2_withDates_40 (hbD1 _) ?_
  refine r_callS hX (z_X2_added _ _ _ _) ks_X2_247 rfl rfl (Nat.le_of_ble_eq_true rfl) ⟨(Nat.le_of_ble_eq_true rfl), (Nat.le_of_ble_eq_true rfl)⟩ ⟨(Nat.le_of_ble_eq_true rfl), (Nat.le_of_ble_eq_true rfl)⟩ dX2_withDates_41 (fun _ _ z => False.elim z) (fun v9 ws9 h51 => ?_)
  obtain ⟨rfl, hw9⟩ := h51
  subst ws9
  dsimp only [mPush]
  refine r_lstore_n hX dX2_withDates_44 rfl (by decide) rfl ?_
  refine r_iincZ (z := 1) (y := 4) hX dX2_withDates_45 rfl (by decide) rfl rfl ?_
  refine r_goto (tgt := 18) hX dX2_withDates_48 (by decide) ?_
  refine r_iload hX dX2_withDates_18 rfl ?_
  refine r_bipushZ hX dX2_withDates_20 (by decide) ?_
  refine r_icmp_geZ (tgt := 51) hX dX2_withDates_22 (by decide) (by decide) (by decide) (fun q => absurd q (by decide)) (fun _ => ?_)
  refine r_lload_n hX dX2_withDates_25 rfl rfl ?_
  refine r_aload_n hX dX2_withDates_26 rfl rfl ?_
  refine r_get hX kf_X2_20 0 rfl rfl dX2_withDates_27 ?_
  refine r_iload hX dX2_withDates_30 rfl ?_
  refine r_callS hX (z_X2_at_ok ad cs _ 3 _ 4 0 rfl (by decide) _ 1 (by omega) (by decide)) ks_X2_84 rfl rfl (Nat.le_of_ble_eq_true rfl) ⟨(Nat.le_of_ble_eq_true rfl), (Nat.le_of_ble_eq_true rfl)⟩ ⟨(Nat.le_of_ble_eq_true rfl), (Nat.le_of_ble_eq_true rfl)⟩ dX2_withDates_32 (fun _ _ z => False.elim z) (fun v9 ws9 h52 => ?_)
  obtain ⟨rfl, hw9⟩ := h52
  subst ws9
  dsimp only [mPush]
  refine r_iload hX dX2_withDates_35 rfl ?_
  refine r_callS hX (z_X2_datePart _ _ (1 + 5) _ _ _ _ (zWd_loc (d := 1) (by decide)) (zrg hS (by decide)) _ (by omega) (by omega)) ks_X2_175 rfl rfl (Nat.le_of_ble_eq_true rfl) ⟨(Nat.le_of_ble_eq_true rfl), (Nat.le_of_ble_eq_true rfl)⟩ ⟨(Nat.le_of_ble_eq_true rfl), (Nat.le_of_ble_eq_true rfl)⟩ dX2_withDates_37 (fun _ _ z => False.elim z) (fun v9 ws9 h53 => ?_)
  obtain ⟨rfl, hw9⟩ := h53
  subst ws9
  dsimp only [mPush]
  refine r_i2lZ hX dX2_withDates_40 (hbD1 _) ?_
  refine r_callS hX (z_X2_added _ _ _ _) ks_X2_247 rfl rfl (Nat.le_of_ble_eq_true rfl) ⟨(Nat.le_of_ble_eq_true rfl), (Nat.le_of_ble_eq_true rfl)⟩ ⟨(Nat.le_of_ble_eq_true rfl), (Nat.le_of_ble_eq_true rfl)⟩ dX2_withDates_41 (fun _ _ z => False.elim z) (fun v9 ws9 h54 => ?_)
  obtain ⟨rfl, hw9⟩ := h54
  subst ws9
  dsimp only [mPush]
  refine r_lstore_n hX dX2_withDates_44 rfl (by decide) rfl ?_
  refine r_iincZ (z := 1) (y := 5) hX dX2_withDates_45 rfl (by decide) rfl rfl ?_
  refine r_goto (tgt := 18) hX dX2_withDates_48 (by decide) ?_
  refine r_iload hX dX2_withDates_18 rfl ?_
  refine r_bipushZ hX dX2_withDates_20 (by decide) ?_
  refine r_icmp_geZ (tgt := 51) hX dX2_withDates_22 (by decide) (by decide) (by decide) (fun q => absurd q (by decide)) (fun _ => ?_)
  refine r_lload_n hX dX2_withDates_25 rfl rfl ?_
  refine r_aload_n hX dX2_withDates_26 rfl rfl ?_
  refine r_get hX kf_X2_20 0 rfl rfl dX2_withDates_27 ?_
  refine r_iload hX dX2_withDates_30 rfl ?_
  refine r_callS hX (z_X2_at_ok ad cs _ 3 _ 4 0 rfl (by decide) _ 1 (by omega) (by decide)) ks_X2_84 rfl rfl (Nat.le_of_ble_eq_true rfl) ⟨(Nat.le_of_ble_eq_true rfl), (Nat.le_of_ble_eq_true rfl)⟩ ⟨(Nat.le_of_ble_eq_true rfl), (Nat.le_of_ble_eq_true rfl)⟩ dX2_withDates_32 (fun _ _ z => False.elim z) (fun v9 ws9 h55 => ?_)
  obtain ⟨rfl, hw9⟩ := h55
  subst ws9
  dsimp only [mPush]
  refine r_iload hX dX2_withDates_35 rfl ?_
  refine r_callS hX (z_X2_datePart _ _ (1 + 5) _ _ _ _ (zWd_loc (d := 1) (by decide)) (zrg hS (by decide)) _ (by omega) (by omega)) ks_X2_175 rfl rfl (Nat.le_of_ble_eq_true rfl) ⟨(Nat.le_of_ble_eq_true rfl), (Nat.le_of_ble_eq_true rfl)⟩ ⟨(Nat.le_of_ble_eq_true rfl), (Nat.le_of_ble_eq_true rfl)⟩ dX2_withDates_37 (fun _ _ z => False.elim z) (fun v9 ws9 h56 => ?_)
  obtain ⟨rfl, hw9⟩ := h56
  subst ws9
  dsimp only [mPush]
  refine r_i2lZ hX dX2_withDates_40 (hbD1 _) ?_
  refine r_callS hX (z_X2_added _ _ _ _) ks_X2_247 rfl rfl (Nat.le_of_ble_eq_true rfl) ⟨(Nat.le_of_ble_eq_true rfl), (Nat.le_of_ble_eq_true rfl)⟩ ⟨(Nat.le_of_ble_eq_true rfl), (Nat.le_of_ble_eq_true rfl)⟩ dX2_withDates_41 (fun _ _ z => False.elim z) (fun v9 ws9 h57 => ?_)
  obtain ⟨rfl, hw9⟩ := h57
  subst ws9
  dsimp only [mPush]
  refine r_lstore_n hX dX2_withDates_44 rfl (by decide) rfl ?_
  refine r_iincZ (z := 1) (y := 6) hX dX2_withDates_45 rfl (by decide) rfl rfl ?_
  refine r_goto (tgt := 18) hX dX2_withDates_48 (by decide) ?_
  refine r_iload hX dX2_withDates_18 rfl ?_
  refine r_bipushZ hX dX2_withDates_20 (by decide) ?_
  refine r_icmp_geZ (tgt := 51) hX dX2_withDates_22 (by decide) (by decide) (by decide) (fun q => absurd q (by decide)) (fun _ => ?_)
  refine r_lload_n hX dX2_withDates_25 rfl rfl ?_
  refine r_aload_n hX dX2_withDates_26 rfl rfl ?_
  refine r_get hX kf_X2_20 0 rfl rfl dX2_withDates_27 ?_
  refine r_iload hX dX2_withDates_30 rfl ?_
  refine r_callS hX (z_X2_at_ok ad cs _ 3 _ 4 0 rfl (by decide) _ 1 (by omega) (by decide)) ks_X2_84 rfl rfl (Nat.le_of_ble_eq_true rfl) ⟨(Nat.le_of_ble_eq_true rfl), (Nat.le_of_ble_eq_true rfl)⟩ ⟨(Nat.le_of_ble_eq_true rfl), (Nat.le_of_ble_eq_true rfl)⟩ dX2_withDates_32 (fun _ _ z => False.elim z) (fun v9 ws9 h58 => ?_)
  obtain ⟨rfl, hw9⟩ := h58
  subst ws9
  dsimp only [mPush]
  refine r_iload hX dX2_withDates_35 rfl ?_
  refine r_callS hX (z_X2_datePart _ _ (1 + 5) _ _ _ _ (zWd_loc (d := 1) (by decide)) (zrg hS (by decide)) _ (by omega) (by omega)) ks_X2_175 rfl rfl (Nat.le_of_ble_eq_true rfl) ⟨(Nat.le_of_ble_eq_true rfl), (Nat.le_of_ble_eq_true rfl)⟩ ⟨(Nat.le_of_ble_eq_true rfl), (Nat.le_of_ble_eq_true rfl)⟩ dX2_withDates_37 (fun _ _ z => False.elim z) (fun v9 ws9 h59 => ?_)
  obtain ⟨rfl, hw9⟩ := h59
  subst ws9
  dsimp only [mPush]
  refine r_i2lZ hX dX2_withDates_40 (hbD1 _) ?_
  refine r_callS hX (z_X2_added _ _ _ _) ks_X2_247 rfl rfl (Nat.le_of_ble_eq_true rfl) ⟨(Nat.le_of_ble_eq_true rfl), (Nat.le_of_ble_eq_true rfl)⟩ ⟨(Nat.le_of_ble_eq_true rfl), (Nat.le_of_ble_eq_true rfl)⟩ dX2_withDates_41 (fun _ _ z => False.elim z) (fun v9 ws9 h60 => ?_)
  obtain ⟨rfl, hw9⟩ := h60
  subst ws9
  dsimp only [mPush]
  refine r_lstore_n hX dX2_withDates_44 rfl (by decide) rfl ?_
  refine r_iincZ (z := 1) (y := 7) hX dX2_withDates_45 rfl (by decide) rfl rfl ?_
  refine r_goto (tgt := 18) hX dX2_withDates_48 (by decide) ?_
  refine r_iload hX dX2_withDates_18 rfl ?_
  refine r_bipushZ hX dX2_withDates_20 (by decide) ?_
  refine r_icmp_geZ (tgt := 51) hX dX2_withDates_22 (by decide) (by decide) (by decide) (fun q => absurd q (by decide)) (fun _ => ?_)
  refine r_lload_n hX dX2_withDates_25 rfl rfl ?_
  refine r_aload_n hX dX2_withDates_26 rfl rfl ?_
  refine r_get hX kf_X2_20 0 rfl rfl dX2_withDates_27 ?_
  refine r_iload hX dX2_withDates_30 rfl ?_
  refine r_callS hX (z_X2_at_ok ad cs _ 3 _ 4 0 rfl (by decide) _ 1 (by omega) (by decide)) ks_X2_84 rfl rfl (Nat.le_of_ble_eq_true rfl) ⟨(Nat.le_of_ble_eq_true rfl), (Nat.le_of_ble_eq_true rfl)⟩ ⟨(Nat.le_of_ble_eq_true rfl), (Nat.le_of_ble_eq_true rfl)⟩ dX2_withDates_32 (fun _ _ z => False.elim z) (fun v9 ws9 h61 => ?_)
  obtain ⟨rfl, hw9⟩ := h61
  subst ws9
  dsimp only [mPush]
  refine r_iload hX dX2_withDates_35 rfl ?_
  refine r_callS hX (z_X2_datePart _ _ (1 + 5) _ _ _ _ (zWd_loc (d := 1) (by decide)) (zrg hS (by decide)) _ (by omega) (by omega)) ks_X2_175 rfl rfl (Nat.le_of_ble_eq_true rfl) ⟨(Nat.le_of_ble_eq_true rfl), (Nat.le_of_ble_eq_true rfl)⟩ ⟨(Nat.le_of_ble_eq_true rfl), (Nat.le_of_ble_eq_true rfl)⟩ dX2_withDates_37 (fun _ _ z => False.elim z) (fun v9 ws9 h62 => ?_)
  obtain ⟨rfl, hw9⟩ := h62
  subst ws9
  dsimp only [mPush]
  refine r_i2lZ hX dX2_withDates_40 (hbD1 _) ?_
  refine r_callS hX (z_X2_added _ _ _ _) ks_X2_247 rfl rfl (Nat.le_of_ble_eq_true rfl) ⟨(Nat.le_of_ble_eq_true rfl), (Nat.le_of_ble_eq_true rfl)⟩ ⟨(Nat.le_of_ble_eq_true rfl), (Nat.le_of_ble_eq_true rfl)⟩ dX2_withDates_41 (fun _ _ z => False.elim z) (fun v9 ws9 h63 => ?_)
  obtain ⟨rfl, hw9⟩ := h63
  subst ws9
  dsimp only [mPush]
  refine r_lstore_n hX dX2_withDates_44 rfl (by decide) rfl ?_
  refine r_iincZ (z := 1) (y := 8) hX dX2_withDates_45 rfl (by decide) rfl rfl ?_
  refine r_goto (tgt := 18) hX dX2_withDates_48 (by decide) ?_
  refine r_iload hX dX2_withDates_18 rfl ?_
  refine r_bipushZ hX dX2_withDates_20 (by decide) ?_
  refine r_icmp_geZ (tgt := 51) hX dX2_withDates_22 (by decide) (by decide) (by decide) (fun q => absurd q (by decide)) (fun _ => ?_)
  refine r_lload_n hX dX2_withDates_25 rfl rfl ?_
  refine r_aload_n hX dX2_withDates_26 rfl rfl ?_
  refine r_get hX kf_X2_20 0 rfl rfl dX2_withDates_27 ?_
  refine r_iload hX dX2_withDates_30 rfl ?_
  refine r_callS hX (z_X2_at_ok ad cs _ 3 _ 4 0 rfl (by decide) _ 1 (by omega) (by decide)) ks_X2_84 rfl rfl (Nat.le_of_ble_eq_true rfl) ⟨(Nat.le_of_ble_eq_true rfl), (Nat.le_of_ble_eq_true rfl)⟩ ⟨(Nat.le_of_ble_eq_true rfl), (Nat.le_of_ble_eq_true rfl)⟩ dX2_withDates_32 (fun _ _ z => False.elim z) (fun v9 ws9 h64 => ?_)
  obtain ⟨rfl, hw9⟩ := h64
  subst ws9
  dsimp only [mPush]
  refine r_iload hX dX2_withDates_35 rfl ?_
  refine r_callS hX (z_X2_datePart _ _ (1 + 5) _ _ _ _ (zWd_loc (d := 1) (by decide)) (zrg hS (by decide)) _ (by omega) (by omega)) ks_X2_175 rfl rfl (Nat.le_of_ble_eq_true rfl) ⟨(Nat.le_of_ble_eq_true rfl), (Nat.le_of_ble_eq_true rfl)⟩ ⟨(Nat.le_of_ble_eq_true rfl), (Nat.le_of_ble_eq_true rfl)⟩ dX2_withDates_37 (fun _ _ z => False.elim z) (fun v9 ws9 h65 => ?_)
  obtain ⟨rfl, hw9⟩ := h65
  subst ws9
  dsimp only [mPush]
  refine r_i2lZ hX dX2_withDates_40 (hbD1 _) ?_
  refine r_callS hX (z_X2_added _ _ _ _) ks_X2_247 rfl rfl (Nat.le_of_ble_eq_true rfl) ⟨(Nat.le_of_ble_eq_true rfl), (Nat.le_of_ble_eq_true rfl)⟩ ⟨(Nat.le_of_ble_eq_true rfl), (Nat.le_of_ble_eq_true rfl)⟩ dX2_withDates_41 (fun _ _ z => False.elim z) (fun v9 ws9 h66 => ?_)
  obtain ⟨rfl, hw9⟩ := h66
  subst ws9
  dsimp only [mPush]
  refine r_lstore_n hX dX2_withDates_44 rfl (by decide) rfl ?_
  refine r_iincZ (z := 1) (y := 9) hX dX2_withDates_45 rfl (by decide) rfl rfl ?_
  refine r_goto (tgt := 18) hX dX2_withDates_48 (by decide) ?_
  refine r_iload hX dX2_withDates_18 rfl ?_
  refine r_bipushZ hX dX2_withDates_20 (by decide) ?_
  refine r_icmp_geZ (tgt := 51) hX dX2_withDates_22 (by decide) (by decide) (by decide) (fun q => absurd q (by decide)) (fun _ => ?_)
  refine r_lload_n hX dX2_withDates_25 rfl rfl ?_
  refine r_aload_n hX dX2_withDates_26 rfl rfl ?_
  refine r_get hX kf_X2_20 0 rfl rfl dX2_withDates_27 ?_
  refine r_iload hX dX2_withDates_30 rfl ?_
  refine r_callS hX (z_X2_at_ok ad cs _ 3 _ 4 0 rfl (by decide) _ 1 (by omega) (by decide)) ks_X2_84 rfl rfl (Nat.le_of_ble_eq_true rfl) ⟨(Nat.le_of_ble_eq_true rfl), (Nat.le_of_ble_eq_true rfl)⟩ ⟨(Nat.le_of_ble_eq_true rfl), (Nat.le_of_ble_eq_true rfl)⟩ dX2_withDates_32 (fun _ _ z => False.elim z) (fun v9 ws9 h67 => ?_)
  obtain ⟨rfl, hw9⟩ := h67
  subst ws9
  dsimp only [mPush]
  refine r_iload hX dX2_withDates_35 rfl ?_
  refine r_callS hX (z_X2_datePart _ _ (1 + 5) _ _ _ _ (zWd_loc (d := 1) (by decide)) (zrg hS (by decide)) _ (by omega) (by omega)) ks_X2_175 rfl rfl (Nat.le_of_ble_eq_true rfl) ⟨(Nat.le_of_ble_eq_true rfl), (Nat.le_of_ble_eq_true rfl)⟩ ⟨(Nat.le_of_ble_eq_true rfl), (Nat.le_of_ble_eq_true rfl)⟩ dX2_withDates_37 (fun _ _ z => False.elim z) (fun v9 ws9 h68 => ?_)
  obtain ⟨rfl, hw9⟩ := h68
  subst ws9
  dsimp only [mPush]
  refine r_i2lZ hX dX2_withDates_40 (hbD1 _) ?_
  refine r_callS hX (z_X2_added _ _ _ _) ks_X2_247 rfl rfl (Nat.le_of_ble_eq_true rfl) ⟨(Nat.le_of_ble_eq_true rfl), (Nat.le_of_ble_eq_true rfl)⟩ ⟨(Nat.le_of_ble_eq_true rfl), (Nat.le_of_ble_eq_true rfl)⟩ dX2_withDates_41 (fun _ _ z => False.elim z) (fun v9 ws9 h69 => ?_)
  obtain ⟨rfl, hw9⟩ := h69
  subst ws9
  dsimp only [mPush]
  refine r_lstore_n hX dX2_withDates_44 rfl (by decide) rfl ?_
  refine r_iincZ (z := 1) (y := 10) hX dX2_withDates_45 rfl (by decide) rfl rfl ?_
  refine r_goto (tgt := 18) hX dX2_withDates_48 (by decide) ?_
  refine r_iload hX dX2_withDates_18 rfl ?_
  refine r_bipushZ hX dX2_withDates_20 (by decide) ?_
  refine r_icmp_geZ (tgt := 51) hX dX2_withDates_22 (by decide) (by decide) (by decide) (fun q => absurd q (by decide)) (fun _ => ?_)
  refine r_lload_n hX dX2_withDates_25 rfl rfl ?_
  refine r_aload_n hX dX2_withDates_26 rfl rfl ?_
  refine r_get hX kf_X2_20 0 rfl rfl dX2_withDates_27 ?_
  refine r_iload hX dX2_withDates_30 rfl ?_
  refine r_callS hX (z_X2_at_ok ad cs _ 3 _ 4 0 rfl (by decide) _ 1 (by omega) (by decide)) ks_X2_84 rfl rfl (Nat.le_of_ble_eq_true rfl) ⟨(Nat.le_of_ble_eq_true rfl), (Nat.le_of_ble_eq_true rfl)⟩ ⟨(Nat.le_of_ble_eq_true rfl), (Nat.le_of_ble_eq_true rfl)⟩ dX2_withDates_32 (fun _ _ z => False.elim z) (fun v9 ws9 h70 => ?_)
  obtain ⟨rfl, hw9⟩ := h70
  subst ws9
  dsimp only [mPush]
  refine r_iload hX dX2_withDates_35 rfl ?_
  refine r_callS hX (z_X2_datePart _ _ (1 + 5) _ _ _ _ (zWd_loc (d := 1) (by decide)) (zrg hS (by decide)) _ (by omega) (by omega)) ks_X2_175 rfl rfl (Nat.le_of_ble_eq_true rfl) ⟨(Nat.le_of_ble_eq_true rfl), (Nat.le_of_ble_eq_true rfl)⟩ ⟨(Nat.le_of_ble_eq_true rfl), (Nat.le_of_ble_eq_true rfl)⟩ dX2_withDates_37 (fun _ _ z => False.elim z) (fun v9 ws9 h71 => ?_)
  obtain ⟨rfl, hw9⟩ := h71
  subst ws9
  dsimp only [mPush]
  refine r_i2lZ hX dX2_withDates_40 (hbD1 _) ?_
  refine r_callS hX (z_X2_added _ _ _ _) ks_X2_247 rfl rfl (Nat.le_of_ble_eq_true rfl) ⟨(Nat.le_of_ble_eq_true rfl), (Nat.le_of_ble_eq_true rfl)⟩ ⟨(Nat.le_of_ble_eq_true rfl), (Nat.le_of_ble_eq_true rfl)⟩ dX2_withDates_41 (fun _ _ z => False.elim z) (fun v9 ws9 h72 => ?_)
  obtain ⟨rfl, hw9⟩ := h72
  subst ws9
  dsimp only [mPush]
  refine r_lstore_n hX dX2_withDates_44 rfl (by decide) rfl ?_
  refine r_iincZ (z := 1) (y := 11) hX dX2_withDates_45 rfl (by decide) rfl rfl ?_
  refine r_goto (tgt := 18) hX dX2_withDates_48 (by decide) ?_
  refine r_iload hX dX2_withDates_18 rfl ?_
  refine r_bipushZ hX dX2_withDates_20 (by decide) ?_
  refine r_icmp_geZ (tgt := 51) hX dX2_withDates_22 (by decide) (by decide) (by decide) (fun q => absurd q (by decide)) (fun _ => ?_)
  refine r_lload_n hX dX2_withDates_25 rfl rfl ?_
  refine r_aload_n hX dX2_withDates_26 rfl rfl ?_
  refine r_get hX kf_X2_20 0 rfl rfl dX2_withDates_27 ?_
  refine r_iload hX dX2_withDates_30 rfl ?_
  refine r_callS hX (z_X2_at_ok ad cs _ 3 _ 4 0 rfl (by decide) _ 1 (by omega) (by decide)) ks_X2_84 rfl rfl (Nat.le_of_ble_eq_true rfl) ⟨(Nat.le_of_ble_eq_true rfl), (Nat.le_of_ble_eq_true rfl)⟩ ⟨(Nat.le_of_ble_eq_true rfl), (Nat.le_of_ble_eq_true rfl)⟩ dX2_withDates_32 (fun _ _ z => False.elim z) (fun v9 ws9 h73 => ?_)
  obtain ⟨rfl, hw9⟩ := h73
  subst ws9
  dsimp only [mPush]
  refine r_iload hX dX2_withDates_35 rfl ?_
  refine r_callS hX (z_X2_datePart _ _ (1 + 5) _ _ _ _ (zWd_loc (d := 1) (by decide)) (zrg hS (by decide)) _ (by omega) (by omega)) ks_X2_175 rfl rfl (Nat.le_of_ble_eq_true rfl) ⟨(Nat.le_of_ble_eq_true rfl), (Nat.le_of_ble_eq_true rfl)⟩ ⟨(Nat.le_of_ble_eq_true rfl), (Nat.le_of_ble_eq_true rfl)⟩ dX2_withDates_37 (fun _ _ z => False.elim z) (fun v9 ws9 h74 => ?_)
  obtain ⟨rfl, hw9⟩ := h74
  subst ws9
  dsimp only [mPush]
  refine r_i2lZ hX dX2_withDates_40 (hbD1 _) ?_
  refine r_callS hX (z_X2_added _ _ _ _) ks_X2_247 rfl rfl (Nat.le_of_ble_eq_true rfl) ⟨(Nat.le_of_ble_eq_true rfl), (Nat.le_of_ble_eq_true rfl)⟩ ⟨(Nat.le_of_ble_eq_true rfl), (Nat.le_of_ble_eq_true rfl)⟩ dX2_withDates_41 (fun _ _ z => False.elim z) (fun v9 ws9 h75 => ?_)
  obtain ⟨rfl, hw9⟩ := h75
  subst ws9
  dsimp only [mPush]
  refine r_lstore_n hX dX2_withDates_44 rfl (by decide) rfl ?_
  refine r_iincZ (z := 1) (y := 12) hX dX2_withDates_45 rfl (by decide) rfl rfl ?_
  refine r_goto (tgt := 18) hX dX2_withDates_48 (by decide) ?_
  refine r_iload hX dX2_withDates_18 rfl ?_
  refine r_bipushZ hX dX2_withDates_20 (by decide) ?_
  refine r_icmp_geZ (tgt := 51) hX dX2_withDates_22 (by decide) (by decide) (by decide) (fun q => absurd q (by decide)) (fun _ => ?_)
  refine r_lload_n hX dX2_withDates_25 rfl rfl ?_
  refine r_aload_n hX dX2_withDates_26 rfl rfl ?_
  refine r_get hX kf_X2_20 0 rfl rfl dX2_withDates_27 ?_
  refine r_iload hX dX2_withDates_30 rfl ?_
  refine r_callS hX (z_X2_at_ok ad cs _ 3 _ 4 0 rfl (by decide) _ 1 (by omega) (by decide)) ks_X2_84 rfl rfl (Nat.le_of_ble_eq_true rfl) ⟨(Nat.le_of_ble_eq_true rfl), (Nat.le_of_ble_eq_true rfl)⟩ ⟨(Nat.le_of_ble_eq_true rfl), (Nat.le_of_ble_eq_true rfl)⟩ dX2_withDates_32 (fun _ _ z => False.elim z) (fun v9 ws9 h76 => ?_)
  obtain ⟨rfl, hw9⟩ := h76
  subst ws9
  dsimp only [mPush]
  refine r_iload hX dX2_withDates_35 rfl ?_
  refine r_callS hX (z_X2_datePart _ _ (1 + 5) _ _ _ _ (zWd_loc (d := 1) (by decide)) (zrg hS (by decide)) _ (by omega) (by omega)) ks_X2_175 rfl rfl (Nat.le_of_ble_eq_true rfl) ⟨(Nat.le_of_ble_eq_true rfl), (Nat.le_of_ble_eq_true rfl)⟩ ⟨(Nat.le_of_ble_eq_true rfl), (Nat.le_of_ble_eq_true rfl)⟩ dX2_withDates_37 (fun _ _ z => False.elim z) (fun v9 ws9 h77 => ?_)
  obtain ⟨rfl, hw9⟩ := h77
  subst ws9
  dsimp only [mPush]
  refine r_i2lZ hX dX2_withDates_40 (hbD1 _) ?_
  refine r_callS hX (z_X2_added _ _ _ _) ks_X2_247 rfl rfl (Nat.le_of_ble_eq_true rfl) ⟨(Nat.le_of_ble_eq_true rfl), (Nat.le_of_ble_eq_true rfl)⟩ ⟨(Nat.le_of_ble_eq_true rfl), (Nat.le_of_ble_eq_true rfl)⟩ dX2_withDates_41 (fun _ _ z => False.elim z) (fun v9 ws9 h78 => ?_)
  obtain ⟨rfl, hw9⟩ := h78
  subst ws9
  dsimp only [mPush]
  refine r_lstore_n hX dX2_withDates_44 rfl (by decide) rfl ?_
  refine r_iincZ (z := 1) (y := 13) hX dX2_withDates_45 rfl (by decide) rfl rfl ?_
  refine r_goto (tgt := 18) hX dX2_withDates_48 (by decide) ?_
  refine r_iload hX dX2_withDates_18 rfl ?_
  refine r_bipushZ hX dX2_withDates_20 (by decide) ?_
  refine r_icmp_geZ (tgt := 51) hX dX2_withDates_22 (by decide) (by decide) (by decide) (fun _ => ?_) (fun q => absurd (by decide) q)
  refine r_iincZ (z := 1) (y := 2) hX dX2_withDates_51 rfl (by decide) rfl rfl ?_
  refine r_goto (tgt := 5) hX dX2_withDates_54 (by decide) ?_
  refine r_iload hX dX2_withDates_5 rfl ?_
  refine r_aload_n hX dX2_withDates_7 rfl rfl ?_
  refine r_get hX kf_X2_20 0 rfl rfl dX2_withDates_8 ?_
  refine r_alen (v := iZ 4) hX 3 2 rfl rfl rfl dX2_withDates_11 ?_
  refine r_icmp_geZ (tgt := 57) hX dX2_withDates_12 (by decide) (by decide) (by decide) (fun q => absurd q (by decide)) (fun _ => ?_)
  refine r_iconstZ hX dX2_withDates_15 ?_
  refine r_istore hX dX2_withDates_16 (by decide) rfl ?_
  refine r_iload hX dX2_withDates_18 rfl ?_
  refine r_bipushZ hX dX2_withDates_20 (by decide) ?_
  refine r_icmp_geZ (tgt := 51) hX dX2_withDates_22 (by decide) (by decide) (by decide) (fun q => absurd q (by decide)) (fun _ => ?_)
  refine r_lload_n hX dX2_withDates_25 rfl rfl ?_
  refine r_aload_n hX dX2_withDates_26 rfl rfl ?_
  refine r_get hX kf_X2_20 0 rfl rfl dX2_withDates_27 ?_
  refine r_iload hX dX2_withDates_30 rfl ?_
  refine r_callS hX (z_X2_at_ok ad cs _ 3 _ 4 0 rfl (by decide) _ 2 (by omega) (by decide)) ks_X2_84 rfl rfl (Nat.le_of_ble_eq_true rfl) ⟨(Nat.le_of_ble_eq_true rfl), (Nat.le_of_ble_eq_true rfl)⟩ ⟨(Nat.le_of_ble_eq_true rfl), (Nat.le_of_ble_eq_true rfl)⟩ dX2_withDates_32 (fun _ _ z => False.elim z) (fun v9 ws9 h79 => ?_)
  obtain ⟨rfl, hw9⟩ := h79
  subst ws9
  dsimp only [mPush]
  refine r_iload hX dX2_withDates_35 rfl ?_
  refine r_callS hX (z_X2_datePart _ _ (2 + 5) _ _ _ _ (zWd_loc (d := 2) (by decide)) (zrg hS (by decide)) _ (by omega) (by omega)) ks_X2_175 rfl rfl (Nat.le_of_ble_eq_true rfl) ⟨(Nat.le_of_ble_eq_true rfl), (Nat.le_of_ble_eq_true rfl)⟩ ⟨(Nat.le_of_ble_eq_true rfl), (Nat.le_of_ble_eq_true rfl)⟩ dX2_withDates_37 (fun _ _ z => False.elim z) (fun v9 ws9 h80 => ?_)
  obtain ⟨rfl, hw9⟩ := h80
  subst ws9
  dsimp only [mPush]
  refine r_i2lZ hX dX2_withDates_40 (hbD2 _) ?_
  refine r_callS hX (z_X2_added _ _ _ _) ks_X2_247 rfl rfl (Nat.le_of_ble_eq_true rfl) ⟨(Nat.le_of_ble_eq_true rfl), (Nat.le_of_ble_eq_true rfl)⟩ ⟨(Nat.le_of_ble_eq_true rfl), (Nat.le_of_ble_eq_true rfl)⟩ dX2_withDates_41 (fun _ _ z => False.elim z) (fun v9 ws9 h81 => ?_)
  obtain ⟨rfl, hw9⟩ := h81
  subst ws9
  dsimp only [mPush]
  refine r_lstore_n hX dX2_withDates_44 rfl (by decide) rfl ?_
  refine r_iincZ (z := 1) (y := 1) hX dX2_withDates_45 rfl (by decide) rfl rfl ?_
  refine r_goto (tgt := 18) hX dX2_withDates_48 (by decide) ?_
  refine r_iload hX dX2_withDates_18 rfl ?_
  refine r_bipushZ hX dX2_withDates_20 (by decide) ?_
  refine r_icmp_geZ (tgt := 51) hX dX2_withDates_22 (by decide) (by decide) (by decide) (fun q => absurd q (by decide)) (fun _ => ?_)
  refine r_lload_n hX dX2_withDates_25 rfl rfl ?_
  refine r_aload_n hX dX2_withDates_26 rfl rfl ?_
  refine r_get hX kf_X2_20 0 rfl rfl dX2_withDates_27 ?_
  refine r_iload hX dX2_withDates_30 rfl ?_
  refine r_callS hX (z_X2_at_ok ad cs _ 3 _ 4 0 rfl (by decide) _ 2 (by omega) (by decide)) ks_X2_84 rfl rfl (Nat.le_of_ble_eq_true rfl) ⟨(Nat.le_of_ble_eq_true rfl), (Nat.le_of_ble_eq_true rfl)⟩ ⟨(Nat.le_of_ble_eq_true rfl), (Nat.le_of_ble_eq_true rfl)⟩ dX2_withDates_32 (fun _ _ z => False.elim z) (fun v9 ws9 h82 => ?_)
  obtain ⟨rfl, hw9⟩ := h82
  subst ws9
  dsimp only [mPush]
  refine r_iload hX dX2_withDates_35 rfl ?_
  refine r_callS hX (z_X2_datePart _ _ (2 + 5) _ _ _ _ (zWd_loc (d := 2) (by decide)) (zrg hS (by decide)) _ (by omega) (by omega)) ks_X2_175 rfl rfl (Nat.le_of_ble_eq_true rfl) ⟨(Nat.le_of_ble_eq_true rfl), (Nat.le_of_ble_eq_true rfl)⟩ ⟨(Nat.le_of_ble_eq_true rfl), (Nat.le_of_ble_eq_true rfl)⟩ dX2_withDates_37 (fun _ _ z => False.elim z) (fun v9 ws9 h83 => ?_)
  obtain ⟨rfl, hw9⟩ := h83
  subst ws9
  dsimp only [mPush]
  refine r_i2lZ hX dX2_withDates_40 (hbD2 _) ?_
  refine r_callS hX (z_X2_added _ _ _ _) ks_X2_247 rfl rfl (Nat.le_of_ble_eq_true rfl) ⟨(Nat.le_of_ble_eq_true rfl), (Nat.le_of_ble_eq_true rfl)⟩ ⟨(Nat.le_of_ble_eq_true rfl), (Nat.le_of_ble_eq_true rfl)⟩ dX2_withDates_41 (fun _ _ z => False.elim z) (fun v9 ws9 h84 => ?_)
  obtain ⟨rfl, hw9⟩ := h84
  subst ws9
  dsimp only [mPush]
  refine r_lstore_n hX dX2_withDates_44 rfl (by decide) rfl ?_
  refine r_iincZ (z := 1) (y := 2) hX dX2_withDates_45 rfl (by decide) rfl rfl ?_
  refine r_goto (tgt := 18) hX dX2_withDates_48 (by decide) ?_
  refine r_iload hX dX2_withDates_18 rfl ?_
  refine r_bipushZ hX dX2_withDates_20 (by decide) ?_
  refine r_icmp_geZ (tgt := 51) hX dX2_withDates_22 (by decide) (by decide) (by decide) (fun q => absurd q (by decide)) (fun _ => ?_)
  refine r_lload_n hX dX2_withDates_25 rfl rfl ?_
  refine r_aload_n hX dX2_withDates_26 rfl rfl ?_
  refine r_get hX kf_X2_20 0 rfl rfl dX2_withDates_27 ?_
  refine r_iload hX dX2_withDates_30 rfl ?_
  refine r_callS hX (z_X2_at_ok ad cs _ 3 _ 4 0 rfl (by decide) _ 2 (by omega) (by decide)) ks_X2_84 rfl rfl (Nat.le_of_ble_eq_true rfl) ⟨(Nat.le_of_ble_eq_true rfl), (Nat.le_of_ble_eq_true rfl)⟩ ⟨(Nat.le_of_ble_eq_true rfl), (Nat.le_of_ble_eq_true rfl)⟩ dX2_withDates_32 (fun _ _ z => False.elim z) (fun v9 ws9 h85 => ?_)
  obtain ⟨rfl, hw9⟩ := h85
  subst ws9
  dsimp only [mPush]
  refine r_iload hX dX2_withDates_35 rfl ?_
  refine r_callS hX (z_X2_datePart _ _ (2 + 5) _ _ _ _ (zWd_loc (d := 2) (by decide)) (zrg hS (by decide)) _ (by omega) (by omega)) ks_X2_175 rfl rfl (Nat.le_of_ble_eq_true rfl) ⟨(Nat.le_of_ble_eq_true rfl), (Nat.le_of_ble_eq_true rfl)⟩ ⟨(Nat.le_of_ble_eq_true rfl), (Nat.le_of_ble_eq_true rfl)⟩ dX2_withDates_37 (fun _ _ z => False.elim z) (fun v9 ws9 h86 => ?_)
  obtain ⟨rfl, hw9⟩ := h86
  subst ws9
  dsimp only [mPush]
  refine r_i2lZ hX dX2_withDates_40 (hbD2 _) ?_
  refine r_callS hX (z_X2_added _ _ _ _) ks_X2_247 rfl rfl (Nat.le_of_ble_eq_true rfl) ⟨(Nat.le_of_ble_eq_true rfl), (Nat.le_of_ble_eq_true rfl)⟩ ⟨(Nat.le_of_ble_eq_true rfl), (Nat.le_of_ble_eq_true rfl)⟩ dX2_withDates_41 (fun _ _ z => False.elim z) (fun v9 ws9 h87 => ?_)
  obtain ⟨rfl, hw9⟩ := h87
  subst ws9
  dsimp only [mPush]
  refine r_lstore_n hX dX2_withDates_44 rfl (by decide) rfl ?_
  refine r_iincZ (z := 1) (y := 3) hX dX2_withDates_45 rfl (by decide) rfl rfl ?_
  refine r_goto (tgt := 18) hX dX2_withDates_48 (by decide) ?_
  refine r_iload hX dX2_withDates_18 rfl ?_
  refine r_bipushZ hX dX2_withDates_20 (by decide) ?_
  refine r_icmp_geZ (tgt := 51) hX dX2_withDates_22 (by decide) (by decide) (by decide) (fun q => absurd q (by decide)) (fun _ => ?_)
  refine r_lload_n hX dX2_withDates_25 rfl rfl ?_
  refine r_aload_n hX dX2_withDates_26 rfl rfl ?_
  refine r_get hX kf_X2_20 0 rfl rfl dX2_withDates_27 ?_
  refine r_iload hX dX2_withDates_30 rfl ?_
  refine r_callS hX (z_X2_at_ok ad cs _ 3 _ 4 0 rfl (by decide) _ 2 (by omega) (by decide)) ks_X2_84 rfl rfl (Nat.le_of_ble_eq_true rfl) ⟨(Nat.le_of_ble_eq_true rfl), (Nat.le_of_ble_eq_true rfl)⟩ ⟨(Nat.le_of_ble_eq_true rfl), (Nat.le_of_ble_eq_true rfl)⟩ dX2_withDates_32 (fun _ _ z => False.elim z) (fun v9 ws9 h88 => ?_)
  obtain ⟨rfl, hw9⟩ := h88
  subst ws9
  dsimp only [mPush]
  refine r_iload hX dX2_withDates_35 rfl ?_
  refine r_callS hX (z_X2_datePart _ _ (2 + 5) _ _ _ _ (zWd_loc (d := 2) (by decide)) (zrg hS (by decide)) _ (by omega) (by omega)) ks_X2_175 rfl rfl (Nat.le_of_ble_eq_true rfl) ⟨(Nat.le_of_ble_eq_true rfl), (Nat.le_of_ble_eq_true rfl)⟩ ⟨(Nat.le_of_ble_eq_true rfl), (Nat.le_of_ble_eq_true rfl)⟩ dX2_withDates_37 (fun _ _ z => False.elim z) (fun v9 ws9 h89 => ?_)
  obtain ⟨rfl, hw9⟩ := h89
  subst ws9
  dsimp only [mPush]
  refine r_i2lZ hX dX2_withDates_40 (hbD2 _) ?_
  refine r_callS hX (z_X2_added _ _ _ _) ks_X2_247 rfl rfl (Nat.le_of_ble_eq_true rfl) ⟨(Nat.le_of_ble_eq_true rfl), (Nat.le_of_ble_eq_true rfl)⟩ ⟨(Nat.le_of_ble_eq_true rfl), (Nat.le_of_ble_eq_true rfl)⟩ dX2_withDates_41 (fun _ _ z => False.elim z) (fun v9 ws9 h90 => ?_)
  obtain ⟨rfl, hw9⟩ := h90
  subst ws9
  dsimp only [mPush]
  refine r_lstore_n hX dX2_withDates_44 rfl (by decide) rfl ?_
  refine r_iincZ (z := 1) (y := 4) hX dX2_withDates_45 rfl (by decide) rfl rfl ?_
  refine r_goto (tgt := 18) hX dX2_withDates_48 (by decide) ?_
  refine r_iload hX dX2_withDates_18 rfl ?_
  refine r_bipushZ hX dX2_withDates_20 (by decide) ?_
  refine r_icmp_geZ (tgt := 51) hX dX2_withDates_22 (by decide) (by decide) (by decide) (fun q => absurd q (by decide)) (fun _ => ?_)
  refine r_lload_n hX dX2_withDates_25 rfl rfl ?_
  refine r_aload_n hX dX2_withDates_26 rfl rfl ?_
  refine r_get hX kf_X2_20 0 rfl rfl dX2_withDates_27 ?_
  refine r_iload hX dX2_withDates_30 rfl ?_
  refine r_callS hX (z_X2_at_ok ad cs _ 3 _ 4 0 rfl (by decide) _ 2 (by omega) (by decide)) ks_X2_84 rfl rfl (Nat.le_of_ble_eq_true rfl) ⟨(Nat.le_of_ble_eq_true rfl), (Nat.le_of_ble_eq_true rfl)⟩ ⟨(Nat.le_of_ble_eq_true rfl), (Nat.le_of_ble_eq_true rfl)⟩ dX2_withDates_32 (fun _ _ z => False.elim z) (fun v9 ws9 h91 => ?_)
  obtain ⟨rfl, hw9⟩ := h91
  subst ws9
  dsimp only [mPush]
  refine r_iload hX dX2_withDates_35 rfl ?_
  refine r_callS hX (z_X2_datePart _ _ (2 + 5) _ _ _ _ (zWd_loc (d := 2) (by decide)) (zrg hS (by decide)) _ (by omega) (by omega)) ks_X2_175 rfl rfl (Nat.le_of_ble_eq_true rfl) ⟨(Nat.le_of_ble_eq_true rfl), (Nat.le_of_ble_eq_true rfl)⟩ ⟨(Nat.le_of_ble_eq_true rfl), (Nat.le_of_ble_eq_true rfl)⟩ dX2_withDates_37 (fun _ _ z => False.elim z) (fun v9 ws9 h92 => ?_)
  obtain ⟨rfl, hw9⟩ := h92
  subst ws9
  dsimp only [mPush]
  refine r_i2lZ hX dX2_withDates_40 (hbD2 _) ?_
  refine r_callS hX (z_X2_added _ _ _ _) ks_X2_247 rfl rfl (Nat.le_of_ble_eq_true rfl) ⟨(Nat.le_of_ble_eq_true rfl), (Nat.le_of_ble_eq_true rfl)⟩ ⟨(Nat.le_of_ble_eq_true rfl), (Nat.le_of_ble_eq_true rfl)⟩ dX2_withDates_41 (fun _ _ z => False.elim z) (fun v9 ws9 h93 => ?_)
  obtain ⟨rfl, hw9⟩ := h93
  subst ws9
  dsimp only [mPush]
  refine r_lstore_n hX dX2_withDates_44 rfl (by decide) rfl ?_
  refine r_iincZ (z := 1) (y := 5) hX dX2_withDates_45 rfl (by decide) rfl rfl ?_
  refine r_goto (tgt := 18) hX dX2_withDates_48 (by decide) ?_
  refine r_iload hX dX2_withDates_18 rfl ?_
  refine r_bipushZ hX dX2_withDates_20 (by decide) ?_
  refine r_icmp_geZ (tgt := 51) hX dX2_withDates_22 (by decide) (by decide) (by decide) (fun q => absurd q (by decide)) (fun _ => ?_)
  refine r_lload_n hX dX2_withDates_25 rfl rfl ?_
  refine r_aload_n hX dX2_withDates_26 rfl rfl ?_
  refine r_get hX kf_X2_20 0 rfl rfl dX2_withDates_27 ?_
  refine r_iload hX dX2_withDates_30 rfl ?_
  refine r_callS hX (z_X2_at_ok ad cs _ 3 _ 4 0 rfl (by decide) _ 2 (by omega) (by decide)) ks_X2_84 rfl rfl (Nat.le_of_ble_eq_true rfl) ⟨(Nat.le_of_ble_eq_true rfl), (Nat.le_of_ble_eq_true rfl)⟩ ⟨(Nat.le_of_ble_eq_true rfl), (Nat.le_of_ble_eq_true rfl)⟩ dX2_withDates_32 (fun _ _ z => False.elim z) (fun v9 ws9 h94 => ?_)
  obtain ⟨rfl, hw9⟩ := h94
  subst ws9
  dsimp only [mPush]
  refine r_iload hX dX2_withDates_35 rfl ?_
  refine r_callS hX (z_X2_datePart _ _ (2 + 5) _ _ _ _ (zWd_loc (d := 2) (by decide)) (zrg hS (by decide)) _ (by omega) (by omega)) ks_X2_175 rfl rfl (Nat.le_of_ble_eq_true rfl) ⟨(Nat.le_of_ble_eq_true rfl), (Nat.le_of_ble_eq_true rfl)⟩ ⟨(Nat.le_of_ble_eq_true rfl), (Nat.le_of_ble_eq_true rfl)⟩ dX2_withDates_37 (fun _ _ z => False.elim z) (fun v9 ws9 h95 => ?_)
  obtain ⟨rfl, hw9⟩ := h95
  subst ws9
  dsimp only [mPush]
  refine r_i2lZ hX dX2_withDates_40 (hbD2 _) ?_
  refine r_callS hX (z_X2_added _ _ _ _) ks_X2_247 rfl rfl (Nat.le_of_ble_eq_true rfl) ⟨(Nat.le_of_ble_eq_true rfl), (Nat.le_of_ble_eq_true rfl)⟩ ⟨(Nat.le_of_ble_eq_true rfl), (Nat.le_of_ble_eq_true rfl)⟩ dX2_withDates_41 (fun _ _ z => False.elim z) (fun v9 ws9 h96 => ?_)
  obtain ⟨rfl, hw9⟩ := h96
  subst ws9
  dsimp only [mPush]
  refine r_lstore_n hX dX2_withDates_44 rfl (by decide) rfl ?_
  refine r_iincZ (z := 1) (y := 6) hX dX2_withDates_45 rfl (by decide) rfl rfl ?_
  refine r_goto (tgt := 18) hX dX2_withDates_48 (by decide) ?_
  refine r_iload hX dX2_withDates_18 rfl ?_
  refine r_bipushZ hX dX2_withDates_20 (by decide) ?_
  refine r_icmp_geZ (tgt := 51) hX dX2_withDates_22 (by decide) (by decide) (by decide) (fun q => absurd q (by decide)) (fun _ => ?_)
  refine r_lload_n hX dX2_withDates_25 rfl rfl ?_
  refine r_aload_n hX dX2_withDates_26 rfl rfl ?_
  refine r_get hX kf_X2_20 0 rfl rfl dX2_withDates_27 ?_
  refine r_iload hX dX2_withDates_30 rfl ?_
  refine r_callS hX (z_X2_at_ok ad cs _ 3 _ 4 0 rfl (by decide) _ 2 (by omega) (by decide)) ks_X2_84 rfl rfl (Nat.le_of_ble_eq_true rfl) ⟨(Nat.le_of_ble_eq_true rfl), (Nat.le_of_ble_eq_true rfl)⟩ ⟨(Nat.le_of_ble_eq_true rfl), (Nat.le_of_ble_eq_true rfl)⟩ dX2_withDates_32 (fun _ _ z => False.elim z) (fun v9 ws9 h97 => ?_)
  obtain ⟨rfl, hw9⟩ := h97
  subst ws9
  dsimp only [mPush]
  refine r_iload hX dX2_withDates_35 rfl ?_
  refine r_callS hX (z_X2_datePart _ _ (2 + 5) _ _ _ _ (zWd_loc (d := 2) (by decide)) (zrg hS (by decide)) _ (by omega) (by omega)) ks_X2_175 rfl rfl (Nat.le_of_ble_eq_true rfl) ⟨(Nat.le_of_ble_eq_true rfl), (Nat.le_of_ble_eq_true rfl)⟩ ⟨(Nat.le_of_ble_eq_true rfl), (Nat.le_of_ble_eq_true rfl)⟩ dX2_withDates_37 (fun _ _ z => False.elim z) (fun v9 ws9 h98 => ?_)
  obtain ⟨rfl, hw9⟩ := h98
  subst ws9
  dsimp only [mPush]
  refine r_i2lZ hX dX2_withDates_40 (hbD2 _) ?_
  refine r_callS hX (z_X2_added _ _ _ _) ks_X2_247 rfl rfl (Nat.le_of_ble_eq_true rfl) ⟨(Nat.le_of_ble_eq_true rfl), (Nat.le_of_ble_eq_true rfl)⟩ ⟨(Nat.le_of_ble_eq_true rfl), (Nat.le_of_ble_eq_true rfl)⟩ dX2_withDates_41 (fun _ _ z => False.elim z) (fun v9 ws9 h99 => ?_)
  obtain ⟨rfl, hw9⟩ := h99
  subst ws9
  dsimp only [mPush]
  refine r_lstore_n hX dX2_withDates_44 rfl (by decide) rfl ?_
  refine r_iincZ (z := 1) (y := 7) hX dX2_withDates_45 rfl (by decide) rfl rfl ?_
  refine r_goto (tgt := 18) hX dX2_withDates_48 (by decide) ?_
  refine r_iload hX dX2_withDates_18 rfl ?_
  refine r_bipushZ hX dX2_withDates_20 (by decide) ?_
  refine r_icmp_geZ (tgt := 51) hX dX2_withDates_22 (by decide) (by decide) (by decide) (fun q => absurd q (by decide)) (fun _ => ?_)
  refine r_lload_n hX dX2_withDates_25 rfl rfl ?_
  refine r_aload_n hX dX2_withDates_26 rfl rfl ?_
  refine r_get hX kf_X2_20 0 rfl rfl dX2_withDates_27 ?_
  refine r_iload hX dX2_withDates_30 rfl ?_
  refine r_callS hX (z_X2_at_ok ad cs _ 3 _ 4 0 rfl (by decide) _ 2 (by omega) (by decide)) ks_X2_84 rfl rfl (Nat.le_of_ble_eq_true rfl) ⟨(Nat.le_of_ble_eq_true rfl), (Nat.le_of_ble_eq_true rfl)⟩ ⟨(Nat.le_of_ble_eq_true rfl), (Nat.le_of_ble_eq_true rfl)⟩ dX2_withDates_32 (fun _ _ z => False.elim z) (fun v9 ws9 h100 => ?_)
  obtain ⟨rfl, hw9⟩ := h100
  subst ws9
  dsimp only [mPush]
  refine r_iload hX dX2_withDates_35 rfl ?_
  refine r_callS hX (z_X2_datePart _ _ (2 + 5) _ _ _ _ (zWd_loc (d := 2) (by decide)) (zrg hS (by decide)) _ (by omega) (by omega)) ks_X2_175 rfl rfl (Nat.le_of_ble_eq_true rfl) ⟨(Nat.le_of_ble_eq_true rfl), (Nat.le_of_ble_eq_true rfl)⟩ ⟨(Nat.le_of_ble_eq_true rfl), (Nat.le_of_ble_eq_true rfl)⟩ dX2_withDates_37 (fun _ _ z => False.elim z) (fun v9 ws9 h101 => ?_)
  obtain ⟨rfl, hw9⟩ := h101
  subst ws9
  dsimp only [mPush]
  refine r_i2lZ hX dX2_withDates_40 (hbD2 _) ?_
  refine r_callS hX (z_X2_added _ _ _ _) ks_X2_247 rfl rfl (Nat.le_of_ble_eq_true rfl) ⟨(Nat.le_of_ble_eq_true rfl), (Nat.le_of_ble_eq_true rfl)⟩ ⟨(Nat.le_of_ble_eq_true rfl), (Nat.le_of_ble_eq_true rfl)⟩ dX2_withDates_41 (fun _ _ z => False.elim z) (fun v9 ws9 h102 => ?_)
  obtain ⟨rfl, hw9⟩ := h102
  subst ws9
  dsimp only [mPush]
  refine r_lstore_n hX dX2_withDates_44 rfl (by decide) rfl ?_
  refine r_iincZ (z := 1) (y := 8) hX dX2_withDates_45 rfl (by decide) rfl rfl ?_
  refine r_goto (tgt := 18) hX dX2_withDates_48 (by decide) ?_
  refine r_iload hX dX2_withDates_18 rfl ?_
  refine r_bipushZ hX dX2_withDates_20 (by decide) ?_
  refine r_icmp_geZ (tgt := 51) hX dX2_withDates_22 (by decide) (by decide) (by decide) (fun q => absurd q (by decide)) (fun _ => ?_)
  refine r_lload_n hX dX2_withDates_25 rfl rfl ?_
  refine r_aload_n hX dX2_withDates_26 rfl rfl ?_
  refine r_get hX kf_X2_20 0 rfl rfl dX2_withDates_27 ?_
  refine r_iload hX dX2_withDates_30 rfl ?_
  refine r_callS hX (z_X2_at_ok ad cs _ 3 _ 4 0 rfl (by decide) _ 2 (by omega) (by decide)) ks_X2_84 rfl rfl (Nat.le_of_ble_eq_true rfl) ⟨(Nat.le_of_ble_eq_true rfl), (Nat.le_of_ble_eq_true rfl)⟩ ⟨(Nat.le_of_ble_eq_true rfl), (Nat.le_of_ble_eq_true rfl)⟩ dX2_withDates_32 (fun _ _ z => False.elim z) (fun v9 ws9 h103 => ?_)
  obtain ⟨rfl, hw9⟩ := h103
  subst ws9
  dsimp only [mPush]
  refine r_iload hX dX2_withDates_35 rfl ?_
  refine r_callS hX (z_X2_datePart _ _ (2 + 5) _ _ _ _ (zWd_loc (d := 2) (by decide)) (zrg hS (by decide)) _ (by omega) (by omega)) ks_X2_175 rfl rfl (Nat.le_of_ble_eq_true rfl) ⟨(Nat.le_of_ble_eq_true rfl), (Nat.le_of_ble_eq_true rfl)⟩ ⟨(Nat.le_of_ble_eq_true rfl), (Nat.le_of_ble_eq_true rfl)⟩ dX2_withDates_37 (fun _ _ z => False.elim z) (fun v9 ws9 h104 => ?_)
  obtain ⟨rfl, hw9⟩ := h104
  subst ws9
  dsimp only [mPush]
  refine r_i2lZ hX dX2_withDates_40 (hbD2 _) ?_
  refine r_callS hX (z_X2_added _ _ _ _) ks_X2_247 rfl rfl (Nat.le_of_ble_eq_true rfl) ⟨(Nat.le_of_ble_eq_true rfl), (Nat.le_of_ble_eq_true rfl)⟩ ⟨(Nat.le_of_ble_eq_true rfl), (Nat.le_of_ble_eq_true rfl)⟩ dX2_withDates_41 (fun _ _ z => False.elim z) (fun v9 ws9 h105 => ?_)
  obtain ⟨rfl, hw9⟩ := h105
  subst ws9
  dsimp only [mPush]
  refine r_lstore_n hX dX2_withDates_44 rfl (by decide) rfl ?_
  refine r_iincZ (z := 1) (y := 9) hX dX2_withDates_45 rfl (by decide) rfl rfl ?_
  refine r_goto (tgt := 18) hX dX2_withDates_48 (by decide) ?_
  refine r_iload hX dX2_withDates_18 rfl ?_
  refine r_bipushZ hX dX2_withDates_20 (by decide) ?_
  refine r_icmp_geZ (tgt := 51) hX dX2_withDates_22 (by decide) (by decide) (by decide) (fun q => absurd q (by decide)) (fun _ => ?_)
  refine r_lload_n hX dX2_withDates_25 rfl rfl ?_
  refine r_aload_n hX dX2_withDates_26 rfl rfl ?_
  refine r_get hX kf_X2_20 0 rfl rfl dX2_withDates_27 ?_
  refine r_iload hX dX2_withDates_30 rfl ?_
  refine r_callS hX (z_X2_at_ok ad cs _ 3 _ 4 0 rfl (by decide) _ 2 (by omega) (by decide)) ks_X2_84 rfl rfl (Nat.le_of_ble_eq_true rfl) ⟨(Nat.le_of_ble_eq_true rfl), (Nat.le_of_ble_eq_true rfl)⟩ ⟨(Nat.le_of_ble_eq_true rfl), (Nat.le_of_ble_eq_true rfl)⟩ dX2_withDates_32 (fun _ _ z => False.elim z) (fun v9 ws9 h106 => ?_)
  obtain ⟨rfl, hw9⟩ := h106
  subst ws9
  dsimp only [mPush]
  refine r_iload hX dX2_withDates_35 rfl ?_
  refine r_callS hX (z_X2_datePart _ _ (2 + 5) _ _ _ _ (zWd_loc (d := 2) (by decide)) (zrg hS (by decide)) _ (by omega) (by omega)) ks_X2_175 rfl rfl (Nat.le_of_ble_eq_true rfl) ⟨(Nat.le_of_ble_eq_true rfl), (Nat.le_of_ble_eq_true rfl)⟩ ⟨(Nat.le_of_ble_eq_true rfl), (Nat.le_of_ble_eq_true rfl)⟩ dX2_withDates_37 (fun _ _ z => False.elim z) (fun v9 ws9 h107 => ?_)
  obtain ⟨rfl, hw9⟩ := h107
  subst ws9
  dsimp only [mPush]
  refine r_i2lZ hX dX2_withDates_40 (hbD2 _) ?_
  refine r_callS hX (z_X2_added _ _ _ _) ks_X2_247 rfl rfl (Nat.le_of_ble_eq_true rfl) ⟨(Nat.le_of_ble_eq_true rfl), (Nat.le_of_ble_eq_true rfl)⟩ ⟨(Nat.le_of_ble_eq_true rfl), (Nat.le_of_ble_eq_true rfl)⟩ dX2_withDates_41 (fun _ _ z => False.elim z) (fun v9 ws9 h108 => ?_)
  obtain ⟨rfl, hw9⟩ := h108
  subst ws9
  dsimp only [mPush]
  refine r_lstore_n hX dX2_withDates_44 rfl (by decide) rfl ?_
  refine r_iincZ (z := 1) (y := 10) hX dX2_withDates_45 rfl (by decide) rfl rfl ?_
  refine r_goto (tgt := 18) hX dX2_withDates_48 (by decide) ?_
  refine r_iload hX dX2_withDates_18 rfl ?_
  refine r_bipushZ hX dX2_withDates_20 (by decide) ?_
  refine r_icmp_geZ (tgt := 51) hX dX2_withDates_22 (by decide) (by decide) (by decide) (fun q => absurd q (by decide)) (fun _ => ?_)
  refine r_lload_n hX dX2_withDates_25 rfl rfl ?_
  refine r_aload_n hX dX2_withDates_26 rfl rfl ?_
  refine r_get hX kf_X2_20 0 rfl rfl dX2_withDates_27 ?_
  refine r_iload hX dX2_withDates_30 rfl ?_
  refine r_callS hX (z_X2_at_ok ad cs _ 3 _ 4 0 rfl (by decide) _ 2 (by omega) (by decide)) ks_X2_84 rfl rfl (Nat.le_of_ble_eq_true rfl) ⟨(Nat.le_of_ble_eq_true rfl), (Nat.le_of_ble_eq_true rfl)⟩ ⟨(Nat.le_of_ble_eq_true rfl), (Nat.le_of_ble_eq_true rfl)⟩ dX2_withDates_32 (fun _ _ z => False.elim z) (fun v9 ws9 h109 => ?_)
  obtain ⟨rfl, hw9⟩ := h109
  subst ws9
  dsimp only [mPush]
  refine r_iload hX dX2_withDates_35 rfl ?_
  refine r_callS hX (z_X2_datePart _ _ (2 + 5) _ _ _ _ (zWd_loc (d := 2) (by decide)) (zrg hS (by decide)) _ (by omega) (by omega)) ks_X2_175 rfl rfl (Nat.le_of_ble_eq_true rfl) ⟨(Nat.le_of_ble_eq_true rfl), (Nat.le_of_ble_eq_true rfl)⟩ ⟨(Nat.le_of_ble_eq_true rfl), (Nat.le_of_ble_eq_true rfl)⟩ dX2_withDates_37 (fun _ _ z => False.elim z) (fun v9 ws9 h110 => ?_)
  obtain ⟨rfl, hw9⟩ := h110
  subst ws9
  dsimp only [mPush]
  refine r_i2lZ hX dX2_withDates_40 (hbD2 _) ?_
  refine r_callS hX (z_X2_added _ _ _ _) ks_X2_247 rfl rfl (Nat.le_of_ble_eq_true rfl) ⟨(Nat.le_of_ble_eq_true rfl), (Nat.le_of_ble_eq_true rfl)⟩ ⟨(Nat.le_of_ble_eq_true rfl), (Nat.le_of_ble_eq_true rfl)⟩ dX2_withDates_41 (fun _ _ z => False.elim z) (fun v9 ws9 h111 => ?_)
  obtain ⟨rfl, hw9⟩ := h111
  subst ws9
  dsimp only [mPush]
  refine r_lstore_n hX dX2_withDates_44 rfl (by decide) rfl ?_
  refine r_iincZ (z := 1) (y := 11) hX dX2_withDates_45 rfl (by decide) rfl rfl ?_
  refine r_goto (tgt := 18) hX dX2_withDates_48 (by decide) ?_
  refine r_iload hX dX2_withDates_18 rfl ?_
  refine r_bipushZ hX dX2_withDates_20 (by decide) ?_
  refine r_icmp_geZ (tgt := 51) hX dX2_withDates_22 (by decide) (by decide) (by decide) (fun q => absurd q (by decide)) (fun _ => ?_)
  refine r_lload_n hX dX2_withDates_25 rfl rfl ?_
  refine r_aload_n hX dX2_withDates_26 rfl rfl ?_
  refine r_get hX kf_X2_20 0 rfl rfl dX2_withDates_27 ?_
  refine r_iload hX dX2_withDates_30 rfl ?_
  refine r_callS hX (z_X2_at_ok ad cs _ 3 _ 4 0 rfl (by decide) _ 2 (by omega) (by decide)) ks_X2_84 rfl rfl (Nat.le_of_ble_eq_true rfl) ⟨(Nat.le_of_ble_eq_true rfl), (Nat.le_of_ble_eq_true rfl)⟩ ⟨(Nat.le_of_ble_eq_true rfl), (Nat.le_of_ble_eq_true rfl)⟩ dX2_withDates_32 (fun _ _ z => False.elim z) (fun v9 ws9 h112 => ?_)
  obtain ⟨rfl, hw9⟩ := h112
  subst ws9
  dsimp only [mPush]
  refine r_iload hX dX2_withDates_35 rfl ?_
  refine r_callS hX (z_X2_datePart _ _ (2 + 5) _ _ _ _ (zWd_loc (d := 2) (by decide)) (zrg hS (by decide)) _ (by omega) (by omega)) ks_X2_175 rfl rfl (Nat.le_of_ble_eq_true rfl) ⟨(Nat.le_of_ble_eq_true rfl), (Nat.le_of_ble_eq_true rfl)⟩ ⟨(Nat.le_of_ble_eq_true rfl), (Nat.le_of_ble_eq_true rfl)⟩ dX2_withDates_37 (fun _ _ z => False.elim z) (fun v9 ws9 h113 => ?_)
  obtain ⟨rfl, hw9⟩ := h113
  subst ws9
  dsimp only [mPush]
  refine r_i2lZ hX dX2_withDates_40 (hbD2 _) ?_
  refine r_callS hX (z_X2_added _ _ _ _) ks_X2_247 rfl rfl (Nat.le_of_ble_eq_true rfl) ⟨(Nat.le_of_ble_eq_true rfl), (Nat.le_of_ble_eq_true rfl)⟩ ⟨(Nat.le_of_ble_eq_true rfl), (Nat.le_of_ble_eq_true rfl)⟩ dX2_withDates_41 (fun _ _ z => False.elim z) (fun v9 ws9 h114 => ?_)
  obtain ⟨rfl, hw9⟩ := h114
  subst ws9
  dsimp only [mPush]
  refine r_lstore_n hX dX2_withDates_44 rfl (by decide) rfl ?_
  refine r_iincZ (z := 1) (y := 12) hX dX2_withDates_45 rfl (by decide) rfl rfl ?_
  refine r_goto (tgt := 18) hX dX2_withDates_48 (by decide) ?_
  refine r_iload hX dX2_withDates_18 rfl ?_
  refine r_bipushZ hX dX2_withDates_20 (by decide) ?_
  refine r_icmp_geZ (tgt := 51) hX dX2_withDates_22 (by decide) (by decide) (by decide) (fun q => absurd q (by decide)) (fun _ => ?_)
  refine r_lload_n hX dX2_withDates_25 rfl rfl ?_
  refine r_aload_n hX dX2_withDates_26 rfl rfl ?_
  refine r_get hX kf_X2_20 0 rfl rfl dX2_withDates_27 ?_
  refine r_iload hX dX2_withDates_30 rfl ?_
  refine r_callS hX (z_X2_at_ok ad cs _ 3 _ 4 0 rfl (by decide) _ 2 (by omega) (by decide)) ks_X2_84 rfl rfl (Nat.le_of_ble_eq_true rfl) ⟨(Nat.le_of_ble_eq_true rfl), (Nat.le_of_ble_eq_true rfl)⟩ ⟨(Nat.le_of_ble_eq_true rfl), (Nat.le_of_ble_eq_true rfl)⟩ dX2_withDates_32 (fun _ _ z => False.elim z) (fun v9 ws9 h115 => ?_)
  obtain ⟨rfl, hw9⟩ := h115
  subst ws9
  dsimp only [mPush]
  refine r_iload hX dX2_withDates_35 rfl ?_
  refine r_callS hX (z_X2_datePart _ _ (2 + 5) _ _ _ _ (zWd_loc (d := 2) (by decide)) (zrg hS (by decide)) _ (by omega) (by omega)) ks_X2_175 rfl rfl (Nat.le_of_ble_eq_true rfl) ⟨(Nat.le_of_ble_eq_true rfl), (Nat.le_of_ble_eq_true rfl)⟩ ⟨(Nat.le_of_ble_eq_true rfl), (Nat.le_of_ble_eq_true rfl)⟩ dX2_withDates_37 (fun _ _ z => False.elim z) (fun v9 ws9 h116 => ?_)
  obtain ⟨rfl, hw9⟩ := h116
  subst ws9
  dsimp only [mPush]
  refine r_i2lZ hX dX2_withDates_40 (hbD2 _) ?_
  refine r_callS hX (z_X2_added _ _ _ _) ks_X2_247 rfl rfl (Nat.le_of_ble_eq_true rfl) ⟨(Nat.le_of_ble_eq_true rfl), (Nat.le_of_ble_eq_true rfl)⟩ ⟨(Nat.le_of_ble_eq_true rfl), (Nat.le_of_ble_eq_true rfl)⟩ dX2_withDates_41 (fun _ _ z => False.elim z) (fun v9 ws9 h117 => ?_)
  obtain ⟨rfl, hw9⟩ := h117
  subst ws9
  dsimp only [mPush]
  refine r_lstore_n hX dX2_withDates_44 rfl (by decide) rfl ?_
  refine r_iincZ (z := 1) (y := 13) hX dX2_withDates_45 rfl (by decide) rfl rfl ?_
  refine r_goto (tgt := 18) hX dX2_withDates_48 (by decide) ?_
  refine r_iload hX dX2_withDates_18 rfl ?_
  refine r_bipushZ hX dX2_withDates_20 (by decide) ?_
  refine r_icmp_geZ (tgt := 51) hX dX2_withDates_22 (by decide) (by decide) (by decide) (fun _ => ?_) (fun q => absurd (by decide) q)
  refine r_iincZ (z := 1) (y := 3) hX dX2_withDates_51 rfl (by decide) rfl rfl ?_
  refine r_goto (tgt := 5) hX dX2_withDates_54 (by decide) ?_
  refine r_iload hX dX2_withDates_5 rfl ?_
  refine r_aload_n hX dX2_withDates_7 rfl rfl ?_
  refine r_get hX kf_X2_20 0 rfl rfl dX2_withDates_8 ?_
  refine r_alen (v := iZ 4) hX 3 2 rfl rfl rfl dX2_withDates_11 ?_
  refine r_icmp_geZ (tgt := 57) hX dX2_withDates_12 (by decide) (by decide) (by decide) (fun q => absurd q (by decide)) (fun _ => ?_)
  refine r_iconstZ hX dX2_withDates_15 ?_
  refine r_istore hX dX2_withDates_16 (by decide) rfl ?_
  refine r_iload hX dX2_withDates_18 rfl ?_
  refine r_bipushZ hX dX2_withDates_20 (by decide) ?_
  refine r_icmp_geZ (tgt := 51) hX dX2_withDates_22 (by decide) (by decide) (by decide) (fun q => absurd q (by decide)) (fun _ => ?_)
  refine r_lload_n hX dX2_withDates_25 rfl rfl ?_
  refine r_aload_n hX dX2_withDates_26 rfl rfl ?_
  refine r_get hX kf_X2_20 0 rfl rfl dX2_withDates_27 ?_
  refine r_iload hX dX2_withDates_30 rfl ?_
  refine r_callS hX (z_X2_at_ok ad cs _ 3 _ 4 0 rfl (by decide) _ 3 (by omega) (by decide)) ks_X2_84 rfl rfl (Nat.le_of_ble_eq_true rfl) ⟨(Nat.le_of_ble_eq_true rfl), (Nat.le_of_ble_eq_true rfl)⟩ ⟨(Nat.le_of_ble_eq_true rfl), (Nat.le_of_ble_eq_true rfl)⟩ dX2_withDates_32 (fun _ _ z => False.elim z) (fun v9 ws9 h118 => ?_)
  obtain ⟨rfl, hw9⟩ := h118
  subst ws9
  dsimp only [mPush]
  refine r_iload hX dX2_withDates_35 rfl ?_
  refine r_callS hX (z_X2_datePart _ _ (3 + 5) _ _ _ _ (zWd_loc (d := 3) (by decide)) (zrg hS (by decide)) _ (by omega) (by omega)) ks_X2_175 rfl rfl (Nat.le_of_ble_eq_true rfl) ⟨(Nat.le_of_ble_eq_true rfl), (Nat.le_of_ble_eq_true rfl)⟩ ⟨(Nat.le_of_ble_eq_true rfl), (Nat.le_of_ble_eq_true rfl)⟩ dX2_withDates_37 (fun _ _ z => False.elim z) (fun v9 ws9 h119 => ?_)
  obtain ⟨rfl, hw9⟩ := h119
  subst ws9
  dsimp only [mPush]
  refine r_i2lZ hX dX2_withDates_40 (hbD3 _) ?_
  refine r_callS hX (z_X2_added _ _ _ _) ks_X2_247 rfl rfl (Nat.le_of_ble_eq_true rfl) ⟨(Nat.le_of_ble_eq_true rfl), (Nat.le_of_ble_eq_true rfl)⟩ ⟨(Nat.le_of_ble_eq_true rfl), (Nat.le_of_ble_eq_true rfl)⟩ dX2_withDates_41 (fun _ _ z => False.elim z) (fun v9 ws9 h120 => ?_)
  obtain ⟨rfl, hw9⟩ := h120
  subst ws9
  dsimp only [mPush]
  refine r_lstore_n hX dX2_withDates_44 rfl (by decide) rfl ?_
  refine r_iincZ (z := 1) (y := 1) hX dX2_withDates_45 rfl (by decide) rfl rfl ?_
  refine r_goto (tgt := 18) hX dX2_withDates_48 (by decide) ?_
  refine r_iload hX dX2_withDates_18 rfl ?_
  refine r_bipushZ hX dX2_withDates_20 (by decide) ?_
  refine r_icmp_geZ (tgt := 51) hX dX2_withDates_22 (by decide) (by decide) (by decide) (fun q => absurd q (by decide)) (fun _ => ?_)
  refine r_lload_n hX dX2_withDates_25 rfl rfl ?_
  refine r_aload_n hX dX2_withDates_26 rfl rfl ?_
  refine r_get hX kf_X2_20 0 rfl rfl dX2_withDates_27 ?_
  refine r_iload hX dX2_withDates_30 rfl ?_
  refine r_callS hX (z_X2_at_ok ad cs _ 3 _ 4 0 rfl (by decide) _ 3 (by omega) (by decide)) ks_X2_84 rfl rfl (Nat.le_of_ble_eq_true rfl) ⟨(Nat.le_of_ble_eq_true rfl), (Nat.le_of_ble_eq_true rfl)⟩ ⟨(Nat.le_of_ble_eq_true rfl), (Nat.le_of_ble_eq_true rfl)⟩ dX2_withDates_32 (fun _ _ z => False.elim z) (fun v9 ws9 h121 => ?_)
  obtain ⟨rfl, hw9⟩ := h121
  subst ws9
  dsimp only [mPush]
  refine r_iload hX dX2_withDates_35 rfl ?_
  refine r_callS hX (z_X2_datePart _ _ (3 + 5) _ _ _ _ (zWd_loc (d := 3) (by decide)) (zrg hS (by decide)) _ (by omega) (by omega)) ks_X2_175 rfl rfl (Nat.le_of_ble_eq_true rfl) ⟨(Nat.le_of_ble_eq_true rfl), (Nat.le_of_ble_eq_true rfl)⟩ ⟨(Nat.le_of_ble_eq_true rfl), (Nat.le_of_ble_eq_true rfl)⟩ dX2_withDates_37 (fun _ _ z => False.elim z) (fun v9 ws9 h122 => ?_)
  obtain ⟨rfl, hw9⟩ := h122
  subst ws9
  dsimp only [mPush]
  refine r_i2lZ hX dX2_withDates_40 (hbD3 _) ?_
  refine r_callS hX (z_X2_added _ _ _ _) ks_X2_247 rfl rfl (Nat.le_of_ble_eq_true rfl) ⟨(Nat.le_of_ble_eq_true rfl), (Nat.le_of_ble_eq_true rfl)⟩ ⟨(Nat.le_of_ble_eq_true rfl), (Nat.le_of_ble_eq_true rfl)⟩ dX2_withDates_41 (fun _ _ z => False.elim z) (fun v9 ws9 h123 => ?_)
  obtain ⟨rfl, hw9⟩ := h123
  subst ws9
  dsimp only [mPush]
  refine r_lstore_n hX dX2_withDates_44 rfl (by decide) rfl ?_
  refine r_iincZ (z := 1) (y := 2) hX dX2_withDates_45 rfl (by decide) rfl rfl ?_
  refine r_goto (tgt := 18) hX dX2_withDates_48 (by decide) ?_
  refine r_iload hX dX2_withDates_18 rfl ?_
  refine r_bipushZ hX dX2_withDates_20 (by decide) ?_
  refine r_icmp_geZ (tgt := 51) hX dX2_withDates_22 (by decide) (by decide) (by decide) (fun q => absurd q (by decide)) (fun _ => ?_)
  refine r_lload_n hX dX2_withDates_25 rfl rfl ?_
  refine r_aload_n hX dX2_withDates_26 rfl rfl ?_
  refine r_get hX kf_X2_20 0 rfl rfl dX2_withDates_27 ?_
  refine r_iload hX dX2_withDates_30 rfl ?_
  refine r_callS hX (z_X2_at_ok ad cs _ 3 _ 4 0 rfl (by decide) _ 3 (by omega) (by decide)) ks_X2_84 rfl rfl (Nat.le_of_ble_eq_true rfl) ⟨(Nat.le_of_ble_eq_true rfl), (Nat.le_of_ble_eq_true rfl)⟩ ⟨(Nat.le_of_ble_eq_true rfl), (Nat.le_of_ble_eq_true rfl)⟩ dX2_withDates_32 (fun _ _ z => False.elim z) (fun v9 ws9 h124 => ?_)
  obtain ⟨rfl, hw9⟩ := h124
  subst ws9
  dsimp only [mPush]
  refine r_iload hX dX2_withDates_35 rfl ?_
  refine r_callS hX (z_X2_datePart _ _ (3 + 5) _ _ _ _ (zWd_loc (d := 3) (by decide)) (zrg hS (by decide)) _ (by omega) (by omega)) ks_X2_175 rfl rfl (Nat.le_of_ble_eq_true rfl) ⟨(Nat.le_of_ble_eq_true rfl), (Nat.le_of_ble_eq_true rfl)⟩ ⟨(Nat.le_of_ble_eq_true rfl), (Nat.le_of_ble_eq_true rfl)⟩ dX2_withDates_37 (fun _ _ z => False.elim z) (fun v9 ws9 h125 => ?_)
  obtain ⟨rfl, hw9⟩ := h125
  subst ws9
  dsimp only [mPush]
  refine r_i2lZ hX dX2_withDates_40 (hbD3 _) ?_
  refine r_callS hX (z_X2_added _ _ _ _) ks_X2_247 rfl rfl (Nat.le_of_ble_eq_true rfl) ⟨(Nat.le_of_ble_eq_true rfl), (Nat.le_of_ble_eq_true rfl)⟩ ⟨(Nat.le_of_ble_eq_true rfl), (Nat.le_of_ble_eq_true rfl)⟩ dX2_withDates_41 (fun _ _ z => False.elim z) (fun v9 ws9 h126 => ?_)
  obtain ⟨rfl, hw9⟩ := h126
  subst ws9
  dsimp only [mPush]
  refine r_lstore_n hX dX2_withDates_44 rfl (by decide) rfl ?_
  refine r_iincZ (z := 1) (y := 3) hX dX2_withDates_45 rfl (by decide) rfl rfl ?_
  refine r_goto (tgt := 18) hX dX2_withDates_48 (by decide) ?_
  refine r_iload hX dX2_withDates_18 rfl ?_
  refine r_bipushZ hX dX2_withDates_20 (by decide) ?_
  refine r_icmp_geZ (tgt := 51) hX dX2_withDates_22 (by decide) (by decide) (by decide) (fun q => absurd q (by decide)) (fun _ => ?_)
  refine r_lload_n hX dX2_withDates_25 rfl rfl ?_
  refine r_aload_n hX dX2_withDates_26 rfl rfl ?_
  refine r_get hX kf_X2_20 0 rfl rfl dX2_withDates_27 ?_
  refine r_iload hX dX2_withDates_30 rfl ?_
  refine r_callS hX (z_X2_at_ok ad cs _ 3 _ 4 0 rfl (by decide) _ 3 (by omega) (by decide)) ks_X2_84 rfl rfl (Nat.le_of_ble_eq_true rfl) ⟨(Nat.le_of_ble_eq_true rfl), (Nat.le_of_ble_eq_true rfl)⟩ ⟨(Nat.le_of_ble_eq_true rfl), (Nat.le_of_ble_eq_true rfl)⟩ dX2_withDates_32 (fun _ _ z => False.elim z) (fun v9 ws9 h127 => ?_)
  obtain ⟨rfl, hw9⟩ := h127
  subst ws9
  dsimp only [mPush]
  refine r_iload hX dX2_withDates_35 rfl ?_
  refine r_callS hX (z_X2_datePart _ _ (3 + 5) _ _ _ _ (zWd_loc (d := 3) (by decide)) (zrg hS (by decide)) _ (by omega) (by omega)) ks_X2_175 rfl rfl (Nat.le_of_ble_eq_true rfl) ⟨(Nat.le_of_ble_eq_true rfl), (Nat.le_of_ble_eq_true rfl)⟩ ⟨(Nat.le_of_ble_eq_true rfl), (Nat.le_of_ble_eq_true rfl)⟩ dX2_withDates_37 (fun _ _ z => False.elim z) (fun v9 ws9 h128 => ?_)
  obtain ⟨rfl, hw9⟩ := h128
  subst ws9
  dsimp only [mPush]
  refine r_i2lZ hX dX2_withDates_40 (hbD3 _) ?_
  refine r_callS hX (z_X2_added _ _ _ _) ks_X2_247 rfl rfl (Nat.le_of_ble_eq_true rfl) ⟨(Nat.le_of_ble_eq_true rfl), (Nat.le_of_ble_eq_true rfl)⟩ ⟨(Nat.le_of_ble_eq_true rfl), (Nat.le_of_ble_eq_true rfl)⟩ dX2_withDates_41 (fun _ _ z => False.elim z) (fun v9 ws9 h129 => ?_)
  obtain ⟨rfl, hw9⟩ := h129
  subst ws9
  dsimp only [mPush]
  refine r_lstore_n hX dX2_withDates_44 rfl (by decide) rfl ?_
  refine r_iincZ (z := 1) (y := 4) hX dX2_withDates_45 rfl (by decide) rfl rfl ?_
  refine r_goto (tgt := 18) hX dX2_withDates_48 (by decide) ?_
  refine r_iload hX dX2_withDates_18 rfl ?_
  refine r_bipushZ hX dX2_withDates_20 (by decide) ?_
  refine r_icmp_geZ (tgt := 51) hX dX2_withDates_22 (by decide) (by decide) (by decide) (fun q => absurd q (by decide)) (fun _ => ?_)
  refine r_lload_n hX dX2_withDates_25 rfl rfl ?_
  refine r_aload_n hX dX2_withDates_26 rfl rfl ?_
  refine r_get hX kf_X2_20 0 rfl rfl dX2_withDates_27 ?_
  refine r_iload hX dX2_withDates_30 rfl ?_
  refine r_callS hX (z_X2_at_ok ad cs _ 3 _ 4 0 rfl (by decide) _ 3 (by omega) (by decide)) ks_X2_84 rfl rfl (Nat.le_of_ble_eq_true rfl) ⟨(Nat.le_of_ble_eq_true rfl), (Nat.le_of_ble_eq_true rfl)⟩ ⟨(Nat.le_of_ble_eq_true rfl), (Nat.le_of_ble_eq_true rfl)⟩ dX2_withDates_32 (fun _ _ z => False.elim z) (fun v9 ws9 h130 => ?_)
  obtain ⟨rfl, hw9⟩ := h130
  subst ws9
  dsimp only [mPush]
  refine r_iload hX dX2_withDates_35 rfl ?_
  refine r_callS hX (z_X2_datePart _ _ (3 + 5) _ _ _ _ (zWd_loc (d := 3) (by decide)) (zrg hS (by decide)) _ (by omega) (by omega)) ks_X2_175 rfl rfl (Nat.le_of_ble_eq_true rfl) ⟨(Nat.le_of_ble_eq_true rfl), (Nat.le_of_ble_eq_true rfl)⟩ ⟨(Nat.le_of_ble_eq_true rfl), (Nat.le_of_ble_eq_true rfl)⟩ dX2_withDates_37 (fun _ _ z => False.elim z) (fun v9 ws9 h131 => ?_)
  obtain ⟨rfl, hw9⟩ := h131
  subst ws9
  dsimp only [mPush]
  refine r_i2lZ hX dX2_withDates_40 (hbD3 _) ?_
  refine r_callS hX (z_X2_added _ _ _ _) ks_X2_247 rfl rfl (Nat.le_of_ble_eq_true rfl) ⟨(Nat.le_of_ble_eq_true rfl), (Nat.le_of_ble_eq_true rfl)⟩ ⟨(Nat.le_of_ble_eq_true rfl), (Nat.le_of_ble_eq_true rfl)⟩ dX2_withDates_41 (fun _ _ z => False.elim z) (fun v9 ws9 h132 => ?_)
  obtain ⟨rfl, hw9⟩ := h132
  subst ws9
  dsimp only [mPush]
  refine r_lstore_n hX dX2_withDates_44 rfl (by decide) rfl ?_
  refine r_iincZ (z := 1) (y := 5) hX dX2_withDates_45 rfl (by decide) rfl rfl ?_
  refine r_goto (tgt := 18) hX dX2_withDates_48 (by decide) ?_
  refine r_iload hX dX2_withDates_18 rfl ?_
  refine r_bipushZ hX dX2_withDates_20 (by decide) ?_
  refine r_icmp_geZ (tgt := 51) hX dX2_withDates_22 (by decide) (by decide) (by decide) (fun q => absurd q (by decide)) (fun _ => ?_)
  refine r_lload_n hX dX2_withDates_25 rfl rfl ?_
  refine r_aload_n hX dX2_withDates_26 rfl rfl ?_
  refine r_get hX kf_X2_20 0 rfl rfl dX2_withDates_27 ?_
  refine r_iload hX dX2_withDates_30 rfl ?_
  refine r_callS hX (z_X2_at_ok ad cs _ 3 _ 4 0 rfl (by decide) _ 3 (by omega) (by decide)) ks_X2_84 rfl rfl (Nat.le_of_ble_eq_true rfl) ⟨(Nat.le_of_ble_eq_true rfl), (Nat.le_of_ble_eq_true rfl)⟩ ⟨(Nat.le_of_ble_eq_true rfl), (Nat.le_of_ble_eq_true rfl)⟩ dX2_withDates_32 (fun _ _ z => False.elim z) (fun v9 ws9 h133 => ?_)
  obtain ⟨rfl, hw9⟩ := h133
  subst ws9
  dsimp only [mPush]
  refine r_iload hX dX2_withDates_35 rfl ?_
  refine r_callS hX (z_X2_datePart _ _ (3 + 5) _ _ _ _ (zWd_loc (d := 3) (by decide)) (zrg hS (by decide)) _ (by omega) (by omega)) ks_X2_175 rfl rfl (Nat.le_of_ble_eq_true rfl) ⟨(Nat.le_of_ble_eq_true rfl), (Nat.le_of_ble_eq_true rfl)⟩ ⟨(Nat.le_of_ble_eq_true rfl), (Nat.le_of_ble_eq_true rfl)⟩ dX2_withDates_37 (fun _ _ z => False.elim z) (fun v9 ws9 h134 => ?_)
  obtain ⟨rfl, hw9⟩ := h134
  subst ws9
  dsimp only [mPush]
  refine r_i2lZ hX dX2_withDates_40 (hbD3 _) ?_
  refine r_callS hX (z_X2_added _ _ _ _) ks_X2_247 rfl rfl (Nat.le_of_ble_eq_true rfl) ⟨(Nat.le_of_ble_eq_true rfl), (Nat.le_of_ble_eq_true rfl)⟩ ⟨(Nat.le_of_ble_eq_true rfl), (Nat.le_of_ble_eq_true rfl)⟩ dX2_withDates_41 (fun _ _ z => False.elim z) (fun v9 ws9 h135 => ?_)
  obtain ⟨rfl, hw9⟩ := h135
  subst ws9
  dsimp only [mPush]
  refine r_lstore_n hX dX2_withDates_44 rfl (by decide) rfl ?_
  refine r_iincZ (z := 1) (y := 6) hX dX2_withDates_45 rfl (by decide) rfl rfl ?_
  refine r_goto (tgt := 18) hX dX2_withDates_48 (by decide) ?_
  refine r_iload hX dX2_withDates_18 rfl ?_
  refine r_bipushZ hX dX2_withDates_20 (by decide) ?_
  refine r_icmp_geZ (tgt := 51) hX dX2_withDates_22 (by decide) (by decide) (by decide) (fun q => absurd q (by decide)) (fun _ => ?_)
  refine r_lload_n hX dX2_withDates_25 rfl rfl ?_
  refine r_aload_n hX dX2_withDates_26 rfl rfl ?_
  refine r_get hX kf_X2_20 0 rfl rfl dX2_withDates_27 ?_
  refine r_iload hX dX2_withDates_30 rfl ?_
  refine r_callS hX (z_X2_at_ok ad cs _ 3 _ 4 0 rfl (by decide) _ 3 (by omega) (by decide)) ks_X2_84 rfl rfl (Nat.le_of_ble_eq_true rfl) ⟨(Nat.le_of_ble_eq_true rfl), (Nat.le_of_ble_eq_true rfl)⟩ ⟨(Nat.le_of_ble_eq_true rfl), (Nat.le_of_ble_eq_true rfl)⟩ dX2_withDates_32 (fun _ _ z => False.elim z) (fun v9 ws9 h136 => ?_)
  obtain ⟨rfl, hw9⟩ := h136
  subst ws9
  dsimp only [mPush]
  refine r_iload hX dX2_withDates_35 rfl ?_
  refine r_callS hX (z_X2_datePart _ _ (3 + 5) _ _ _ _ (zWd_loc (d := 3) (by decide)) (zrg hS (by decide)) _ (by omega) (by omega)) ks_X2_175 rfl rfl (Nat.le_of_ble_eq_true rfl) ⟨(Nat.le_of_ble_eq_true rfl), (Nat.le_of_ble_eq_true rfl)⟩ ⟨(Nat.le_of_ble_eq_true rfl), (Nat.le_of_ble_eq_true rfl)⟩ dX2_withDates_37 (fun _ _ z => False.elim z) (fun v9 ws9 h137 => ?_)
  obtain ⟨rfl, hw9⟩ := h137
  subst ws9
  dsimp only [mPush]
  refine r_i2lZ hX dX2_withDates_40 (hbD3 _) ?_
  refine r_callS hX (z_X2_added _ _ _ _) ks_X2_247 rfl rfl (Nat.le_of_ble_eq_true rfl) ⟨(Nat.le_of_ble_eq_true rfl), (Nat.le_of_ble_eq_true rfl)⟩ ⟨(Nat.le_of_ble_eq_true rfl), (Nat.le_of_ble_eq_true rfl)⟩ dX2_withDates_41 (fun _ _ z => False.elim z) (fun v9 ws9 h138 => ?_)
  obtain ⟨rfl, hw9⟩ := h138
  subst ws9
  dsimp only [mPush]
  refine r_lstore_n hX dX2_withDates_44 rfl (by decide) rfl ?_
  refine r_iincZ (z := 1) (y := 7) hX dX2_withDates_45 rfl (by decide) rfl rfl ?_
  refine r_goto (tgt := 18) hX dX2_withDates_48 (by decide) ?_
  refine r_iload hX dX2_withDates_18 rfl ?_
  refine r_bipushZ hX dX2_withDates_20 (by decide) ?_
  refine r_icmp_geZ (tgt := 51) hX dX2_withDates_22 (by decide) (by decide) (by decide) (fun q => absurd q (by decide)) (fun _ => ?_)
  refine r_lload_n hX dX2_withDates_25 rfl rfl ?_
  refine r_aload_n hX dX2_withDates_26 rfl rfl ?_
  refine r_get hX kf_X2_20 0 rfl rfl dX2_withDates_27 ?_
  refine r_iload hX dX2_withDates_30 rfl ?_
  refine r_callS hX (z_X2_at_ok ad cs _ 3 _ 4 0 rfl (by decide) _ 3 (by omega) (by decide)) ks_X2_84 rfl rfl (Nat.le_of_ble_eq_true rfl) ⟨(Nat.le_of_ble_eq_true rfl), (Nat.le_of_ble_eq_true rfl)⟩ ⟨(Nat.le_of_ble_eq_true rfl), (Nat.le_of_ble_eq_true rfl)⟩ dX2_withDates_32 (fun _ _ z => False.elim z) (fun v9 ws9 h139 => ?_)
  obtain ⟨rfl, hw9⟩ := h139
  subst ws9
  dsimp only [mPush]
  refine r_iload hX dX2_withDates_35 rfl ?_
  refine r_callS hX (z_X2_datePart _ _ (3 + 5) _ _ _ _ (zWd_loc (d := 3) (by decide)) (zrg hS (by decide)) _ (by omega) (by omega)) ks_X2_175 rfl rfl (Nat.le_of_ble_eq_true rfl) ⟨(Nat.le_of_ble_eq_true rfl), (Nat.le_of_ble_eq_true rfl)⟩ ⟨(Nat.le_of_ble_eq_true rfl), (Nat.le_of_ble_eq_true rfl)⟩ dX2_withDates_37 (fun _ _ z => False.elim z) (fun v9 ws9 h140 => ?_)
  obtain ⟨rfl, hw9⟩ := h140
  subst ws9
  dsimp only [mPush]
  refine r_i2lZ hX dX2_withDates_40 (hbD3 _) ?_
  refine r_callS hX (z_X2_added _ _ _ _) ks_X2_247 rfl rfl (Nat.le_of_ble_eq_true rfl) ⟨(Nat.le_of_ble_eq_true rfl), (Nat.le_of_ble_eq_true rfl)⟩ ⟨(Nat.le_of_ble_eq_true rfl), (Nat.le_of_ble_eq_true rfl)⟩ dX2_withDates_41 (fun _ _ z => False.elim z) (fun v9 ws9 h141 => ?_)
  obtain ⟨rfl, hw9⟩ := h141
  subst ws9
  dsimp only [mPush]
  refine r_lstore_n hX dX2_withDates_44 rfl (by decide) rfl ?_
  refine r_iincZ (z := 1) (y := 8) hX dX2_withDates_45 rfl (by decide) rfl rfl ?_
  refine r_goto (tgt := 18) hX dX2_withDates_48 (by decide) ?_
  refine r_iload hX dX2_withDates_18 rfl ?_
  refine r_bipushZ hX dX2_withDates_20 (by decide) ?_
  refine r_icmp_geZ (tgt := 51) hX dX2_withDates_22 (by decide) (by decide) (by decide) (fun q => absurd q (by decide)) (fun _ => ?_)
  refine r_lload_n hX dX2_withDates_25 rfl rfl ?_
  refine r_aload_n hX dX2_withDates_26 rfl rfl ?_
  refine r_get hX kf_X2_20 0 rfl rfl dX2_withDates_27 ?_
  refine r_iload hX dX2_withDates_30 rfl ?_
  refine r_callS hX (z_X2_at_ok ad cs _ 3 _ 4 0 rfl (by decide) _ 3 (by omega) (by decide)) ks_X2_84 rfl rfl (Nat.le_of_ble_eq_true rfl) ⟨(Nat.le_of_ble_eq_true rfl), (Nat.le_of_ble_eq_true rfl)⟩ ⟨(Nat.le_of_ble_eq_true rfl), (Nat.le_of_ble_eq_true rfl)⟩ dX2_withDates_32 (fun _ _ z => False.elim z) (fun v9 ws9 h142 => ?_)
  obtain ⟨rfl, hw9⟩ := h142
  subst ws9
  dsimp only [mPush]
  refine r_iload hX dX2_withDates_35 rfl ?_
  refine r_callS hX (z_X2_datePart _ _ (3 + 5) _ _ _ _ (zWd_loc (d := 3) (by decide)) (zrg hS (by decide)) _ (by omega) (by omega)) ks_X2_175 rfl rfl (Nat.le_of_ble_eq_true rfl) ⟨(Nat.le_of_ble_eq_true rfl), (Nat.le_of_ble_eq_true rfl)⟩ ⟨(Nat.le_of_ble_eq_true rfl), (Nat.le_of_ble_eq_true rfl)⟩ dX2_withDates_37 (fun _ _ z => False.elim z) (fun v9 ws9 h143 => ?_)
  obtain ⟨rfl, hw9⟩ := h143
  subst ws9
  dsimp only [mPush]
  refine r_i2lZ hX dX2_withDates_40 (hbD3 _) ?_
  refine r_callS hX (z_X2_added _ _ _ _) ks_X2_247 rfl rfl (Nat.le_of_ble_eq_true rfl) ⟨(Nat.le_of_ble_eq_true rfl), (Nat.le_of_ble_eq_true rfl)⟩ ⟨(Nat.le_of_ble_eq_true rfl), (Nat.le_of_ble_eq_true rfl)⟩ dX2_withDates_41 (fun _ _ z => False.elim z) (fun v9 ws9 h144 => ?_)
  obtain ⟨rfl, hw9⟩ := h144
  subst ws9
  dsimp only [mPush]
  refine r_lstore_n hX dX2_withDates_44 rfl (by decide) rfl ?_
  refine r_iincZ (z := 1) (y := 9) hX dX2_withDates_45 rfl (by decide) rfl rfl ?_
  refine r_goto (tgt := 18) hX dX2_withDates_48 (by decide) ?_
  refine r_iload hX dX2_withDates_18 rfl ?_
  refine r_bipushZ hX dX2_withDates_20 (by decide) ?_
  refine r_icmp_geZ (tgt := 51) hX dX2_withDates_22 (by decide) (by decide) (by decide) (fun q => absurd q (by decide)) (fun _ => ?_)
  refine r_lload_n hX dX2_withDates_25 rfl rfl ?_
  refine r_aload_n hX dX2_withDates_26 rfl rfl ?_
  refine r_get hX kf_X2_20 0 rfl rfl dX2_withDates_27 ?_
  refine r_iload hX dX2_withDates_30 rfl ?_
  refine r_callS hX (z_X2_at_ok ad cs _ 3 _ 4 0 rfl (by decide) _ 3 (by omega) (by decide)) ks_X2_84 rfl rfl (Nat.le_of_ble_eq_true rfl) ⟨(Nat.le_of_ble_eq_true rfl), (Nat.le_of_ble_eq_true rfl)⟩ ⟨(Nat.le_of_ble_eq_true rfl), (Nat.le_of_ble_eq_true rfl)⟩ dX2_withDates_32 (fun _ _ z => False.elim z) (fun v9 ws9 h145 => ?_)
  obtain ⟨rfl, hw9⟩ := h145
  subst ws9
  dsimp only [mPush]
  refine r_iload hX dX2_withDates_35 rfl ?_
  refine r_callS hX (z_X2_datePart _ _ (3 + 5) _ _ _ _ (zWd_loc (d := 3) (by decide)) (zrg hS (by decide)) _ (by omega) (by omega)) ks_X2_175 rfl rfl (Nat.le_of_ble_eq_true rfl) ⟨(Nat.le_of_ble_eq_true rfl), (Nat.le_of_ble_eq_true rfl)⟩ ⟨(Nat.le_of_ble_eq_true rfl), (Nat.le_of_ble_eq_true rfl)⟩ dX2_withDates_37 (fun _ _ z => False.elim z) (fun v9 ws9 h146 => ?_)
  obtain ⟨rfl, hw9⟩ := h146
  subst ws9
  dsimp only [mPush]
  refine r_i2lZ hX dX2_withDates_40 (hbD3 _) ?_
  refine r_callS hX (z_X2_added _ _ _ _) ks_X2_247 rfl rfl (Nat.le_of_ble_eq_true rfl) ⟨(Nat.le_of_ble_eq_true rfl), (Nat.le_of_ble_eq_true rfl)⟩ ⟨(Nat.le_of_ble_eq_true rfl), (Nat.le_of_ble_eq_true rfl)⟩ dX2_withDates_41 (fun _ _ z => False.elim z) (fun v9 ws9 h147 => ?_)
  obtain ⟨rfl, hw9⟩ := h147
  subst ws9
  dsimp only [mPush]
  refine r_lstore_n hX dX2_withDates_44 rfl (by decide) rfl ?_
  refine r_iincZ (z := 1) (y := 10) hX dX2_withDates_45 rfl (by decide) rfl rfl ?_
  refine r_goto (tgt := 18) hX dX2_withDates_48 (by decide) ?_
  refine r_iload hX dX2_withDates_18 rfl ?_
  refine r_bipushZ hX dX2_withDates_20 (by decide) ?_
  refine r_icmp_geZ (tgt := 51) hX dX2_withDates_22 (by decide) (by decide) (by decide) (fun q => absurd q (by decide)) (fun _ => ?_)
  refine r_lload_n hX dX2_withDates_25 rfl rfl ?_
  refine r_aload_n hX dX2_withDates_26 rfl rfl ?_
  refine r_get hX kf_X2_20 0 rfl rfl dX2_withDates_27 ?_
  refine r_iload hX dX2_withDates_30 rfl ?_
  refine r_callS hX (z_X2_at_ok ad cs _ 3 _ 4 0 rfl (by decide) _ 3 (by omega) (by decide)) ks_X2_84 rfl rfl (Nat.le_of_ble_eq_true rfl) ⟨(Nat.le_of_ble_eq_true rfl), (Nat.le_of_ble_eq_true rfl)⟩ ⟨(Nat.le_of_ble_eq_true rfl), (Nat.le_of_ble_eq_true rfl)⟩ dX2_withDates_32 (fun _ _ z => False.elim z) (fun v9 ws9 h148 => ?_)
  obtain ⟨rfl, hw9⟩ := h148
  subst ws9
  dsimp only [mPush]
  refine r_iload hX dX2_withDates_35 rfl ?_
  refine r_callS hX (z_X2_datePart _ _ (3 + 5) _ _ _ _ (zWd_loc (d := 3) (by decide)) (zrg hS (by decide)) _ (by omega) (by omega)) ks_X2_175 rfl rfl (Nat.le_of_ble_eq_true rfl) ⟨(Nat.le_of_ble_eq_true rfl), (Nat.le_of_ble_eq_true rfl)⟩ ⟨(Nat.le_of_ble_eq_true rfl), (Nat.le_of_ble_eq_true rfl)⟩ dX2_withDates_37 (fun _ _ z => False.elim z) (fun v9 ws9 h149 => ?_)
  obtain ⟨rfl, hw9⟩ := h149
  subst ws9
  dsimp only [mPush]
  refine r_i2lZ hX dX2_withDates_40 (hbD3 _) ?_
  refine r_callS hX (z_X2_added _ _ _ _) ks_X2_247 rfl rfl (Nat.le_of_ble_eq_true rfl) ⟨(Nat.le_of_ble_eq_true rfl), (Nat.le_of_ble_eq_true rfl)⟩ ⟨(Nat.le_of_ble_eq_true rfl), (Nat.le_of_ble_eq_true rfl)⟩ dX2_withDates_41 (fun _ _ z => False.elim z) (fun v9 ws9 h150 => ?_)
  obtain ⟨rfl, hw9⟩ := h150
  subst ws9
  dsimp only [mPush]
  refine r_lstore_n hX dX2_withDates_44 rfl (by decide) rfl ?_
  refine r_iincZ (z := 1) (y := 11) hX dX2_withDates_45 rfl (by decide) rfl rfl ?_
  refine r_goto (tgt := 18) hX dX2_withDates_48 (by decide) ?_
  refine r_iload hX dX2_withDates_18 rfl ?_
  refine r_bipushZ hX dX2_withDates_20 (by decide) ?_
  refine r_icmp_geZ (tgt := 51) hX dX2_withDates_22 (by decide) (by decide) (by decide) (fun q => absurd q (by decide)) (fun _ => ?_)
  refine r_lload_n hX dX2_withDates_25 rfl rfl ?_
  refine r_aload_n hX dX2_withDates_26 rfl rfl ?_
  refine r_get hX kf_X2_20 0 rfl rfl dX2_withDates_27 ?_
  refine r_iload hX dX2_withDates_30 rfl ?_
  refine r_callS hX (z_X2_at_ok ad cs _ 3 _ 4 0 rfl (by decide) _ 3 (by omega) (by decide)) ks_X2_84 rfl rfl (Nat.le_of_ble_eq_true rfl) ⟨(Nat.le_of_ble_eq_true rfl), (Nat.le_of_ble_eq_true rfl)⟩ ⟨(Nat.le_of_ble_eq_true rfl), (Nat.le_of_ble_eq_true rfl)⟩ dX2_withDates_32 (fun _ _ z => False.elim z) (fun v9 ws9 h151 => ?_)
  obtain ⟨rfl, hw9⟩ := h151
  subst ws9
  dsimp only [mPush]
  refine r_iload hX dX2_withDates_35 rfl ?_
  refine r_callS hX (z_X2_datePart _ _ (3 + 5) _ _ _ _ (zWd_loc (d := 3) (by decide)) (zrg hS (by decide)) _ (by omega) (by omega)) ks_X2_175 rfl rfl (Nat.le_of_ble_eq_true rfl) ⟨(Nat.le_of_ble_eq_true rfl), (Nat.le_of_ble_eq_true rfl)⟩ ⟨(Nat.le_of_ble_eq_true rfl), (Nat.le_of_ble_eq_true rfl)⟩ dX2_withDates_37 (fun _ _ z => False.elim z) (fun v9 ws9 h152 => ?_)
  obtain ⟨rfl, hw9⟩ := h152
  subst ws9
  dsimp only [mPush]
  refine r_i2lZ hX dX2_withDates_40 (hbD3 _) ?_
  refine r_callS hX (z_X2_added _ _ _ _) ks_X2_247 rfl rfl (Nat.le_of_ble_eq_true rfl) ⟨(Nat.le_of_ble_eq_true rfl), (Nat.le_of_ble_eq_true rfl)⟩ ⟨(Nat.le_of_ble_eq_true rfl), (Nat.le_of_ble_eq_true rfl)⟩ dX2_withDates_41 (fun _ _ z => False.elim z) (fun v9 ws9 h153 => ?_)
  obtain ⟨rfl, hw9⟩ := h153
  subst ws9
  dsimp only [mPush]
  refine r_lstore_n hX dX2_withDates_44 rfl (by decide) rfl ?_
  refine r_iincZ (z := 1) (y := 12) hX dX2_withDates_45 rfl (by decide) rfl rfl ?_
  refine r_goto (tgt := 18) hX dX2_withDates_48 (by decide) ?_
  refine r_iload hX dX2_withDates_18 rfl ?_
  refine r_bipushZ hX dX2_withDates_20 (by decide) ?_
  refine r_icmp_geZ (tgt := 51) hX dX2_withDates_22 (by decide) (by decide) (by decide) (fun q => absurd q (by decide)) (fun _ => ?_)
  refine r_lload_n hX dX2_withDates_25 rfl rfl ?_
  refine r_aload_n hX dX2_withDates_26 rfl rfl ?_
  refine r_get hX kf_X2_20 0 rfl rfl dX2_withDates_27 ?_
  refine r_iload hX dX2_withDates_30 rfl ?_
  refine r_callS hX (z_X2_at_ok ad cs _ 3 _ 4 0 rfl (by decide) _ 3 (by omega) (by decide)) ks_X2_84 rfl rfl (Nat.le_of_ble_eq_true rfl) ⟨(Nat.le_of_ble_eq_true rfl), (Nat.le_of_ble_eq_true rfl)⟩ ⟨(Nat.le_of_ble_eq_true rfl), (Nat.le_of_ble_eq_true rfl)⟩ dX2_withDates_32 (fun _ _ z => False.elim z) (fun v9 ws9 h154 => ?_)
  obtain ⟨rfl, hw9⟩ := h154
  subst ws9
  dsimp only [mPush]
  refine r_iload hX dX2_withDates_35 rfl ?_
  refine r_callS hX (z_X2_datePart _ _ (3 + 5) _ _ _ _ (zWd_loc (d := 3) (by decide)) (zrg hS (by decide)) _ (by omega) (by omega)) ks_X2_175 rfl rfl (Nat.le_of_ble_eq_true rfl) ⟨(Nat.le_of_ble_eq_true rfl), (Nat.le_of_ble_eq_true rfl)⟩ ⟨(Nat.le_of_ble_eq_true rfl), (Nat.le_of_ble_eq_true rfl)⟩ dX2_withDates_37 (fun _ _ z => False.elim z) (fun v9 ws9 h155 => ?_)
  obtain ⟨rfl, hw9⟩ := h155
  subst ws9
  dsimp only [mPush]
  refine r_i2lZ hX dX2_withDates_40 (hbD3 _) ?_
  refine r_callS hX (z_X2_added _ _ _ _) ks_X2_247 rfl rfl (Nat.le_of_ble_eq_true rfl) ⟨(Nat.le_of_ble_eq_true rfl), (Nat.le_of_ble_eq_true rfl)⟩ ⟨(Nat.le_of_ble_eq_true rfl), (Nat.le_of_ble_eq_true rfl)⟩ dX2_withDates_41 (fun _ _ z => False.elim z) (fun v9 ws9 h156 => ?_)
  obtain ⟨rfl, hw9⟩ := h156
  subst ws9
  dsimp only [mPush]
  refine r_lstore_n hX dX2_withDates_44 rfl (by decide) rfl ?_
  refine r_iincZ (z := 1) (y := 13) hX dX2_withDates_45 rfl (by decide) rfl rfl ?_
  refine r_goto (tgt := 18) hX dX2_withDates_48 (by decide) ?_
  refine r_iload hX dX2_withDates_18 rfl ?_
  refine r_bipushZ hX dX2_withDates_20 (by decide) ?_
  refine r_icmp_geZ (tgt := 51) hX dX2_withDates_22 (by decide) (by decide) (by decide) (fun _ => ?_) (fun q => absurd (by decide) q)
  refine r_iincZ (z := 1) (y := 4) hX dX2_withDates_51 rfl (by decide) rfl rfl ?_
  refine r_goto (tgt := 5) hX dX2_withDates_54 (by decide) ?_
  refine r_iload hX dX2_withDates_5 rfl ?_
  refine r_aload_n hX dX2_withDates_7 rfl rfl ?_
  refine r_get hX kf_X2_20 0 rfl rfl dX2_withDates_8 ?_
  refine r_alen (v := iZ 4) hX 3 2 rfl rfl rfl dX2_withDates_11 ?_
  refine r_icmp_geZ (tgt := 57) hX dX2_withDates_12 (by decide) (by decide) (by decide) (fun _ => ?_) (fun q => absurd (by decide) q)
  refine r_lload_n hX dX2_withDates_57 rfl rfl ?_
  refine r_lret hX hE dX2_withDates_58 (Nat.le_of_ble_eq_true rfl) (Nat.le_of_ble_eq_true rfl) ⟨zl ?_, rfl⟩
  rfl
set_option maxHeartbeats 4000000 in
set_option maxRecDepth 20000 in
theorem z_X2_withClocks (ad : Nat → Nat) (cs : ClassId × ClassId × ClassId) (S : mS) (T : mT2) (rest : va_W) (hS : sWF S) (s : Int)  : mCt (mTy cs) yX2_withClocks cX2_withClocks 7 (some .long) ⟨4, 0, 0, 86⟩ [.ref (ad 0), .long (lZ s)] (mWd ad cs (mKof S T) rest) (fun v ws' => v = some (.long (lZ (dClk S s))) ∧ ws' = (mWd ad cs (mKof S T) rest)) mNo := by
  refine mCt.of (by decide +kernel) (Nat.le_of_ble_eq_true rfl) (fun X hX hE => ?_)
  replace hX : mOK X RX2 cX2_withClocks 7 ⟨4, 0, 0, 86⟩ [] (mTy cs) := hX
  have hr0 := zrg hS (d := 0) (by decide)
  have hr1 := zrg hS (d := 1) (by decide)
  have hr2 := zrg hS (d := 2) (by decide)
  have hr3 := zrg hS (d := 3) (by decide)
  have hr4 := zrg hS (d := 4) (by decide)
  have hr5 := zrg hS (d := 5) (by decide)
  have hr6 := zrg hS (d := 6) (by decide)
  have hs0 := hS.2.2.2.1 0 (by decide)
  have hs1 := hS.2.2.2.1 1 (by decide)
  have hs2 := hS.2.2.2.1 2 (by decide)
  have hs3 := hS.2.2.2.1 3 (by decide)
  have hc4 := hS.2.2.2.2 4 (by decide) (by decide)
  have hc5 := hS.2.2.2.2 5 (by decide) (by decide)
  have hc6 := hS.2.2.2.2 6 (by decide) (by decide)
  have hbC4 : ∀ w : Int, -2147483648 ≤ zCP (sse S 4) (sna S 4) (sow S 4) w ∧ zCP (sse S 4) (sna S 4) (sow S 4) w ≤ 2147483647 := by
    exact fun w => zCP_b (by omega) (by omega) (by omega)
  have hbC5 : ∀ w : Int, -2147483648 ≤ zCP (sse S 5) (sna S 5) (sow S 5) w ∧ zCP (sse S 5) (sna S 5) (sow S 5) w ≤ 2147483647 := by
    exact fun w => zCP_b (by omega) (by omega) (by omega)
  have hbC6 : ∀ w : Int, -2147483648 ≤ zCP (sse S 6) (sna S 6) (sow S 6) w ∧ zCP (sse S 6) (sna S 6) (sow S 6) w ≤ 2147483647 := by
    exact fun w => zCP_b (by omega) (by omega) (by omega)
  refine r_lload_n hX dX2_withClocks_0 rfl rfl ?_
  refine r_lstore_n hX dX2_withClocks_1 rfl (by decide) rfl ?_
  refine r_iconstZ hX dX2_withClocks_2 ?_
  refine r_istore hX dX2_withClocks_3 (by decide) rfl ?_
  refine r_iload hX dX2_withClocks_5 rfl ?_
  refine r_aload_n hX dX2_withClocks_7 rfl rfl ?_
  refine r_get hX kf_X2_24 0 rfl rfl dX2_withClocks_8 ?_
  refine r_alen (v := iZ 3) hX 4 2 rfl rfl rfl dX2_withClocks_11 ?_
  refine r_icmp_geZ (tgt := 57) hX dX2_withClocks_12 (by decide) (by decide) (by decide) (fun q => absurd q (by decide)) (fun _ => ?_)
  refine r_iconstZ hX dX2_withClocks_15 ?_
  refine r_istore hX dX2_withClocks_16 (by decide) rfl ?_
  refine r_iload hX dX2_withClocks_18 rfl ?_
  refine r_bipushZ hX dX2_withClocks_20 (by decide) ?_
  refine r_icmp_geZ (tgt := 51) hX dX2_withClocks_22 (by decide) (by decide) (by decide) (fun q => absurd q (by decide)) (fun _ => ?_)
  refine r_lload_n hX dX2_withClocks_25 rfl rfl ?_
  refine r_aload_n hX dX2_withClocks_26 rfl rfl ?_
  refine r_get hX kf_X2_24 0 rfl rfl dX2_withClocks_27 ?_
  refine r_iload hX dX2_withClocks_30 rfl ?_
  refine r_callS hX (z_X2_at_ok ad cs _ 4 _ 3 4 rfl (by decide) _ 0 (by omega) (by decide)) ks_X2_84 rfl rfl (Nat.le_of_ble_eq_true rfl) ⟨(Nat.le_of_ble_eq_true rfl), (Nat.le_of_ble_eq_true rfl)⟩ ⟨(Nat.le_of_ble_eq_true rfl), (Nat.le_of_ble_eq_true rfl)⟩ dX2_withClocks_32 (fun _ _ z => False.elim z) (fun v9 ws9 h1 => ?_)
  obtain ⟨rfl, hw9⟩ := h1
  subst ws9
  dsimp only [mPush]
  refine r_iload hX dX2_withClocks_35 rfl ?_
  refine r_callS hX (z_X2_clockPart _ _ (4 + 5) _ _ _ _ (zWd_loc (d := 4) (by decide)) (zrg hS (by decide)) _ (by omega)) ks_X2_193 rfl rfl (Nat.le_of_ble_eq_true rfl) ⟨(Nat.le_of_ble_eq_true rfl), (Nat.le_of_ble_eq_true rfl)⟩ ⟨(Nat.le_of_ble_eq_true rfl), (Nat.le_of_ble_eq_true rfl)⟩ dX2_withClocks_37 (fun _ _ z => False.elim z) (fun v9 ws9 h2 => ?_)
  obtain ⟨rfl, hw9⟩ := h2
  subst ws9
  dsimp only [mPush]
  refine r_i2lZ hX dX2_withClocks_40 (hbC4 _) ?_
  refine r_callS hX (z_X2_added _ _ _ _) ks_X2_247 rfl rfl (Nat.le_of_ble_eq_true rfl) ⟨(Nat.le_of_ble_eq_true rfl), (Nat.le_of_ble_eq_true rfl)⟩ ⟨(Nat.le_of_ble_eq_true rfl), (Nat.le_of_ble_eq_true rfl)⟩ dX2_withClocks_41 (fun _ _ z => False.elim z) (fun v9 ws9 h3 => ?_)
  obtain ⟨rfl, hw9⟩ := h3
  subst ws9
  dsimp only [mPush]
  refine r_lstore_n hX dX2_withClocks_44 rfl (by decide) rfl ?_
  refine r_iincZ (z := 1) (y := 1) hX dX2_withClocks_45 rfl (by decide) rfl rfl ?_
  refine r_goto (tgt := 18) hX dX2_withClocks_48 (by decide) ?_
  refine r_iload hX dX2_withClocks_18 rfl ?_
  refine r_bipushZ hX dX2_withClocks_20 (by decide) ?_
  refine r_icmp_geZ (tgt := 51) hX dX2_withClocks_22 (by decide) (by decide) (by decide) (fun q => absurd q (by decide)) (fun _ => ?_)
  refine r_lload_n hX dX2_withClocks_25 rfl rfl ?_
  refine r_aload_n hX dX2_withClocks_26 rfl rfl ?_
  refine r_get hX kf_X2_24 0 rfl rfl dX2_withClocks_27 ?_
  refine r_iload hX dX2_withClocks_30 rfl ?_
  refine r_callS hX (z_X2_at_ok ad cs _ 4 _ 3 4 rfl (by decide) _ 0 (by omega) (by decide)) ks_X2_84 rfl rfl (Nat.le_of_ble_eq_true rfl) ⟨(Nat.le_of_ble_eq_true rfl), (Nat.le_of_ble_eq_true rfl)⟩ ⟨(Nat.le_of_ble_eq_true rfl), (Nat.le_of_ble_eq_true rfl)⟩ dX2_withClocks_32 (fun _ _ z => False.elim z) (fun v9 ws9 h4 => ?_)
  obtain ⟨rfl, hw9⟩ := h4
  subst ws9
  dsimp only [mPush]
  refine r_iload hX dX2_withClocks_35 rfl ?_
  refine r_callS hX (z_X2_clockPart _ _ (4 + 5) _ _ _ _ (zWd_loc (d := 4) (by decide)) (zrg hS (by decide)) _ (by omega)) ks_X2_193 rfl rfl (Nat.le_of_ble_eq_true rfl) ⟨(Nat.le_of_ble_eq_true rfl), (Nat.le_of_ble_eq_true rfl)⟩ ⟨(Nat.le_of_ble_eq_true rfl), (Nat.le_of_ble_eq_true rfl)⟩ dX2_withClocks_37 (fun _ _ z => False.elim z) (fun v9 ws9 h5 => ?_)
  obtain ⟨rfl, hw9⟩ := h5
  subst ws9
  dsimp only [mPush]
  refine r_i2lZ hX dX2_withClocks_40 (hbC4 _) ?_
  refine r_callS hX (z_X2_added _ _ _ _) ks_X2_247 rfl rfl (Nat.le_of_ble_eq_true rfl) ⟨(Nat.le_of_ble_eq_true rfl), (Nat.le_of_ble_eq_true rfl)⟩ ⟨(Nat.le_of_ble_eq_true rfl), (Nat.le_of_ble_eq_true rfl)⟩ dX2_withClocks_41 (fun _ _ z => False.elim z) (fun v9 ws9 h6 => ?_)
  obtain ⟨rfl, hw9⟩ := h6
  subst ws9
  dsimp only [mPush]
  refine r_lstore_n hX dX2_withClocks_44 rfl (by decide) rfl ?_
  refine r_iincZ (z := 1) (y := 2) hX dX2_withClocks_45 rfl (by decide) rfl rfl ?_
  refine r_goto (tgt := 18) hX dX2_withClocks_48 (by decide) ?_
  refine r_iload hX dX2_withClocks_18 rfl ?_
  refine r_bipushZ hX dX2_withClocks_20 (by decide) ?_
  refine r_icmp_geZ (tgt := 51) hX dX2_withClocks_22 (by decide) (by decide) (by decide) (fun q => absurd q (by decide)) (fun _ => ?_)
  refine r_lload_n hX dX2_withClocks_25 rfl rfl ?_
  refine r_aload_n hX dX2_withClocks_26 rfl rfl ?_
  refine r_get hX kf_X2_24 0 rfl rfl dX2_withClocks_27 ?_
  refine r_iload hX dX2_withClocks_30 rfl ?_
  refine r_callS hX (z_X2_at_ok ad cs _ 4 _ 3 4 rfl (by decide) _ 0 (by omega) (by decide)) ks_X2_84 rfl rfl (Nat.le_of_ble_eq_true rfl) ⟨(Nat.le_of_ble_eq_true rfl), (Nat.le_of_ble_eq_true rfl)⟩ ⟨(Nat.le_of_ble_eq_true rfl), (Nat.le_of_ble_eq_true rfl)⟩ dX2_withClocks_32 (fun _ _ z => False.elim z) (fun v9 ws9 h7 => ?_)
  obtain ⟨rfl, hw9⟩ := h7
  subst ws9
  dsimp only [mPush]
  refine r_iload hX dX2_withClocks_35 rfl ?_
  refine r_callS hX (z_X2_clockPart _ _ (4 + 5) _ _ _ _ (zWd_loc (d := 4) (by decide)) (zrg hS (by decide)) _ (by omega)) ks_X2_193 rfl rfl (Nat.le_of_ble_eq_true rfl) ⟨(Nat.le_of_ble_eq_true rfl), (Nat.le_of_ble_eq_true rfl)⟩ ⟨(Nat.le_of_ble_eq_true rfl), (Nat.le_of_ble_eq_true rfl)⟩ dX2_withClocks_37 (fun _ _ z => False.elim z) (fun v9 ws9 h8 => ?_)
  obtain ⟨rfl, hw9⟩ := h8
  subst ws9
  dsimp only [mPush]
  refine r_i2lZ hX dX2_withClocks_40 (hbC4 _) ?_
  refine r_callS hX (z_X2_added _ _ _ _) ks_X2_247 rfl rfl (Nat.le_of_ble_eq_true rfl) ⟨(Nat.le_of_ble_eq_true rfl), (Nat.le_of_ble_eq_true rfl)⟩ ⟨(Nat.le_of_ble_eq_true rfl), (Nat.le_of_ble_eq_true rfl)⟩ dX2_withClocks_41 (fun _ _ z => False.elim z) (fun v9 ws9 h9 => ?_)
  obtain ⟨rfl, hw9⟩ := h9
  subst ws9
  dsimp only [mPush]
  refine r_lstore_n hX dX2_withClocks_44 rfl (by decide) rfl ?_
  refine r_iincZ (z := 1) (y := 3) hX dX2_withClocks_45 rfl (by decide) rfl rfl ?_
  refine r_goto (tgt := 18) hX dX2_withClocks_48 (by decide) ?_
  refine r_iload hX dX2_withClocks_18 rfl ?_
  refine r_bipushZ hX dX2_withClocks_20 (by decide) ?_
  refine r_icmp_geZ (tgt := 51) hX dX2_withClocks_22 (by decide) (by decide) (by decide) (fun q => absurd q (by decide)) (fun _ => ?_)
  refine r_lload_n hX dX2_withClocks_25 rfl rfl ?_
  refine r_aload_n hX dX2_withClocks_26 rfl rfl ?_
  refine r_get hX kf_X2_24 0 rfl rfl dX2_withClocks_27 ?_
  refine r_iload hX dX2_withClocks_30 rfl ?_
  refine r_callS hX (z_X2_at_ok ad cs _ 4 _ 3 4 rfl (by decide) _ 0 (by omega) (by decide)) ks_X2_84 rfl rfl (Nat.le_of_ble_eq_true rfl) ⟨(Nat.le_of_ble_eq_true rfl), (Nat.le_of_ble_eq_true rfl)⟩ ⟨(Nat.le_of_ble_eq_true rfl), (Nat.le_of_ble_eq_true rfl)⟩ dX2_withClocks_32 (fun _ _ z => False.elim z) (fun v9 ws9 h10 => ?_)
  obtain ⟨rfl, hw9⟩ := h10
  subst ws9
  dsimp only [mPush]
  refine r_iload hX dX2_withClocks_35 rfl ?_
  refine r_callS hX (z_X2_clockPart _ _ (4 + 5) _ _ _ _ (zWd_loc (d := 4) (by decide)) (zrg hS (by decide)) _ (by omega)) ks_X2_193 rfl rfl (Nat.le_of_ble_eq_true rfl) ⟨(Nat.le_of_ble_eq_true rfl), (Nat.le_of_ble_eq_true rfl)⟩ ⟨(Nat.le_of_ble_eq_true rfl), (Nat.le_of_ble_eq_true rfl)⟩ dX2_withClocks_37 (fun _ _ z => False.elim z) (fun v9 ws9 h11 => ?_)
  obtain ⟨rfl, hw9⟩ := h11
  subst ws9
  dsimp only [mPush]
  refine r_i2lZ hX dX2_withClocks_40 (hbC4 _) ?_
  refine r_callS hX (z_X2_added _ _ _ _) ks_X2_247 rfl rfl (Nat.le_of_ble_eq_true rfl) ⟨(Nat.le_of_ble_eq_true rfl), (Nat.le_of_ble_eq_true rfl)⟩ ⟨(Nat.le_of_ble_eq_true rfl), (Nat.le_of_ble_eq_true rfl)⟩ dX2_withClocks_41 (fun _ _ z => False.elim z) (fun v9 ws9 h12 => ?_)
  obtain ⟨rfl, hw9⟩ := h12
  subst ws9
  dsimp only [mPush]
  refine r_lstore_n hX dX2_withClocks_44 rfl (by decide) rfl ?_
  refine r_iincZ (z := 1) (y := 4) hX dX2_withClocks_45 rfl (by decide) rfl rfl ?_
  refine r_goto (tgt := 18) hX dX2_withClocks_48 (by decide) ?_
  refine r_iload hX dX2_withClocks_18 rfl ?_
  refine r_bipushZ hX dX2_withClocks_20 (by decide) ?_
  refine r_icmp_geZ (tgt := 51) hX dX2_withClocks_22 (by decide) (by decide) (by decide) (fun q => absurd q (by decide)) (fun _ => ?_)
  refine r_lload_n hX dX2_withClocks_25 rfl rfl ?_
  refine r_aload_n hX dX2_withClocks_26 rfl rfl ?_
  refine r_get hX kf_X2_24 0 rfl rfl dX2_withClocks_27 ?_
  refine r_iload hX dX2_withClocks_30 rfl ?_
  refine r_callS hX (z_X2_at_ok ad cs _ 4 _ 3 4 rfl (by decide) _ 0 (by omega) (by decide)) ks_X2_84 rfl rfl (Nat.le_of_ble_eq_true rfl) ⟨(Nat.le_of_ble_eq_true rfl), (Nat.le_of_ble_eq_true rfl)⟩ ⟨(Nat.le_of_ble_eq_true rfl), (Nat.le_of_ble_eq_true rfl)⟩ dX2_withClocks_32 (fun _ _ z => False.elim z) (fun v9 ws9 h13 => ?_)
  obtain ⟨rfl, hw9⟩ := h13
  subst ws9
  dsimp only [mPush]
  refine r_iload hX dX2_withClocks_35 rfl ?_
  refine r_callS hX (z_X2_clockPart _ _ (4 + 5) _ _ _ _ (zWd_loc (d := 4) (by decide)) (zrg hS (by decide)) _ (by omega)) ks_X2_193 rfl rfl (Nat.le_of_ble_eq_true rfl) ⟨(Nat.le_of_ble_eq_true rfl), (Nat.le_of_ble_eq_true rfl)⟩ ⟨(Nat.le_of_ble_eq_true rfl), (Nat.le_of_ble_eq_true rfl)⟩ dX2_withClocks_37 (fun _ _ z => False.elim z) (fun v9 ws9 h14 => ?_)
  obtain ⟨rfl, hw9⟩ := h14
  subst ws9
  dsimp only [mPush]
  refine r_i2lZ hX dX2_withClocks_40 (hbC4 _) ?_
  refine r_callS hX (z_X2_added _ _ _ _) ks_X2_247 rfl rfl (Nat.le_of_ble_eq_true rfl) ⟨(Nat.le_of_ble_eq_true rfl), (Nat.le_of_ble_eq_true rfl)⟩ ⟨(Nat.le_of_ble_eq_true rfl), (Nat.le_of_ble_eq_true rfl)⟩ dX2_withClocks_41 (fun _ _ z => False.elim z) (fun v9 ws9 h15 => ?_)
  obtain ⟨rfl, hw9⟩ := h15
  subst ws9
  dsimp only [mPush]
  refine r_lstore_n hX dX2_withClocks_44 rfl (by decide) rfl ?_
  refine r_iincZ (z := 1) (y := 5) hX dX2_withClocks_45 rfl (by decide) rfl rfl ?_
  refine r_goto (tgt := 18) hX dX2_withClocks_48 (by decide) ?_
  refine r_iload hX dX2_withClocks_18 rfl ?_
  refine r_bipushZ hX dX2_withClocks_20 (by decide) ?_
  refine r_icmp_geZ (tgt := 51) hX dX2_withClocks_22 (by decide) (by decide) (by decide) (fun q => absurd q (by decide)) (fun _ => ?_)
  refine r_lload_n hX dX2_withClocks_25 rfl rfl ?_
  refine r_aload_n hX dX2_withClocks_26 rfl rfl ?_
  refine r_get hX kf_X2_24 0 rfl rfl dX2_withClocks_27 ?_
  refine r_iload hX dX2_withClocks_30 rfl ?_
  refine r_callS hX (z_X2_at_ok ad cs _ 4 _ 3 4 rfl (by decide) _ 0 (by omega) (by decide)) ks_X2_84 rfl rfl (Nat.le_of_ble_eq_true rfl) ⟨(Nat.le_of_ble_eq_true rfl), (Nat.le_of_ble_eq_true rfl)⟩ ⟨(Nat.le_of_ble_eq_true rfl), (Nat.le_of_ble_eq_true rfl)⟩ dX2_withClocks_32 (fun _ _ z => False.elim z) (fun v9 ws9 h16 => ?_)
  obtain ⟨rfl, hw9⟩ := h16
  subst ws9
  dsimp only [mPush]
  refine r_iload hX dX2_withClocks_35 rfl ?_
  refine r_callS hX (z_X2_clockPart _ _ (4 + 5) _ _ _ _ (zWd_loc (d := 4) (by decide)) (zrg hS (by decide)) _ (by omega)) ks_X2_193 rfl rfl (Nat.le_of_ble_eq_true rfl) ⟨(Nat.le_of_ble_eq_true rfl), (Nat.le_of_ble_eq_true rfl)⟩ ⟨(Nat.le_of_ble_eq_true rfl), (Nat.le_of_ble_eq_true rfl)⟩ dX2_withClocks_37 (fun _ _ z => False.elim z) (fun v9 ws9 h17 => ?_)
  obtain ⟨rfl, hw9⟩ := h17
  subst ws9
  dsimp only [mPush]
  refine r_i2lZ hX dX2_withClocks_40 (hbC4 _) ?_
  refine r_callS hX (z_X2_added _ _ _ _) ks_X2_247 rfl rfl (Nat.le_of_ble_eq_true rfl) ⟨(Nat.le_of_ble_eq_true rfl), (Nat.le_of_ble_eq_true rfl)⟩ ⟨(Nat.le_of_ble_eq_true rfl), (Nat.le_of_ble_eq_true rfl)⟩ dX2_withClocks_41 (fun _ _ z => False.elim z) (fun v9 ws9 h18 => ?_)
  obtain ⟨rfl, hw9⟩ := h18
  subst ws9
  dsimp only [mPush]
  refine r_lstore_n hX dX2_withClocks_44 rfl (by decide) rfl ?_
  refine r_iincZ (z := 1) (y := 6) hX dX2_withClocks_45 rfl (by decide) rfl rfl ?_
  refine r_goto (tgt := 18) hX dX2_withClocks_48 (by decide) ?_
  refine r_iload hX dX2_withClocks_18 rfl ?_
  refine r_bipushZ hX dX2_withClocks_20 (by decide) ?_
  refine r_icmp_geZ (tgt := 51) hX dX2_withClocks_22 (by decide) (by decide) (by decide) (fun _ => ?_) (fun q => absurd (by decide) q)
  refine r_iincZ (z := 1) (y := 1) hX dX2_withClocks_51 rfl (by decide) rfl rfl ?_
  refine r_goto (tgt := 5) hX dX2_withClocks_54 (by decide) ?_
  refine r_iload hX dX2_withClocks_5 rfl ?_
  refine r_aload_n hX dX2_withClocks_7 rfl rfl ?_
  refine r_get hX kf_X2_24 0 rfl rfl dX2_withClocks_8 ?_
  refine r_alen (v := iZ 3) hX 4 2 rfl rfl rfl dX2_withClocks_11 ?_
  refine r_icmp_geZ (tgt := 57) hX dX2_withClocks_12 (by decide) (by decide) (by decide) (fun q => absurd q (by decide)) (fun _ => ?_)
  refine r_iconstZ hX dX2_withClocks_15 ?_
  refine r_istore hX dX2_withClocks_16 (by decide) rfl ?_
  refine r_iload hX dX2_withClocks_18 rfl ?_
  refine r_bipushZ hX dX2_withClocks_20 (by decide) ?_
  refine r_icmp_geZ (tgt := 51) hX dX2_withClocks_22 (by decide) (by decide) (by decide) (fun q => absurd q (by decide)) (fun _ => ?_)
  refine r_lload_n hX dX2_withClocks_25 rfl rfl ?_
  refine r_aload_n hX dX2_withClocks_26 rfl rfl ?_
  refine r_get hX kf_X2_24 0 rfl rfl dX2_withClocks_27 ?_
  refine r_iload hX dX2_withClocks_30 rfl ?_
  refine r_callS hX (z_X2_at_ok ad cs _ 4 _ 3 4 rfl (by decide) _ 1 (by omega) (by decide)) ks_X2_84 rfl rfl (Nat.le_of_ble_eq_true rfl) ⟨(Nat.le_of_ble_eq_true rfl), (Nat.le_of_ble_eq_true rfl)⟩ ⟨(Nat.le_of_ble_eq_true rfl), (Nat.le_of_ble_eq_true rfl)⟩ dX2_withClocks_32 (fun _ _ z => False.elim z) (fun v9 ws9 h19 => ?_)
  obtain ⟨rfl, hw9⟩ := h19
  subst ws9
  dsimp only [mPush]
  refine r_iload hX dX2_withClocks_35 rfl ?_
  refine r_callS hX (z_X2_clockPart _ _ (5 + 5) _ _ _ _ (zWd_loc (d := 5) (by decide)) (zrg hS (by decide)) _ (by omega)) ks_X2_193 rfl rfl (Nat.le_of_ble_eq_true rfl) ⟨(Nat.le_of_ble_eq_true rfl), (Nat.le_of_ble_eq_true rfl)⟩ ⟨(Nat.le_of_ble_eq_true rfl), (Nat.le_of_ble_eq_true rfl)⟩ dX2_withClocks_37 (fun _ _ z => False.elim z) (fun v9 ws9 h20 => ?_)
  obtain ⟨rfl, hw9⟩ := h20
  subst ws9
  dsimp only [mPush]
  refine r_i2lZ hX dX2_withClocks_40 (hbC5 _) ?_
  refine r_callS hX (z_X2_added _ _ _ _) ks_X2_247 rfl rfl (Nat.le_of_ble_eq_true rfl) ⟨(Nat.le_of_ble_eq_true rfl), (Nat.le_of_ble_eq_true rfl)⟩ ⟨(Nat.le_of_ble_eq_true rfl), (Nat.le_of_ble_eq_true rfl)⟩ dX2_withClocks_41 (fun _ _ z => False.elim z) (fun v9 ws9 h21 => ?_)
  obtain ⟨rfl, hw9⟩ := h21
  subst ws9
  dsimp only [mPush]
  refine r_lstore_n hX dX2_withClocks_44 rfl (by decide) rfl ?_
  refine r_iincZ (z := 1) (y := 1) hX dX2_withClocks_45 rfl (by decide) rfl rfl ?_
  refine r_goto (tgt := 18) hX dX2_withClocks_48 (by decide) ?_
  refine r_iload hX dX2_withClocks_18 rfl ?_
  refine r_bipushZ hX dX2_withClocks_20 (by decide) ?_
  refine r_icmp_geZ (tgt := 51) hX dX2_withClocks_22 (by decide) (by decide) (by decide) (fun q => absurd q (by decide)) (fun _ => ?_)
  refine r_lload_n hX dX2_withClocks_25 rfl rfl ?_
  refine r_aload_n hX dX2_withClocks_26 rfl rfl ?_
  refine r_get hX kf_X2_24 0 rfl rfl dX2_withClocks_27 ?_
  refine r_iload hX dX2_withClocks_30 rfl ?_
  refine r_callS hX (z_X2_at_ok ad cs _ 4 _ 3 4 rfl (by decide) _ 1 (by omega) (by decide)) ks_X2_84 rfl rfl (Nat.le_of_ble_eq_true rfl) ⟨(Nat.le_of_ble_eq_true rfl), (Nat.le_of_ble_eq_true rfl)⟩ ⟨(Nat.le_of_ble_eq_true rfl), (Nat.le_of_ble_eq_true rfl)⟩ dX2_withClocks_32 (fun _ _ z => False.elim z) (fun v9 ws9 h22 => ?_)
  obtain ⟨rfl, hw9⟩ := h22
  subst ws9
  dsimp only [mPush]
  refine r_iload hX dX2_withClocks_35 rfl ?_
  refine r_callS hX (z_X2_clockPart _ _ (5 + 5) _ _ _ _ (zWd_loc (d := 5) (by decide)) (zrg hS (by decide)) _ (by omega)) ks_X2_193 rfl rfl (Nat.le_of_ble_eq_true rfl) ⟨(Nat.le_of_ble_eq_true rfl), (Nat.le_of_ble_eq_true rfl)⟩ ⟨(Nat.le_of_ble_eq_true rfl), (Nat.le_of_ble_eq_true rfl)⟩ dX2_withClocks_37 (fun _ _ z => False.elim z) (fun v9 ws9 h23 => ?_)
  obtain ⟨rfl, hw9⟩ := h23
  subst ws9
  dsimp only [mPush]
  refine r_i2lZ hX dX2_withClocks_40 (hbC5 _) ?_
  refine r_callS hX (z_X2_added _ _ _ _) ks_X2_247 rfl rfl (Nat.le_of_ble_eq_true rfl) ⟨(Nat.le_of_ble_eq_true rfl), (Nat.le_of_ble_eq_true rfl)⟩ ⟨(Nat.le_of_ble_eq_true rfl), (Nat.le_of_ble_eq_true rfl)⟩ dX2_withClocks_41 (fun _ _ z => False.elim z) (fun v9 ws9 h24 => ?_)
  obtain ⟨rfl, hw9⟩ := h24
  subst ws9
  dsimp only [mPush]
  refine r_lstore_n hX dX2_withClocks_44 rfl (by decide) rfl ?_
  refine r_iincZ (z := 1) (y := 2) hX dX2_withClocks_45 rfl (by decide) rfl rfl ?_
  refine r_goto (tgt := 18) hX dX2_withClocks_48 (by decide) ?_
  refine r_iload hX dX2_withClocks_18 rfl ?_
  refine r_bipushZ hX dX2_withClocks_20 (by decide) ?_
  refine r_icmp_geZ (tgt := 51) hX dX2_withClocks_22 (by decide) (by decide) (by decide) (fun q => absurd q (by decide)) (fun _ => ?_)
  refine r_lload_n hX dX2_withClocks_25 rfl rfl ?_
  refine r_aload_n hX dX2_withClocks_26 rfl rfl ?_
  refine r_get hX kf_X2_24 0 rfl rfl dX2_withClocks_27 ?_
  refine r_iload hX dX2_withClocks_30 rfl ?_
  refine r_callS hX (z_X2_at_ok ad cs _ 4 _ 3 4 rfl (by decide) _ 1 (by omega) (by decide)) ks_X2_84 rfl rfl (Nat.le_of_ble_eq_true rfl) ⟨(Nat.le_of_ble_eq_true rfl), (Nat.le_of_ble_eq_true rfl)⟩ ⟨(Nat.le_of_ble_eq_true rfl), (Nat.le_of_ble_eq_true rfl)⟩ dX2_withClocks_32 (fun _ _ z => False.elim z) (fun v9 ws9 h25 => ?_)
  obtain ⟨rfl, hw9⟩ := h25
  subst ws9
  dsimp only [mPush]
  refine r_iload hX dX2_withClocks_35 rfl ?_
  refine r_callS hX (z_X2_clockPart _ _ (5 + 5) _ _ _ _ (zWd_loc (d := 5) (by decide)) (zrg hS (by decide)) _ (by omega)) ks_X2_193 rfl rfl (Nat.le_of_ble_eq_true rfl) ⟨(Nat.le_of_ble_eq_true rfl), (Nat.le_of_ble_eq_true rfl)⟩ ⟨(Nat.le_of_ble_eq_true rfl), (Nat.le_of_ble_eq_true rfl)⟩ dX2_withClocks_37 (fun _ _ z => False.elim z) (fun v9 ws9 h26 => ?_)
  obtain ⟨rfl, hw9⟩ := h26
  subst ws9
  dsimp only [mPush]
  refine r_i2lZ hX dX2_withClocks_40 (hbC5 _) ?_
  refine r_callS hX (z_X2_added _ _ _ _) ks_X2_247 rfl rfl (Nat.le_of_ble_eq_true rfl) ⟨(Nat.le_of_ble_eq_true rfl), (Nat.le_of_ble_eq_true rfl)⟩ ⟨(Nat.le_of_ble_eq_true rfl), (Nat.le_of_ble_eq_true rfl)⟩ dX2_withClocks_41 (fun _ _ z => False.elim z) (fun v9 ws9 h27 => ?_)
  obtain ⟨rfl, hw9⟩ := h27
  subst ws9
  dsimp only [mPush]
  refine r_lstore_n hX dX2_withClocks_44 rfl (by decide) rfl ?_
  refine r_iincZ (z := 1) (y := 3) hX dX2_withClocks_45 rfl (by decide) rfl rfl ?_
  refine r_goto (tgt := 18) hX dX2_withClocks_48 (by decide) ?_
  refine r_iload hX dX2_withClocks_18 rfl ?_
  refine r_bipushZ hX dX2_withClocks_20 (by decide) ?_
  refine r_icmp_geZ (tgt := 51) hX dX2_withClocks_22 (by decide) (by decide) (by decide) (fun q => absurd q (by decide)) (fun _ => ?_)
  refine r_lload_n hX dX2_withClocks_25 rfl rfl ?_
  refine r_aload_n hX dX2_withClocks_26 rfl rfl ?_
  refine r_get hX kf_X2_24 0 rfl rfl dX2_withClocks_27 ?_
  refine r_iload hX dX2_withClocks_30 rfl ?_
  refine r_callS hX (z_X2_at_ok ad cs _ 4 _ 3 4 rfl (by decide) _ 1 (by omega) (by decide)) ks_X2_84 rfl rfl (Nat.le_of_ble_eq_true rfl) ⟨(Nat.le_of_ble_eq_true rfl), (Nat.le_of_ble_eq_true rfl)⟩ ⟨(Nat.le_of_ble_eq_true rfl), (Nat.le_of_ble_eq_true rfl)⟩ dX2_withClocks_32 (fun _ _ z => False.elim z) (fun v9 ws9 h28 => ?_)
  obtain ⟨rfl, hw9⟩ := h28
  subst ws9
  dsimp only [mPush]
  refine r_iload hX dX2_withClocks_35 rfl ?_
  refine r_callS hX (z_X2_clockPart _ _ (5 + 5) _ _ _ _ (zWd_loc (d := 5) (by decide)) (zrg hS (by decide)) _ (by omega)) ks_X2_193 rfl rfl (Nat.le_of_ble_eq_true rfl) ⟨(Nat.le_of_ble_eq_true rfl), (Nat.le_of_ble_eq_true rfl)⟩ ⟨(Nat.le_of_ble_eq_true rfl), (Nat.le_of_ble_eq_true rfl)⟩ dX2_withClocks_37 (fun _ _ z => False.elim z) (fun v9 ws9 h29 => ?_)
  obtain ⟨rfl, hw9⟩ := h29
  subst ws9
  dsimp only [mPush]
  refine r_i2lZ hX dX2_withClocks_40 (hbC5 _) ?_
  refine r_callS hX (z_X2_added _ _ _ _) ks_X2_247 rfl rfl (Nat.le_of_ble_eq_true rfl) ⟨(Nat.le_of_ble_eq_true rfl), (Nat.le_of_ble_eq_true rfl)⟩ ⟨(Nat.le_of_ble_eq_true rfl), (Nat.le_of_ble_eq_true rfl)⟩ dX2_withClocks_41 (fun _ _ z => False.elim z) (fun v9 ws9 h30 => ?_)
  obtain ⟨rfl, hw9⟩ := h30
  subst ws9
  dsimp only [mPush]
  refine r_lstore_n hX dX2_withClocks_44 rfl (by decide) rfl ?_
  refine r_iincZ (z := 1) (y := 4) hX dX2_withClocks_45 rfl (by decide) rfl rfl ?_
  refine r_goto (tgt := 18) hX dX2_withClocks_48 (by decide) ?_
  refine r_iload hX dX2_withClocks_18 rfl ?_
  refine r_bipushZ hX dX2_withClocks_20 (by decide) ?_
  refine r_icmp_geZ (tgt := 51) hX dX2_withClocks_22 (by decide) (by decide) (by decide) (fun q => absurd q (by decide)) (fun _ => ?_)
  refine r_lload_n hX dX2_withClocks_25 rfl rfl ?_
  refine r_aload_n hX dX2_withClocks_26 rfl rfl ?_
  refine r_get hX kf_X2_24 0 rfl rfl dX2_withClocks_27 ?_
  refine r_iload hX dX2_withClocks_30 rfl ?_
  refine r_callS hX (z_X2_at_ok ad cs _ 4 _ 3 4 rfl (by decide) _ 1 (by omega) (by decide)) ks_X2_84 rfl rfl (Nat.le_of_ble_eq_true rfl) ⟨(Nat.le_of_ble_eq_true rfl), (Nat.le_of_ble_eq_true rfl)⟩ ⟨(Nat.le_of_ble_eq_true rfl), (Nat.le_of_ble_eq_true rfl)⟩ dX2_withClocks_32 (fun _ _ z => False.elim z) (fun v9 ws9 h31 => ?_)
  obtain ⟨rfl, hw9⟩ := h31
  subst ws9
  dsimp only [mPush]
  refine r_iload hX dX2_withClocks_35 rfl ?_
  refine r_callS hX (z_X2_clockPart _ _ (5 + 5) _ _ _ _ (zWd_loc (d := 5) (by decide)) (zrg hS (by decide)) _ (by omega)) ks_X2_193 rfl rfl (Nat.le_of_ble_eq_true rfl) ⟨(Nat.le_of_ble_eq_true rfl), (Nat.le_of_ble_eq_true rfl)⟩ ⟨(Nat.le_of_ble_eq_true rfl), (Nat.le_of_ble_eq_true rfl)⟩ dX2_withClocks_37 (fun _ _ z => False.elim z) (fun v9 ws9 h32 => ?_)
  obtain ⟨rfl, hw9⟩ := h32
  subst ws9
  dsimp only [mPush]
  refine r_i2lZ hX dX2_withClocks_40 (hbC5 _) ?_
  refine r_callS hX (z_X2_added _ _ _ _) ks_X2_247 rfl rfl (Nat.le_of_ble_eq_true rfl) ⟨(Nat.le_of_ble_eq_true rfl), (Nat.le_of_ble_eq_true rfl)⟩ ⟨(Nat.le_of_ble_eq_true rfl), (Nat.le_of_ble_eq_true rfl)⟩ dX2_withClocks_41 (fun _ _ z => False.elim z) (fun v9 ws9 h33 => ?_)
  obtain ⟨rfl, hw9⟩ := h33
  subst ws9
  dsimp only [mPush]
  refine r_lstore_n hX dX2_withClocks_44 rfl (by decide) rfl ?_
  refine r_iincZ (z := 1) (y := 5) hX dX2_withClocks_45 rfl (by decide) rfl rfl ?_
  refine r_goto (tgt := 18) hX dX2_withClocks_48 (by decide) ?_
  refine r_iload hX dX2_withClocks_18 rfl ?_
  refine r_bipushZ hX dX2_withClocks_20 (by decide) ?_
  refine r_icmp_geZ (tgt := 51) hX dX2_withClocks_22 (by decide) (by decide) (by decide) (fun q => absurd q (by decide)) (fun _ => ?_)
  refine r_lload_n hX dX2_withClocks_25 rfl rfl ?_
  refine r_aload_n hX dX2_withClocks_26 rfl rfl ?_
  refine r_get hX kf_X2_24 0 rfl rfl dX2_withClocks_27 ?_
  refine r_iload hX dX2_withClocks_30 rfl ?_
  refine r_callS hX (z_X2_at_ok ad cs _ 4 _ 3 4 rfl (by decide) _ 1 (by omega) (by decide)) ks_X2_84 rfl rfl (Nat.le_of_ble_eq_true rfl) ⟨(Nat.le_of_ble_eq_true rfl), (Nat.le_of_ble_eq_true rfl)⟩ ⟨(Nat.le_of_ble_eq_true rfl), (Nat.le_of_ble_eq_true rfl)⟩ dX2_withClocks_32 (fun _ _ z => False.elim z) (fun v9 ws9 h34 => ?_)
  obtain ⟨rfl, hw9⟩ := h34
  subst ws9
  dsimp only [mPush]
  refine r_iload hX dX2_withClocks_35 rfl ?_
  refine r_callS hX (z_X2_clockPart _ _ (5 + 5) _ _ _ _ (zWd_loc (d := 5) (by decide)) (zrg hS (by decide)) _ (by omega)) ks_X2_193 rfl rfl (Nat.le_of_ble_eq_true rfl) ⟨(Nat.le_of_ble_eq_true rfl), (Nat.le_of_ble_eq_true rfl)⟩ ⟨(Nat.le_of_ble_eq_true rfl), (Nat.le_of_ble_eq_true rfl)⟩ dX2_withClocks_37 (fun _ _ z => False.elim z) (fun v9 ws9 h35 => ?_)
  obtain ⟨rfl, hw9⟩ := h35
  subst ws9
  dsimp only [mPush]
  refine r_i2lZ hX dX2_withClocks_40 (hbC5 _) ?_
  refine r_callS hX (z_X2_added _ _ _ _) ks_X2_247 rfl rfl (Nat.le_of_ble_eq_true rfl) ⟨(Nat.le_of_ble_eq_true rfl), (Nat.le_of_ble_eq_true rfl)⟩ ⟨(Nat.le_of_ble_eq_true rfl), (Nat.le_of_ble_eq_true rfl)⟩ dX2_withClocks_41 (fun _ _ z => False.elim z) (fun v9 ws9 h36 => ?_)
  obtain ⟨rfl, hw9⟩ := h36
  subst ws9
  dsimp only [mPush]
  refine r_lstore_n hX dX2_withClocks_44 rfl (by decide) rfl ?_
  refine r_iincZ (z := 1) (y := 6) hX dX2_withClocks_45 rfl (by decide) rfl rfl ?_
  refine r_goto (tgt := 18) hX dX2_withClocks_48 (by decide) ?_
  refine r_iload hX dX2_withClocks_18 rfl ?_
  refine r_bipushZ hX dX2_withClocks_20 (by decide) ?_
  refine r_icmp_geZ (tgt := 51) hX dX2_withClocks_22 (by decide) (by decide) (by decide) (fun _ => ?_) (fun q => absurd (by decide) q)
  refine r_iincZ (z := 1) (y := 2) hX dX2_withClocks_51 rfl (by decide) rfl rfl ?_
  refine r_goto (tgt := 5) hX dX2_withClocks_54 (by decide) ?_
  refine r_iload hX dX2_withClocks_5 rfl ?_
  refine r_aload_n hX dX2_withClocks_7 rfl rfl ?_
  refine r_get hX kf_X2_24 0 rfl rfl dX2_withClocks_8 ?_
  refine r_alen (v := iZ 3) hX 4 2 rfl rfl rfl dX2_withClocks_11 ?_
  refine r_icmp_geZ (tgt := 57) hX dX2_withClocks_12 (by decide) (by decide) (by decide) (fun q => absurd q (by decide)) (fun _ => ?_)
  refine r_iconstZ hX dX2_withClocks_15 ?_
  refine r_istore hX dX2_withClocks_16 (by decide) rfl ?_
  refine r_iload hX dX2_withClocks_18 rfl ?_
  refine r_bipushZ hX dX2_withClocks_20 (by decide) ?_
  refine r_icmp_geZ (tgt := 51) hX dX2_withClocks_22 (by decide) (by decide) (by decide) (fun q => absurd q (by decide)) (fun _ => ?_)
  refine r_lload_n hX dX2_withClocks_25 rfl rfl ?_
  refine r_aload_n hX dX2_withClocks_26 rfl rfl ?_
  refine r_get hX kf_X2_24 0 rfl rfl dX2_withClocks_27 ?_
  refine r_iload hX dX2_withClocks_30 rfl ?_
  refine r_callS hX (z_X2_at_ok ad cs _ 4 _ 3 4 rfl (by decide) _ 2 (by omega) (by decide)) ks_X2_84 rfl rfl (Nat.le_of_ble_eq_true rfl) ⟨(Nat.le_of_ble_eq_true rfl), (Nat.le_of_ble_eq_true rfl)⟩ ⟨(Nat.le_of_ble_eq_true rfl), (Nat.le_of_ble_eq_true rfl)⟩ dX2_withClocks_32 (fun _ _ z => False.elim z) (fun v9 ws9 h37 => ?_)
  obtain ⟨rfl, hw9⟩ := h37
  subst ws9
  dsimp only [mPush]
  refine r_iload hX dX2_withClocks_35 rfl ?_
  refine r_callS hX (z_X2_clockPart _ _ (6 + 5) _ _ _ _ (zWd_loc (d := 6) (by decide)) (zrg hS (by decide)) _ (by omega)) ks_X2_193 rfl rfl (Nat.le_of_ble_eq_true rfl) ⟨(Nat.le_of_ble_eq_true rfl), (Nat.le_of_ble_eq_true rfl)⟩ ⟨(Nat.le_of_ble_eq_true rfl), (Nat.le_of_ble_eq_true rfl)⟩ dX2_withClocks_37 (fun _ _ z => False.elim z) (fun v9 ws9 h38 => ?_)
  obtain ⟨rfl, hw9⟩ := h38
  subst ws9
  dsimp only [mPush]
  refine r_i2lZ hX dX2_withClocks_40 (hbC6 _) ?_
  refine r_callS hX (z_X2_added _ _ _ _) ks_X2_247 rfl rfl (Nat.le_of_ble_eq_true rfl) ⟨(Nat.le_of_ble_eq_true rfl), (Nat.le_of_ble_eq_true rfl)⟩ ⟨(Nat.le_of_ble_eq_true rfl), (Nat.le_of_ble_eq_true rfl)⟩ dX2_withClocks_41 (fun _ _ z => False.elim z) (fun v9 ws9 h39 => ?_)
  obtain ⟨rfl, hw9⟩ := h39
  subst ws9
  dsimp only [mPush]
  refine r_lstore_n hX dX2_withClocks_44 rfl (by decide) rfl ?_
  refine r_iincZ (z := 1) (y := 1) hX dX2_withClocks_45 rfl (by decide) rfl rfl ?_
  refine r_goto (tgt := 18) hX dX2_withClocks_48 (by decide) ?_
  refine r_iload hX dX2_withClocks_18 rfl ?_
  refine r_bipushZ hX dX2_withClocks_20 (by decide) ?_
  refine r_icmp_geZ (tgt := 51) hX dX2_withClocks_22 (by decide) (by decide) (by decide) (fun q => absurd q (by decide)) (fun _ => ?_)
  refine r_lload_n hX dX2_withClocks_25 rfl rfl ?_
  refine r_aload_n hX dX2_withClocks_26 rfl rfl ?_
  refine r_get hX kf_X2_24 0 rfl rfl dX2_withClocks_27 ?_
  refine r_iload hX dX2_withClocks_30 rfl ?_
  refine r_callS hX (z_X2_at_ok ad cs _ 4 _ 3 4 rfl (by decide) _ 2 (by omega) (by decide)) ks_X2_84 rfl rfl (Nat.le_of_ble_eq_true rfl) ⟨(Nat.le_of_ble_eq_true rfl), (Nat.le_of_ble_eq_true rfl)⟩ ⟨(Nat.le_of_ble_eq_true rfl), (Nat.le_of_ble_eq_true rfl)⟩ dX2_withClocks_32 (fun _ _ z => False.elim z) (fun v9 ws9 h40 => ?_)
  obtain ⟨rfl, hw9⟩ := h40
  subst ws9
  dsimp only [mPush]
  refine r_iload hX dX2_withClocks_35 rfl ?_
  refine r_callS hX (z_X2_clockPart _ _ (6 + 5) _ _ _ _ (zWd_loc (d := 6) (by decide)) (zrg hS (by decide)) _ (by omega)) ks_X2_193 rfl rfl (Nat.le_of_ble_eq_true rfl) ⟨(Nat.le_of_ble_eq_true rfl), (Nat.le_of_ble_eq_true rfl)⟩ ⟨(Nat.le_of_ble_eq_true rfl), (Nat.le_of_ble_eq_true rfl)⟩ dX2_withClocks_37 (fun _ _ z => False.elim z) (fun v9 ws9 h41 => ?_)
  obtain ⟨rfl, hw9⟩ := h41
  subst ws9
  dsimp only [mPush]
  refine r_i2lZ hX dX2_withClocks_40 (hbC6 _) ?_
  refine r_callS hX (z_X2_added _ _ _ _) ks_X2_247 rfl rfl (Nat.le_of_ble_eq_true rfl) ⟨(Nat.le_of_ble_eq_true rfl), (Nat.le_of_ble_eq_true rfl)⟩ ⟨(Nat.le_of_ble_eq_true rfl), (Nat.le_of_ble_eq_true rfl)⟩ dX2_withClocks_41 (fun _ _ z => False.elim z) (fun v9 ws9 h42 => ?_)
  obtain ⟨rfl, hw9⟩ := h42
  subst ws9
  dsimp only [mPush]
  refine r_lstore_n hX dX2_withClocks_44 rfl (by decide) rfl ?_
  refine r_iincZ (z := 1) (y := 2) hX dX2_withClocks_45 rfl (by decide) rfl rfl ?_
  refine r_goto (tgt := 18) hX dX2_withClocks_48 (by decide) ?_
  refine r_iload hX dX2_withClocks_18 rfl ?_
  refine r_bipushZ hX dX2_withClocks_20 (by decide) ?_
  refine r_icmp_geZ (tgt := 51) hX dX2_withClocks_22 (by decide) (by decide) (by decide) (fun q => absurd q (by decide)) (fun _ => ?_)
  refine r_lload_n hX dX2_withClocks_25 rfl rfl ?_
  refine r_aload_n hX dX2_withClocks_26 rfl rfl ?_
  refine r_get hX kf_X2_24 0 rfl rfl dX2_withClocks_27 ?_
  refine r_iload hX dX2_withClocks_30 rfl ?_
  refine r_callS hX (z_X2_at_ok ad cs _ 4 _ 3 4 rfl (by decide) _ 2 (by omega) (by decide)) ks_X2_84 rfl rfl (Nat.le_of_ble_eq_true rfl) ⟨(Nat.le_of_ble_eq_true rfl), (Nat.le_of_ble_eq_true rfl)⟩ ⟨(Nat.le_of_ble_eq_true rfl), (Nat.le_of_ble_eq_true rfl)⟩ dX2_withClocks_32 (fun _ _ z => False.elim z) (fun v9 ws9 h43 => ?_)
  obtain ⟨rfl, hw9⟩ := h43
  subst ws9
  dsimp only [mPush]
  refine r_iload hX dX2_withClocks_35 rfl ?_
  refine r_callS hX (z_X2_clockPart _ _ (6 + 5) _ _ _ _ (zWd_loc (d := 6) (by decide)) (zrg hS (by decide)) _ (by omega)) ks_X2_193 rfl rfl (Nat.le_of_ble_eq_true rfl) ⟨(Nat.le_of_ble_eq_true rfl), (Nat.le_of_ble_eq_true rfl)⟩ ⟨(Nat.le_of_ble_eq_true rfl), (Nat.le_of_ble_eq_true rfl)⟩ dX2_withClocks_37 (fun _ _ z => False.elim z) (fun v9 ws9 h44 => ?_)
  obtain ⟨rfl, hw9⟩ := h44
  subst ws9
  dsimp only [mPush]
  refine r_i2lZ hX dX2_withClocks_40 (hbC6 _) ?_
  refine r_callS hX (z_X2_added _ _ _ _) ks_X2_247 rfl rfl (Nat.le_of_ble_eq_true rfl) ⟨(Nat.le_of_ble_eq_true rfl), (Nat.le_of_ble_eq_true rfl)⟩ ⟨(Nat.le_of_ble_eq_true rfl), (Nat.le_of_ble_eq_true rfl)⟩ dX2_withClocks_41 (fun _ _ z => False.elim z) (fun v9 ws9 h45 => ?_)
  obtain ⟨rfl, hw9⟩ := h45
  subst ws9
  dsimp only [mPush]
  refine r_lstore_n hX dX2_withClocks_44 rfl (by decide) rfl ?_
  refine r_iincZ (z := 1) (y := 3) hX dX2_withClocks_45 rfl (by decide) rfl rfl ?_
  refine r_goto (tgt := 18) hX dX2_withClocks_48 (by decide) ?_
  refine r_iload hX dX2_withClocks_18 rfl ?_
  refine r_bipushZ hX dX2_withClocks_20 (by decide) ?_
  refine r_icmp_geZ (tgt := 51) hX dX2_withClocks_22 (by decide) (by decide) (by decide) (fun q => absurd q (by decide)) (fun _ => ?_)
  refine r_lload_n hX dX2_withClocks_25 rfl rfl ?_
  refine r_aload_n hX dX2_withClocks_26 rfl rfl ?_
  refine r_get hX kf_X2_24 0 rfl rfl dX2_withClocks_27 ?_
  refine r_iload hX dX2_withClocks_30 rfl ?_
  refine r_callS hX (z_X2_at_ok ad cs _ 4 _ 3 4 rfl (by decide) _ 2 (by omega) (by decide)) ks_X2_84 rfl rfl (Nat.le_of_ble_eq_true rfl) ⟨(Nat.le_of_ble_eq_true rfl), (Nat.le_of_ble_eq_true rfl)⟩ ⟨(Nat.le_of_ble_eq_true rfl), (Nat.le_of_ble_eq_true rfl)⟩ dX2_withClocks_32 (fun _ _ z => False.elim z) (fun v9 ws9 h46 => ?_)
  obtain ⟨rfl, hw9⟩ := h46
  subst ws9
  dsimp only [mPush]
  refine r_iload hX dX2_withClocks_35 rfl ?_
  refine r_callS hX (z_X2_clockPart _ _ (6 + 5) _ _ _ _ (zWd_loc (d := 6) (by decide)) (zrg hS (by decide)) _ (by omega)) ks_X2_193 rfl rfl (Nat.le_of_ble_eq_true rfl) ⟨(Nat.le_of_ble_eq_true rfl), (Nat.le_of_ble_eq_true rfl)⟩ ⟨(Nat.le_of_ble_eq_true rfl), (Nat.le_of_ble_eq_true rfl)⟩ dX2_withClocks_37 (fun _ _ z => False.elim z) (fun v9 ws9 h47 => ?_)
  obtain ⟨rfl, hw9⟩ := h47
  subst ws9
  dsimp only [mPush]
  refine r_i2lZ hX dX2_withClocks_40 (hbC6 _) ?_
  refine r_callS hX (z_X2_added _ _ _ _) ks_X2_247 rfl rfl (Nat.le_of_ble_eq_true rfl) ⟨(Nat.le_of_ble_eq_true rfl), (Nat.le_of_ble_eq_true rfl)⟩ ⟨(Nat.le_of_ble_eq_true rfl), (Nat.le_of_ble_eq_true rfl)⟩ dX2_withClocks_41 (fun _ _ z => False.elim z) (fun v9 ws9 h48 => ?_)
  obtain ⟨rfl, hw9⟩ := h48
  subst ws9
  dsimp only [mPush]
  refine r_lstore_n hX dX2_withClocks_44 rfl (by decide) rfl ?_
  refine r_iincZ (z := 1) (y := 4) hX dX2_withClocks_45 rfl (by decide) rfl rfl ?_
  refine r_goto (tgt := 18) hX dX2_withClocks_48 (by decide) ?_
  refine r_iload hX dX2_withClocks_18 rfl ?_
  refine r_bipushZ hX dX2_withClocks_20 (by decide) ?_
  refine r_icmp_geZ (tgt := 51) hX dX2_withClocks_22 (by decide) (by decide) (by decide) (fun q => absurd q (by decide)) (fun _ => ?_)
  refine r_lload_n hX dX2_withClocks_25 rfl rfl ?_
  refine r_aload_n hX dX2_withClocks_26 rfl rfl ?_
  refine r_get hX kf_X2_24 0 rfl rfl dX2_withClocks_27 ?_
  refine r_iload hX dX2_withClocks_30 rfl ?_
  refine r_callS hX (z_X2_at_ok ad cs _ 4 _ 3 4 rfl (by decide) _ 2 (by omega) (by decide)) ks_X2_84 rfl rfl (Nat.le_of_ble_eq_true rfl) ⟨(Nat.le_of_ble_eq_true rfl), (Nat.le_of_ble_eq_true rfl)⟩ ⟨(Nat.le_of_ble_eq_true rfl), (Nat.le_of_ble_eq_true rfl)⟩ dX2_withClocks_32 (fun _ _ z => False.elim z) (fun v9 ws9 h49 => ?_)
  obtain ⟨rfl, hw9⟩ := h49
  subst ws9
  dsimp only [mPush]
  refine r_iload hX dX2_withClocks_35 rfl ?_
  refine r_callS hX (z_X2_clockPart _ _ (6 + 5) _ _ _ _ (zWd_loc (d := 6) (by decide)) (zrg hS (by decide)) _ (by omega)) ks_X2_193 rfl rfl (Nat.le_of_ble_eq_true rfl) ⟨(Nat.le_of_ble_eq_true rfl), (Nat.le_of_ble_eq_true rfl)⟩ ⟨(Nat.le_of_ble_eq_true rfl), (Nat.le_of_ble_eq_true rfl)⟩ dX2_withClocks_37 (fun _ _ z => False.elim z) (fun v9 ws9 h50 => ?_)
  obtain ⟨rfl, hw9⟩ := h50
  subst ws9
  dsimp only [mPush]
  refine r_i2lZ hX dX2_withClocks_40 (hbC6 _) ?_
  refine r_callS hX (z_X2_added _ _ _ _) ks_X2_247 rfl rfl (Nat.le_of_ble_eq_true rfl) ⟨(Nat.le_of_ble_eq_true rfl), (Nat.le_of_ble_eq_true rfl)⟩ ⟨(Nat.le_of_ble_eq_true rfl), (Nat.le_of_ble_eq_true rfl)⟩ dX2_withClocks_41 (fun _ _ z => False.elim z) (fun v9 ws9 h51 => ?_)
  obtain ⟨rfl, hw9⟩ := h51
  subst ws9
  dsimp only [mPush]
  refine r_lstore_n hX dX2_withClocks_44 rfl (by decide) rfl ?_
  refine r_iincZ (z := 1) (y := 5) hX dX2_withClocks_45 rfl (by decide) rfl rfl ?_
  refine r_goto (tgt := 18) hX dX2_withClocks_48 (by decide) ?_
  refine r_iload hX dX2_withClocks_18 rfl ?_
  refine r_bipushZ hX dX2_withClocks_20 (by decide) ?_
  refine r_icmp_geZ (tgt := 51) hX dX2_withClocks_22 (by decide) (by decide) (by decide) (fun q => absurd q (by decide)) (fun _ => ?_)
  refine r_lload_n hX dX2_withClocks_25 rfl rfl ?_
  refine r_aload_n hX dX2_withClocks_26 rfl rfl ?_
  refine r_get hX kf_X2_24 0 rfl rfl dX2_withClocks_27 ?_
  refine r_iload hX dX2_withClocks_30 rfl ?_
  refine r_callS hX (z_X2_at_ok ad cs _ 4 _ 3 4 rfl (by decide) _ 2 (by omega) (by decide)) ks_X2_84 rfl rfl (Nat.le_of_ble_eq_true rfl) ⟨(Nat.le_of_ble_eq_true rfl), (Nat.le_of_ble_eq_true rfl)⟩ ⟨(Nat.le_of_ble_eq_true rfl), (Nat.le_of_ble_eq_true rfl)⟩ dX2_withClocks_32 (fun _ _ z => False.elim z) (fun v9 ws9 h52 => ?_)
  obtain ⟨rfl, hw9⟩ := h52
  subst ws9
  dsimp only [mPush]
  refine r_iload hX dX2_withClocks_35 rfl ?_
  refine r_callS hX (z_X2_clockPart _ _ (6 + 5) _ _ _ _ (zWd_loc (d := 6) (by decide)) (zrg hS (by decide)) _ (by omega)) ks_X2_193 rfl rfl (Nat.le_of_ble_eq_true rfl) ⟨(Nat.le_of_ble_eq_true rfl), (Nat.le_of_ble_eq_true rfl)⟩ ⟨(Nat.le_of_ble_eq_true rfl), (Nat.le_of_ble_eq_true rfl)⟩ dX2_withClocks_37 (fun _ _ z => False.elim z) (fun v9 ws9 h53 => ?_)
  obtain ⟨rfl, hw9⟩ := h53
  subst ws9
  dsimp only [mPush]
  refine r_i2lZ hX dX2_withClocks_40 (hbC6 _) ?_
  refine r_callS hX (z_X2_added _ _ _ _) ks_X2_247 rfl rfl (Nat.le_of_ble_eq_true rfl) ⟨(Nat.le_of_ble_eq_true rfl), (Nat.le_of_ble_eq_true rfl)⟩ ⟨(Nat.le_of_ble_eq_true rfl), (Nat.le_of_ble_eq_true rfl)⟩ dX2_withClocks_41 (fun _ _ z => False.elim z) (fun v9 ws9 h54 => ?_)
  obtain ⟨rfl, hw9⟩ := h54
  subst ws9
  dsimp only [mPush]
  refine r_lstore_n hX dX2_withClocks_44 rfl (by decide) rfl ?_
  refine r_iincZ (z := 1) (y := 6) hX dX2_withClocks_45 rfl (by decide) rfl rfl ?_
  refine r_goto (tgt := 18) hX dX2_withClocks_48 (by decide) ?_
  refine r_iload hX dX2_withClocks_18 rfl ?_
  refine r_bipushZ hX dX2_withClocks_20 (by decide) ?_
  refine r_icmp_geZ (tgt := 51) hX dX2_withClocks_22 (by decide) (by decide) (by decide) (fun _ => ?_) (fun q => absurd (by decide) q)
  refine r_iincZ (z := 1) (y := 3) hX dX2_withClocks_51 rfl (by decide) rfl rfl ?_
  refine r_goto (tgt := 5) hX dX2_withClocks_54 (by decide) ?_
  refine r_iload hX dX2_withClocks_5 rfl ?_
  refine r_aload_n hX dX2_withClocks_7 rfl rfl ?_
  refine r_get hX kf_X2_24 0 rfl rfl dX2_withClocks_8 ?_
  refine r_alen (v := iZ 3) hX 4 2 rfl rfl rfl dX2_withClocks_11 ?_
  refine r_icmp_geZ (tgt := 57) hX dX2_withClocks_12 (by decide) (by decide) (by decide) (fun _ => ?_) (fun q => absurd (by decide) q)
  refine r_lload_n hX dX2_withClocks_57 rfl rfl ?_
  refine r_lret hX hE dX2_withClocks_58 (Nat.le_of_ble_eq_true rfl) (Nat.le_of_ble_eq_true rfl) ⟨zl ?_, rfl⟩
  rfl
theorem cond_b (b : Bool) : 0 ≤ cond b (1 : Int) 0 ∧ cond b (1 : Int) 0 ≤ 1 := by cases b <;> simp
section ZR4
variable {X : mC} {own : String} {cc : ByteArray} {nL : Nat} {R : Room} {hh : List (Nat × Nat × Nat × Nat)} {tys : List (ClassId × FieldType)} {pc : Nat} {lv : List (Nat × Option Value)} {st : List Value} {ws : va_W} {k n : Nat}
theorem r_selL {b : Bool} (hX : mOK X own cc nL R hh tys) (d0 : decode cc pc = .ok (.ifCond .eq 7, 3)) (d3 : decode cc (pc + 3) = .ok (.lconst 1, 1)) (d4 : decode cc (pc + 4) = .ok (.goto 4, 3)) (d7 : decode cc (pc + 7) = .ok (.lconst 0, 1)) (kk : mV X (pc + 8) lv (.long (lZ (cond b 1 0)) :: st) ws k n) : mV X pc lv (.int (b2i b) :: st) ws k n := by
  cases b
  · refine r_if_eqB (tgt := pc + 7) hX d0 (by omega) (fun _ => ?_) (fun h => by cases h)
    exact r_lconstZ (v := 0) hX d7 rfl kk
  · refine r_if_eqB (tgt := pc + 7) hX d0 (by omega) (fun h => by cases h) (fun _ => ?_)
    refine r_lconstZ (v := 1) hX d3 rfl ?_
    exact r_goto (tgt := pc + 8) hX d4 (by omega) kk
end ZR4

