-- 6e zdig
section
/-! The class, exact (rows by a program of this repository). -/
/-- a sum goes on by these -/
def dg : Int → List Int → Int
  | s, [] => s
  | s, x :: r => dg (s * 31 + x) r
/-- a sum, told once (no fact for omega) -/
def dgE (a b g : Int) : Prop := a + b = g
theorem dg_step {s x g : Int} {l : List Int} (h : dgE (s * 31) x g) : dg s (x :: l) = dg g l := by
  unfold dgE at h
  rw [← h]
  rfl
def dP (S : mS) (d : Nat) (w : Int) : Int := zDP (sse S d) (sna S d) (sow S d) w
def dC (S : mS) (c : Nat) (w : Int) : Int := zCP (sse S (c + 4)) (sna S (c + 4)) (sow S (c + 4)) w
def dT (S : mS) (i j : Nat) : Int := zTo (sse S i) (sna S i) (sow S i) (sse S j) (sna S j) (sow S j)
def dA (S : mS) (i j : Nat) : Int := cond (decide (sse S i - sow S i = sse S j - sow S j ∧ sna S i = sna S j)) 1 0
def dOff (S : mS) (s : Int) : Int := dg s [sof S 0, sof S 1, sof S 2, sof S 3]
def dMom (S : mS) (s : Int) : Int := dg s [snu S 0 / 1000000000, snu S 0 % 1000000000, snu S 1 / 1000000000, snu S 1 % 1000000000, snu S 2 / 1000000000, snu S 2 % 1000000000, snu S 3 / 1000000000, snu S 3 % 1000000000]
def dDat (S : mS) (s : Int) : Int := dg s [dP S 0 0, dP S 0 1, dP S 0 2, dP S 0 3, dP S 0 4, dP S 0 5, dP S 0 6, dP S 0 7, dP S 0 8, dP S 0 9, dP S 0 10, dP S 0 11, dP S 0 12, dP S 1 0, dP S 1 1, dP S 1 2, dP S 1 3, dP S 1 4, dP S 1 5, dP S 1 6, dP S 1 7, dP S 1 8, dP S 1 9, dP S 1 10, dP S 1 11, dP S 1 12, dP S 2 0, dP S 2 1, dP S 2 2, dP S 2 3, dP S 2 4, dP S 2 5, dP S 2 6, dP S 2 7, dP S 2 8, dP S 2 9, dP S 2 10, dP S 2 11, dP S 2 12, dP S 3 0, dP S 3 1, dP S 3 2, dP S 3 3, dP S 3 4, dP S 3 5, dP S 3 6, dP S 3 7, dP S 3 8, dP S 3 9, dP S 3 10, dP S 3 11, dP S 3 12]
def dClk (S : mS) (s : Int) : Int := dg s [dC S 0 0, dC S 0 1, dC S 0 2, dC S 0 3, dC S 0 4, dC S 0 5, dC S 1 0, dC S 1 1, dC S 1 2, dC S 1 3, dC S 1 4, dC S 1 5, dC S 2 0, dC S 2 1, dC S 2 2, dC S 2 3, dC S 2 4, dC S 2 5]
def dDp (S : mS) (s : Int) : Int := dg s [dT S 0 0, dA S 0 0, dT S 0 1, dA S 0 1, dT S 0 2, dA S 0 2, dT S 0 3, dA S 0 3, dT S 1 0, dA S 1 0, dT S 1 1, dA S 1 1, dT S 1 2, dA S 1 2, dT S 1 3, dA S 1 3, dT S 2 0, dA S 2 0, dT S 2 1, dA S 2 1, dT S 2 2, dA S 2 2, dT S 2 3, dA S 2 3, dT S 3 0, dA S 3 0, dT S 3 1, dA S 3 1, dT S 3 2, dA S 3 2, dT S 3 3, dA S 3 3]
def dCp (S : mS) (s : Int) : Int := dg s [dT S 4 4, dT S 4 5, dT S 4 6, dT S 5 4, dT S 5 5, dT S 5 6, dT S 6 4, dT S 6 5, dT S 6 6]
def dHo (S : mS) (s : Int) : Int := dg s [(zHo S 0).toInt, (zHo S 1).toInt, (zHo S 2).toInt, (zHo S 3).toInt]
def zDig (S : mS) : Int := dHo S (dCp S (dDp S (dClk S (dDat S (dMom S (dOff S 6199)))))) * 31 + 1
theorem z_X2_ofMoment_ok (ad : Nat → Nat) (cs : ClassId × ClassId × ClassId) (S : mS) (T : mT2) (rest : va_W) (hS : sWF S) (a0 : Int) (h0 : 0 ≤ a0 ∧ a0 < 4) (b1 : Bool) : mCt (mTy cs) yX2_ofMoment cX2_ofMoment 3 (some .int) ⟨7, 1, 6, 103⟩ [.ref (ad 0), .int (iZ a0), .int (b2i b1)] (mWd ad cs (mKof S T) rest) (fun v ws' => v = some (.int (iZ (cond b1 (snu S a0.toNat % 1000000000) (snu S a0.toNat / 1000000000)))) ∧ ws' = mWd ad cs (mKof S T) rest) mNo :=
  (z_X2_ofMoment ad cs S T rest hS a0 (by omega) b1).mono (fun v w h => h.2) (fun E w z => z.2.elim (fun q => q.2 h0) (fun q => q.2.2 (by decide)))
theorem z_X2_house_ok (ad : Nat → Nat) (cs : ClassId × ClassId × ClassId) (S : mS) (T : mT2) (rest : va_W) (hS : sWF S) (a0 : Int) (h0 : 0 ≤ a0 ∧ a0 ≤ 3) : mCt (mTy cs) yX2_house cX2_house 2 (some .int) ⟨7, 1, 6, 104⟩ [.ref (ad 0), .int (iZ a0)] (mWd ad cs (mKof S T) rest) (fun v ws' => v = some (.int (iZ (zHo S a0).toInt)) ∧ ws' = mWd ad cs (mKof S T) rest) mNo :=
  (z_X2_house ad cs S T rest hS a0 (by omega)).mono (fun v w h => ⟨by rw [iZ_self]; exact h.2.1, h.2.2⟩) (fun E w z => z.2.2 h0)
theorem z_X2_ofMoment_s (ad : Nat → Nat) (cs : ClassId × ClassId × ClassId) (S : mS) (T : mT2) (rest : va_W) (hS : sWF S) (a0 : Int) (j : Nat) (hj : j < 4) (e : a0 = (j : Int)) : mCt (mTy cs) yX2_ofMoment cX2_ofMoment 3 (some .int) ⟨7, 1, 6, 103⟩ [.ref (ad 0), .int (iZ a0), .int (b2i false)] (mWd ad cs (mKof S T) rest) (fun v ws' => v = some (.int (iZ (snu S j / 1000000000))) ∧ ws' = mWd ad cs (mKof S T) rest) mNo := by
  subst e
  exact (z_X2_ofMoment_ok ad cs S T rest hS (j : Int) ⟨by omega, by omega⟩ false).mono (fun v w h => h) (fun E w z => z)
theorem z_X2_ofMoment_n (ad : Nat → Nat) (cs : ClassId × ClassId × ClassId) (S : mS) (T : mT2) (rest : va_W) (hS : sWF S) (a0 : Int) (j : Nat) (hj : j < 4) (e : a0 = (j : Int)) : mCt (mTy cs) yX2_ofMoment cX2_ofMoment 3 (some .int) ⟨7, 1, 6, 103⟩ [.ref (ad 0), .int (iZ a0), .int (b2i true)] (mWd ad cs (mKof S T) rest) (fun v ws' => v = some (.int (iZ (snu S j % 1000000000))) ∧ ws' = mWd ad cs (mKof S T) rest) mNo := by
  subst e
  exact (z_X2_ofMoment_ok ad cs S T rest hS (j : Int) ⟨by omega, by omega⟩ true).mono (fun v w h => h) (fun E w z => z)
set_option maxHeartbeats 4000000 in
set_option maxRecDepth 20000 in
theorem z_X2_added (tys : List (ClassId × FieldType)) (ws : va_W) (a b : Int)  : mCt tys yX2_added cX2_added 4 (some .long) ⟨0, 0, 0, 0⟩ [.long (lZ a), .long (lZ b)] ws (fun v ws' => v = some (.long (lZ (a * 31 + b))) ∧ ws' = ws) mNo := by
  refine mCt.of (by decide +kernel) (Nat.le_of_ble_eq_true rfl) (fun X hX hE => ?_)
  replace hX : mOK X RX2 cX2_added 4 ⟨0, 0, 0, 0⟩ [] tys := hX
  refine r_lload_n hX dX2_added_0 rfl rfl (r_ldc2Z (z := 31) hX kc_X2_374 (by decide +kernel) dX2_added_1 (r_lmulZ hX dX2_added_4 (r_lload_n hX dX2_added_5 rfl rfl (r_laddZ hX dX2_added_6 (r_lret hX hE dX2_added_7 (Nat.le_of_ble_eq_true rfl) (Nat.le_of_ble_eq_true rfl) ⟨zl ?_, rfl⟩)))))
  rfl
theorem z_X2_addedG (tys : List (ClassId × FieldType)) (ws : va_W) (a b : Int) : mCt tys yX2_added cX2_added 4 (some .long) ⟨0, 0, 0, 0⟩ [.long (lZ a), .long (lZ b)] ws (fun v ws' => ∃ g : Int, dgE (a * 31) b g ∧ v = some (.long (lZ g)) ∧ ws' = ws) mNo :=
  (z_X2_added tys ws a b).mono (fun v w h => ⟨_, (rfl : a * 31 + b = a * 31 + b), h.1, h.2⟩) (fun E w z => z)
set_option maxHeartbeats 4000000 in
set_option maxRecDepth 20000 in
theorem z_X2_withOffsets (ad : Nat → Nat) (cs : ClassId × ClassId × ClassId) (S : mS) (T : mT2) (rest : va_W) (hS : sWF S) (s : Int)  : mCt (mTy cs) yX2_withOffsets cX2_withOffsets 6 (some .long) ⟨2, 0, 0, 42⟩ [.ref (ad 0), .long (lZ s)] (mWd ad cs (mKof S T) rest) (fun v ws' => v = some (.long (lZ (dOff S s))) ∧ ws' = (mWd ad cs (mKof S T) rest)) mNo := by
  refine mCt.of (by decide +kernel) (Nat.le_of_ble_eq_true rfl) (fun X hX hE => ?_)
  replace hX : mOK X RX2 cX2_withOffsets 6 ⟨2, 0, 0, 42⟩ [] (mTy cs) := hX
  have hn0 := hS.2.1 0 (by decide)
  have hn1 := hS.2.1 1 (by decide)
  have hn2 := hS.2.1 2 (by decide)
  have hn3 := hS.2.1 3 (by decide)
  have ho0 := hS.1 0 (by decide)
  have ho1 := hS.1 1 (by decide)
  have ho2 := hS.1 2 (by decide)
  have ho3 := hS.1 3 (by decide)
  refine r_lload_n hX dX2_withOffsets_0 rfl rfl (r_lstore_n hX dX2_withOffsets_1 rfl (by decide) rfl (r_iconstZ hX dX2_withOffsets_2 (r_istore hX dX2_withOffsets_3 (by decide) rfl (r_iload hX dX2_withOffsets_5 rfl (r_aload_n hX dX2_withOffsets_7 rfl rfl (r_get hX kf_X2_9 0 rfl rfl dX2_withOffsets_8 (r_alen (v := iZ 4) hX 1 0 rfl rfl rfl dX2_withOffsets_11 ?_)))))))
  refine r_icmp_geZ (tgt := 33) hX dX2_withOffsets_12 (by decide) (by decide) (by decide) (fun q => absurd q (by decide)) (fun _ => ?_)
  refine r_lload_n hX dX2_withOffsets_15 rfl rfl (r_aload_n hX dX2_withOffsets_16 rfl rfl (r_iload hX dX2_withOffsets_17 rfl (r_callV hX (z_X2_seconds_ok ad cs S T rest hS _ 0 (by first | with_reducible assumption | decide | omega) (by decide)) kv_X2_64 0 rfl rfl rfl rfl (Nat.le_of_ble_eq_true rfl) ⟨(Nat.le_of_ble_eq_true rfl), (Nat.le_of_ble_eq_true rfl)⟩ ⟨(Nat.le_of_ble_eq_true rfl), (Nat.le_of_ble_eq_true rfl)⟩ dX2_withOffsets_19 (fun _ _ z => False.elim z) (fun v9 ws9 h1 => ?_))))
  obtain ⟨rfl, hw9⟩ := h1
  subst ws9
  dsimp only [mPush]
  refine r_i2lZ hX dX2_withOffsets_22 (by first | with_reducible assumption | decide | omega) (r_callS hX (z_X2_addedG _ _ _ _) ks_X2_247 rfl rfl (Nat.le_of_ble_eq_true rfl) ⟨(Nat.le_of_ble_eq_true rfl), (Nat.le_of_ble_eq_true rfl)⟩ ⟨(Nat.le_of_ble_eq_true rfl), (Nat.le_of_ble_eq_true rfl)⟩ dX2_withOffsets_23 (fun _ _ z => False.elim z) (fun v9 ws9 h2 => ?_))
  obtain ⟨g1, hg1, rfl, hw9⟩ := h2
  subst ws9
  dsimp only [mPush]
  refine r_lstore_n hX dX2_withOffsets_26 rfl (by decide) rfl (r_iincZ (z := 1) (y := 1) hX dX2_withOffsets_27 rfl (by decide) rfl rfl (r_goto (tgt := 5) hX dX2_withOffsets_30 (by decide) (r_iload hX dX2_withOffsets_5 rfl (r_aload_n hX dX2_withOffsets_7 rfl rfl (r_get hX kf_X2_9 0 rfl rfl dX2_withOffsets_8 (r_alen (v := iZ 4) hX 1 0 rfl rfl rfl dX2_withOffsets_11 (r_icmp_geZ (tgt := 33) hX dX2_withOffsets_12 (by decide) (by decide) (by decide) (fun q => absurd q (by decide)) (fun _ => ?_))))))))
  refine r_lload_n hX dX2_withOffsets_15 rfl rfl (r_aload_n hX dX2_withOffsets_16 rfl rfl (r_iload hX dX2_withOffsets_17 rfl (r_callV hX (z_X2_seconds_ok ad cs S T rest hS _ 1 (by first | with_reducible assumption | decide | omega) (by decide)) kv_X2_64 0 rfl rfl rfl rfl (Nat.le_of_ble_eq_true rfl) ⟨(Nat.le_of_ble_eq_true rfl), (Nat.le_of_ble_eq_true rfl)⟩ ⟨(Nat.le_of_ble_eq_true rfl), (Nat.le_of_ble_eq_true rfl)⟩ dX2_withOffsets_19 (fun _ _ z => False.elim z) (fun v9 ws9 h3 => ?_))))
  obtain ⟨rfl, hw9⟩ := h3
  subst ws9
  dsimp only [mPush]
  refine r_i2lZ hX dX2_withOffsets_22 (by first | with_reducible assumption | decide | omega) (r_callS hX (z_X2_addedG _ _ _ _) ks_X2_247 rfl rfl (Nat.le_of_ble_eq_true rfl) ⟨(Nat.le_of_ble_eq_true rfl), (Nat.le_of_ble_eq_true rfl)⟩ ⟨(Nat.le_of_ble_eq_true rfl), (Nat.le_of_ble_eq_true rfl)⟩ dX2_withOffsets_23 (fun _ _ z => False.elim z) (fun v9 ws9 h4 => ?_))
  obtain ⟨g2, hg2, rfl, hw9⟩ := h4
  subst ws9
  dsimp only [mPush]
  refine r_lstore_n hX dX2_withOffsets_26 rfl (by decide) rfl (r_iincZ (z := 1) (y := 2) hX dX2_withOffsets_27 rfl (by decide) rfl rfl (r_goto (tgt := 5) hX dX2_withOffsets_30 (by decide) (r_iload hX dX2_withOffsets_5 rfl (r_aload_n hX dX2_withOffsets_7 rfl rfl (r_get hX kf_X2_9 0 rfl rfl dX2_withOffsets_8 (r_alen (v := iZ 4) hX 1 0 rfl rfl rfl dX2_withOffsets_11 (r_icmp_geZ (tgt := 33) hX dX2_withOffsets_12 (by decide) (by decide) (by decide) (fun q => absurd q (by decide)) (fun _ => ?_))))))))
  refine r_lload_n hX dX2_withOffsets_15 rfl rfl (r_aload_n hX dX2_withOffsets_16 rfl rfl (r_iload hX dX2_withOffsets_17 rfl (r_callV hX (z_X2_seconds_ok ad cs S T rest hS _ 2 (by first | with_reducible assumption | decide | omega) (by decide)) kv_X2_64 0 rfl rfl rfl rfl (Nat.le_of_ble_eq_true rfl) ⟨(Nat.le_of_ble_eq_true rfl), (Nat.le_of_ble_eq_true rfl)⟩ ⟨(Nat.le_of_ble_eq_true rfl), (Nat.le_of_ble_eq_true rfl)⟩ dX2_withOffsets_19 (fun _ _ z => False.elim z) (fun v9 ws9 h5 => ?_))))
  obtain ⟨rfl, hw9⟩ := h5
  subst ws9
  dsimp only [mPush]
  refine r_i2lZ hX dX2_withOffsets_22 (by first | with_reducible assumption | decide | omega) (r_callS hX (z_X2_addedG _ _ _ _) ks_X2_247 rfl rfl (Nat.le_of_ble_eq_true rfl) ⟨(Nat.le_of_ble_eq_true rfl), (Nat.le_of_ble_eq_true rfl)⟩ ⟨(Nat.le_of_ble_eq_true rfl), (Nat.le_of_ble_eq_true rfl)⟩ dX2_withOffsets_23 (fun _ _ z => False.elim z) (fun v9 ws9 h6 => ?_))
  obtain ⟨g3, hg3, rfl, hw9⟩ := h6
  subst ws9
  dsimp only [mPush]
  refine r_lstore_n hX dX2_withOffsets_26 rfl (by decide) rfl (r_iincZ (z := 1) (y := 3) hX dX2_withOffsets_27 rfl (by decide) rfl rfl (r_lc4 (i0 := 0) (i1 := 1) (i2 := 3) (i3 := 5) rfl rfl rfl rfl (r_goto (tgt := 5) hX dX2_withOffsets_30 (by decide) (r_iload hX dX2_withOffsets_5 rfl (r_aload_n hX dX2_withOffsets_7 rfl rfl (r_get hX kf_X2_9 0 rfl rfl dX2_withOffsets_8 (r_alen (v := iZ 4) hX 1 0 rfl rfl rfl dX2_withOffsets_11 ?_)))))))
  refine r_icmp_geZ (tgt := 33) hX dX2_withOffsets_12 (by decide) (by decide) (by decide) (fun q => absurd q (by decide)) (fun _ => ?_)
  refine r_lload_n hX dX2_withOffsets_15 rfl rfl (r_aload_n hX dX2_withOffsets_16 rfl rfl (r_iload hX dX2_withOffsets_17 rfl (r_callV hX (z_X2_seconds_ok ad cs S T rest hS _ 3 (by first | with_reducible assumption | decide | omega) (by decide)) kv_X2_64 0 rfl rfl rfl rfl (Nat.le_of_ble_eq_true rfl) ⟨(Nat.le_of_ble_eq_true rfl), (Nat.le_of_ble_eq_true rfl)⟩ ⟨(Nat.le_of_ble_eq_true rfl), (Nat.le_of_ble_eq_true rfl)⟩ dX2_withOffsets_19 (fun _ _ z => False.elim z) (fun v9 ws9 h7 => ?_))))
  obtain ⟨rfl, hw9⟩ := h7
  subst ws9
  dsimp only [mPush]
  refine r_i2lZ hX dX2_withOffsets_22 (by first | with_reducible assumption | decide | omega) (r_callS hX (z_X2_addedG _ _ _ _) ks_X2_247 rfl rfl (Nat.le_of_ble_eq_true rfl) ⟨(Nat.le_of_ble_eq_true rfl), (Nat.le_of_ble_eq_true rfl)⟩ ⟨(Nat.le_of_ble_eq_true rfl), (Nat.le_of_ble_eq_true rfl)⟩ dX2_withOffsets_23 (fun _ _ z => False.elim z) (fun v9 ws9 h8 => ?_))
  obtain ⟨g4, hg4, rfl, hw9⟩ := h8
  subst ws9
  dsimp only [mPush]
  refine r_lstore_n hX dX2_withOffsets_26 rfl (by decide) rfl (r_iincZ (z := 1) (y := 4) hX dX2_withOffsets_27 rfl (by decide) rfl rfl (r_goto (tgt := 5) hX dX2_withOffsets_30 (by decide) (r_iload hX dX2_withOffsets_5 rfl (r_aload_n hX dX2_withOffsets_7 rfl rfl (r_get hX kf_X2_9 0 rfl rfl dX2_withOffsets_8 (r_alen (v := iZ 4) hX 1 0 rfl rfl rfl dX2_withOffsets_11 (r_icmp_geZ (tgt := 33) hX dX2_withOffsets_12 (by decide) (by decide) (by decide) (fun _ => ?_) (fun q => absurd (by decide) q))))))))
  refine r_lload_n hX dX2_withOffsets_33 rfl rfl ?_
  exact r_lret hX hE dX2_withOffsets_34 (Nat.le_of_ble_eq_true rfl) (Nat.le_of_ble_eq_true rfl) ⟨zl (((dg_step hg1).trans ((dg_step hg2).trans ((dg_step hg3).trans (dg_step (l := []) hg4))))).symm, rfl⟩
set_option maxHeartbeats 4000000 in
set_option maxRecDepth 20000 in
theorem z_X2_withMoments (ad : Nat → Nat) (cs : ClassId × ClassId × ClassId) (S : mS) (T : mT2) (rest : va_W) (hS : sWF S) (s : Int)  : mCt (mTy cs) yX2_withMoments cX2_withMoments 6 (some .long) ⟨8, 8, 48, 125⟩ [.ref (ad 0), .long (lZ s)] (mWd ad cs (mKof S T) rest) (fun v ws' => v = some (.long (lZ (dMom S s))) ∧ ws' = (mWd ad cs (mKof S T) rest)) mNo := by
  refine mCt.of (by decide +kernel) (Nat.le_of_ble_eq_true rfl) (fun X hX hE => ?_)
  replace hX : mOK X RX2 cX2_withMoments 6 ⟨8, 8, 48, 125⟩ [] (mTy cs) := hX
  have hn0 := hS.2.1 0 (by decide)
  have hn1 := hS.2.1 1 (by decide)
  have hn2 := hS.2.1 2 (by decide)
  have hn3 := hS.2.1 3 (by decide)
  have ho0 := hS.1 0 (by decide)
  have ho1 := hS.1 1 (by decide)
  have ho2 := hS.1 2 (by decide)
  have ho3 := hS.1 3 (by decide)
  refine r_lload_n hX dX2_withMoments_0 rfl rfl (r_lstore_n hX dX2_withMoments_1 rfl (by decide) rfl (r_iconstZ hX dX2_withMoments_2 (r_istore hX dX2_withMoments_3 (by decide) rfl (r_iload hX dX2_withMoments_5 rfl (r_aload_n hX dX2_withMoments_7 rfl rfl (r_get hX kf_X2_13 0 rfl rfl dX2_withMoments_8 (r_alen (v := iZ 4) hX 2 1 rfl rfl rfl dX2_withMoments_11 ?_)))))))
  refine r_icmp_geZ (tgt := 47) hX dX2_withMoments_12 (by decide) (by decide) (by decide) (fun q => absurd q (by decide)) (fun _ => ?_)
  refine r_lload_n hX dX2_withMoments_15 rfl rfl (r_aload_n hX dX2_withMoments_16 rfl rfl (r_iload hX dX2_withMoments_17 rfl (r_iconstZ hX dX2_withMoments_19 (r_callV hX (z_X2_ofMoment_s ad cs S T rest hS _ 0 (by decide) (by decide)) kv_X2_376 0 rfl rfl rfl rfl (Nat.le_of_ble_eq_true rfl) ⟨(Nat.le_of_ble_eq_true rfl), (Nat.le_of_ble_eq_true rfl)⟩ ⟨(Nat.le_of_ble_eq_true rfl), (Nat.le_of_ble_eq_true rfl)⟩ dX2_withMoments_20 (fun _ _ z => False.elim z) (fun v9 ws9 h1 => ?_)))))
  obtain ⟨rfl, hw9⟩ := h1
  subst ws9
  dsimp only [mPush]
  refine r_i2lZ hX dX2_withMoments_23 (by first | with_reducible assumption | decide | omega) (r_callS hX (z_X2_addedG _ _ _ _) ks_X2_247 rfl rfl (Nat.le_of_ble_eq_true rfl) ⟨(Nat.le_of_ble_eq_true rfl), (Nat.le_of_ble_eq_true rfl)⟩ ⟨(Nat.le_of_ble_eq_true rfl), (Nat.le_of_ble_eq_true rfl)⟩ dX2_withMoments_24 (fun _ _ z => False.elim z) (fun v9 ws9 h2 => ?_))
  obtain ⟨g1, hg1, rfl, hw9⟩ := h2
  subst ws9
  dsimp only [mPush]
  refine r_lstore_n hX dX2_withMoments_27 rfl (by decide) rfl (r_lload_n hX dX2_withMoments_28 rfl rfl (r_aload_n hX dX2_withMoments_29 rfl rfl (r_iload hX dX2_withMoments_30 rfl (r_iconstZ hX dX2_withMoments_32 (r_callV hX (z_X2_ofMoment_n ad cs S T rest hS _ 0 (by decide) (by decide)) kv_X2_376 0 rfl rfl rfl rfl (Nat.le_of_ble_eq_true rfl) ⟨(Nat.le_of_ble_eq_true rfl), (Nat.le_of_ble_eq_true rfl)⟩ ⟨(Nat.le_of_ble_eq_true rfl), (Nat.le_of_ble_eq_true rfl)⟩ dX2_withMoments_33 (fun _ _ z => False.elim z) (fun v9 ws9 h3 => ?_))))))
  obtain ⟨rfl, hw9⟩ := h3
  subst ws9
  dsimp only [mPush]
  refine r_i2lZ hX dX2_withMoments_36 (by first | with_reducible assumption | decide | omega) (r_callS hX (z_X2_addedG _ _ _ _) ks_X2_247 rfl rfl (Nat.le_of_ble_eq_true rfl) ⟨(Nat.le_of_ble_eq_true rfl), (Nat.le_of_ble_eq_true rfl)⟩ ⟨(Nat.le_of_ble_eq_true rfl), (Nat.le_of_ble_eq_true rfl)⟩ dX2_withMoments_37 (fun _ _ z => False.elim z) (fun v9 ws9 h4 => ?_))
  obtain ⟨g2, hg2, rfl, hw9⟩ := h4
  subst ws9
  dsimp only [mPush]
  refine r_lstore_n hX dX2_withMoments_40 rfl (by decide) rfl (r_iincZ (z := 1) (y := 1) hX dX2_withMoments_41 rfl (by decide) rfl rfl (r_goto (tgt := 5) hX dX2_withMoments_44 (by decide) (r_iload hX dX2_withMoments_5 rfl (r_aload_n hX dX2_withMoments_7 rfl rfl (r_get hX kf_X2_13 0 rfl rfl dX2_withMoments_8 (r_alen (v := iZ 4) hX 2 1 rfl rfl rfl dX2_withMoments_11 (r_icmp_geZ (tgt := 47) hX dX2_withMoments_12 (by decide) (by decide) (by decide) (fun q => absurd q (by decide)) (fun _ => ?_))))))))
  refine r_lload_n hX dX2_withMoments_15 rfl rfl (r_aload_n hX dX2_withMoments_16 rfl rfl (r_iload hX dX2_withMoments_17 rfl (r_iconstZ hX dX2_withMoments_19 (r_callV hX (z_X2_ofMoment_s ad cs S T rest hS _ 1 (by decide) (by decide)) kv_X2_376 0 rfl rfl rfl rfl (Nat.le_of_ble_eq_true rfl) ⟨(Nat.le_of_ble_eq_true rfl), (Nat.le_of_ble_eq_true rfl)⟩ ⟨(Nat.le_of_ble_eq_true rfl), (Nat.le_of_ble_eq_true rfl)⟩ dX2_withMoments_20 (fun _ _ z => False.elim z) (fun v9 ws9 h5 => ?_)))))
  obtain ⟨rfl, hw9⟩ := h5
  subst ws9
  dsimp only [mPush]
  refine r_i2lZ hX dX2_withMoments_23 (by first | with_reducible assumption | decide | omega) (r_callS hX (z_X2_addedG _ _ _ _) ks_X2_247 rfl rfl (Nat.le_of_ble_eq_true rfl) ⟨(Nat.le_of_ble_eq_true rfl), (Nat.le_of_ble_eq_true rfl)⟩ ⟨(Nat.le_of_ble_eq_true rfl), (Nat.le_of_ble_eq_true rfl)⟩ dX2_withMoments_24 (fun _ _ z => False.elim z) (fun v9 ws9 h6 => ?_))
  obtain ⟨g3, hg3, rfl, hw9⟩ := h6
  subst ws9
  dsimp only [mPush]
  refine r_lstore_n hX dX2_withMoments_27 rfl (by decide) rfl (r_lload_n hX dX2_withMoments_28 rfl rfl (r_aload_n hX dX2_withMoments_29 rfl rfl (r_iload hX dX2_withMoments_30 rfl (r_iconstZ hX dX2_withMoments_32 (r_callV hX (z_X2_ofMoment_n ad cs S T rest hS _ 1 (by decide) (by decide)) kv_X2_376 0 rfl rfl rfl rfl (Nat.le_of_ble_eq_true rfl) ⟨(Nat.le_of_ble_eq_true rfl), (Nat.le_of_ble_eq_true rfl)⟩ ⟨(Nat.le_of_ble_eq_true rfl), (Nat.le_of_ble_eq_true rfl)⟩ dX2_withMoments_33 (fun _ _ z => False.elim z) (fun v9 ws9 h7 => ?_))))))
  obtain ⟨rfl, hw9⟩ := h7
  subst ws9
  dsimp only [mPush]
  refine r_i2lZ hX dX2_withMoments_36 (by first | with_reducible assumption | decide | omega) (r_callS hX (z_X2_addedG _ _ _ _) ks_X2_247 rfl rfl (Nat.le_of_ble_eq_true rfl) ⟨(Nat.le_of_ble_eq_true rfl), (Nat.le_of_ble_eq_true rfl)⟩ ⟨(Nat.le_of_ble_eq_true rfl), (Nat.le_of_ble_eq_true rfl)⟩ dX2_withMoments_37 (fun _ _ z => False.elim z) (fun v9 ws9 h8 => ?_))
  obtain ⟨g4, hg4, rfl, hw9⟩ := h8
  subst ws9
  dsimp only [mPush]
  refine r_lstore_n hX dX2_withMoments_40 rfl (by decide) rfl (r_lc4 (i0 := 0) (i1 := 1) (i2 := 3) (i3 := 5) rfl rfl rfl rfl (r_iincZ (z := 1) (y := 2) hX dX2_withMoments_41 rfl (by decide) rfl rfl (r_goto (tgt := 5) hX dX2_withMoments_44 (by decide) (r_iload hX dX2_withMoments_5 rfl (r_aload_n hX dX2_withMoments_7 rfl rfl (r_get hX kf_X2_13 0 rfl rfl dX2_withMoments_8 (r_alen (v := iZ 4) hX 2 1 rfl rfl rfl dX2_withMoments_11 ?_)))))))
  refine r_icmp_geZ (tgt := 47) hX dX2_withMoments_12 (by decide) (by decide) (by decide) (fun q => absurd q (by decide)) (fun _ => ?_)
  refine r_lload_n hX dX2_withMoments_15 rfl rfl (r_aload_n hX dX2_withMoments_16 rfl rfl (r_iload hX dX2_withMoments_17 rfl (r_iconstZ hX dX2_withMoments_19 (r_callV hX (z_X2_ofMoment_s ad cs S T rest hS _ 2 (by decide) (by decide)) kv_X2_376 0 rfl rfl rfl rfl (Nat.le_of_ble_eq_true rfl) ⟨(Nat.le_of_ble_eq_true rfl), (Nat.le_of_ble_eq_true rfl)⟩ ⟨(Nat.le_of_ble_eq_true rfl), (Nat.le_of_ble_eq_true rfl)⟩ dX2_withMoments_20 (fun _ _ z => False.elim z) (fun v9 ws9 h9 => ?_)))))
  obtain ⟨rfl, hw9⟩ := h9
  subst ws9
  dsimp only [mPush]
  refine r_i2lZ hX dX2_withMoments_23 (by first | with_reducible assumption | decide | omega) (r_callS hX (z_X2_addedG _ _ _ _) ks_X2_247 rfl rfl (Nat.le_of_ble_eq_true rfl) ⟨(Nat.le_of_ble_eq_true rfl), (Nat.le_of_ble_eq_true rfl)⟩ ⟨(Nat.le_of_ble_eq_true rfl), (Nat.le_of_ble_eq_true rfl)⟩ dX2_withMoments_24 (fun _ _ z => False.elim z) (fun v9 ws9 h10 => ?_))
  obtain ⟨g5, hg5, rfl, hw9⟩ := h10
  subst ws9
  dsimp only [mPush]
  refine r_lstore_n hX dX2_withMoments_27 rfl (by decide) rfl (r_lload_n hX dX2_withMoments_28 rfl rfl (r_aload_n hX dX2_withMoments_29 rfl rfl (r_iload hX dX2_withMoments_30 rfl (r_iconstZ hX dX2_withMoments_32 (r_callV hX (z_X2_ofMoment_n ad cs S T rest hS _ 2 (by decide) (by decide)) kv_X2_376 0 rfl rfl rfl rfl (Nat.le_of_ble_eq_true rfl) ⟨(Nat.le_of_ble_eq_true rfl), (Nat.le_of_ble_eq_true rfl)⟩ ⟨(Nat.le_of_ble_eq_true rfl), (Nat.le_of_ble_eq_true rfl)⟩ dX2_withMoments_33 (fun _ _ z => False.elim z) (fun v9 ws9 h11 => ?_))))))
  obtain ⟨rfl, hw9⟩ := h11
  subst ws9
  dsimp only [mPush]
  refine r_i2lZ hX dX2_withMoments_36 (by first | with_reducible assumption | decide | omega) (r_callS hX (z_X2_addedG _ _ _ _) ks_X2_247 rfl rfl (Nat.le_of_ble_eq_true rfl) ⟨(Nat.le_of_ble_eq_true rfl), (Nat.le_of_ble_eq_true rfl)⟩ ⟨(Nat.le_of_ble_eq_true rfl), (Nat.le_of_ble_eq_true rfl)⟩ dX2_withMoments_37 (fun _ _ z => False.elim z) (fun v9 ws9 h12 => ?_))
  obtain ⟨g6, hg6, rfl, hw9⟩ := h12
  subst ws9
  dsimp only [mPush]
  refine r_lstore_n hX dX2_withMoments_40 rfl (by decide) rfl (r_iincZ (z := 1) (y := 3) hX dX2_withMoments_41 rfl (by decide) rfl rfl (r_goto (tgt := 5) hX dX2_withMoments_44 (by decide) (r_iload hX dX2_withMoments_5 rfl (r_aload_n hX dX2_withMoments_7 rfl rfl (r_get hX kf_X2_13 0 rfl rfl dX2_withMoments_8 (r_alen (v := iZ 4) hX 2 1 rfl rfl rfl dX2_withMoments_11 (r_icmp_geZ (tgt := 47) hX dX2_withMoments_12 (by decide) (by decide) (by decide) (fun q => absurd q (by decide)) (fun _ => ?_))))))))
  refine r_lload_n hX dX2_withMoments_15 rfl rfl (r_aload_n hX dX2_withMoments_16 rfl rfl (r_iload hX dX2_withMoments_17 rfl (r_iconstZ hX dX2_withMoments_19 (r_callV hX (z_X2_ofMoment_s ad cs S T rest hS _ 3 (by decide) (by decide)) kv_X2_376 0 rfl rfl rfl rfl (Nat.le_of_ble_eq_true rfl) ⟨(Nat.le_of_ble_eq_true rfl), (Nat.le_of_ble_eq_true rfl)⟩ ⟨(Nat.le_of_ble_eq_true rfl), (Nat.le_of_ble_eq_true rfl)⟩ dX2_withMoments_20 (fun _ _ z => False.elim z) (fun v9 ws9 h13 => ?_)))))
  obtain ⟨rfl, hw9⟩ := h13
  subst ws9
  dsimp only [mPush]
  refine r_i2lZ hX dX2_withMoments_23 (by first | with_reducible assumption | decide | omega) (r_callS hX (z_X2_addedG _ _ _ _) ks_X2_247 rfl rfl (Nat.le_of_ble_eq_true rfl) ⟨(Nat.le_of_ble_eq_true rfl), (Nat.le_of_ble_eq_true rfl)⟩ ⟨(Nat.le_of_ble_eq_true rfl), (Nat.le_of_ble_eq_true rfl)⟩ dX2_withMoments_24 (fun _ _ z => False.elim z) (fun v9 ws9 h14 => ?_))
  obtain ⟨g7, hg7, rfl, hw9⟩ := h14
  subst ws9
  dsimp only [mPush]
  refine r_lstore_n hX dX2_withMoments_27 rfl (by decide) rfl (r_lload_n hX dX2_withMoments_28 rfl rfl (r_aload_n hX dX2_withMoments_29 rfl rfl (r_iload hX dX2_withMoments_30 rfl (r_iconstZ hX dX2_withMoments_32 (r_callV hX (z_X2_ofMoment_n ad cs S T rest hS _ 3 (by decide) (by decide)) kv_X2_376 0 rfl rfl rfl rfl (Nat.le_of_ble_eq_true rfl) ⟨(Nat.le_of_ble_eq_true rfl), (Nat.le_of_ble_eq_true rfl)⟩ ⟨(Nat.le_of_ble_eq_true rfl), (Nat.le_of_ble_eq_true rfl)⟩ dX2_withMoments_33 (fun _ _ z => False.elim z) (fun v9 ws9 h15 => ?_))))))
  obtain ⟨rfl, hw9⟩ := h15
  subst ws9
  dsimp only [mPush]
  refine r_i2lZ hX dX2_withMoments_36 (by first | with_reducible assumption | decide | omega) (r_callS hX (z_X2_addedG _ _ _ _) ks_X2_247 rfl rfl (Nat.le_of_ble_eq_true rfl) ⟨(Nat.le_of_ble_eq_true rfl), (Nat.le_of_ble_eq_true rfl)⟩ ⟨(Nat.le_of_ble_eq_true rfl), (Nat.le_of_ble_eq_true rfl)⟩ dX2_withMoments_37 (fun _ _ z => False.elim z) (fun v9 ws9 h16 => ?_))
  obtain ⟨g8, hg8, rfl, hw9⟩ := h16
  subst ws9
  dsimp only [mPush]
  refine r_lstore_n hX dX2_withMoments_40 rfl (by decide) rfl (r_iincZ (z := 1) (y := 4) hX dX2_withMoments_41 rfl (by decide) rfl rfl (r_goto (tgt := 5) hX dX2_withMoments_44 (by decide) (r_iload hX dX2_withMoments_5 rfl (r_aload_n hX dX2_withMoments_7 rfl rfl (r_get hX kf_X2_13 0 rfl rfl dX2_withMoments_8 (r_alen (v := iZ 4) hX 2 1 rfl rfl rfl dX2_withMoments_11 (r_icmp_geZ (tgt := 47) hX dX2_withMoments_12 (by decide) (by decide) (by decide) (fun _ => ?_) (fun q => absurd (by decide) q))))))))
  refine r_lload_n hX dX2_withMoments_47 rfl rfl ?_
  exact r_lret hX hE dX2_withMoments_48 (Nat.le_of_ble_eq_true rfl) (Nat.le_of_ble_eq_true rfl) ⟨zl (((dg_step hg1).trans ((dg_step hg2).trans ((dg_step hg3).trans ((dg_step hg4).trans ((dg_step hg5).trans ((dg_step hg6).trans ((dg_step hg7).trans (dg_step (l := []) hg8))))))))).symm, rfl⟩
theorem zDP_b {s n o w : Int} (hs : -21915 ≤ s / 86400 ∧ s / 86400 ≤ 22279) (hn : 0 ≤ n ∧ n ≤ 999999999) (ho : -64800 ≤ o ∧ o ≤ 64800) : -2147483648 ≤ zDP s n o w ∧ zDP s n o w ≤ 2147483647 := by
  have h1 := YR_spec hs.1 hs.2
  have h2 := MO_b (s / 86400)
  have h3 := DOM_b hs.1 hs.2
  have h4 := dm_b (YR (s / 86400)) (MO (s / 86400))
  have h5 := FO_b (y := YR (s / 86400)) (by omega)
  unfold zDP
  repeat' split
  all_goals omega
theorem zCP_b {s n o w : Int} (hs : -21915 ≤ s / 86400 ∧ s / 86400 ≤ 22279) (hn : 0 ≤ n ∧ n ≤ 999999999) (ho : -64800 ≤ o ∧ o ≤ 64800) : -2147483648 ≤ zCP s n o w ∧ zCP s n o w ≤ 2147483647 := by
  unfold zCP
  repeat' split
  all_goals omega
set_option maxHeartbeats 4000000 in
set_option maxRecDepth 20000 in
theorem z_X2_withDates (ad : Nat → Nat) (cs : ClassId × ClassId × ClassId) (S : mS) (T : mT2) (rest : va_W) (hS : sWF S) (s : Int)  : mCt (mTy cs) yX2_withDates cX2_withDates 7 (some .long) ⟨5, 0, 0, 107⟩ [.ref (ad 0), .long (lZ s)] (mWd ad cs (mKof S T) rest) (fun v ws' => v = some (.long (lZ (dDat S s))) ∧ ws' = (mWd ad cs (mKof S T) rest)) mNo := by
  refine mCt.of (by decide +kernel) (Nat.le_of_ble_eq_true rfl) (fun X hX hE => ?_)
  replace hX : mOK X RX2 cX2_withDates 7 ⟨5, 0, 0, 107⟩ [] (mTy cs) := hX
  have hdh0 : -21915 ≤ sse S 0 / 86400 ∧ sse S 0 / 86400 ≤ 22279 := by
    have hs := hS.2.2.2.1 0 (by decide)
    omega
  have hbD0 : ∀ w : Int, -2147483648 ≤ zDP (sse S 0) (sna S 0) (sow S 0) w ∧ zDP (sse S 0) (sna S 0) (sow S 0) w ≤ 2147483647 := by
    have hr := zrg hS (d := 0) (by decide)
    exact fun w => zDP_b hdh0 (by omega) (by omega)
  have hdh1 : -21915 ≤ sse S 1 / 86400 ∧ sse S 1 / 86400 ≤ 22279 := by
    have hs := hS.2.2.2.1 1 (by decide)
    omega
  have hbD1 : ∀ w : Int, -2147483648 ≤ zDP (sse S 1) (sna S 1) (sow S 1) w ∧ zDP (sse S 1) (sna S 1) (sow S 1) w ≤ 2147483647 := by
    have hr := zrg hS (d := 1) (by decide)
    exact fun w => zDP_b hdh1 (by omega) (by omega)
  have hdh2 : -21915 ≤ sse S 2 / 86400 ∧ sse S 2 / 86400 ≤ 22279 := by
    have hs := hS.2.2.2.1 2 (by decide)
    omega
  have hbD2 : ∀ w : Int, -2147483648 ≤ zDP (sse S 2) (sna S 2) (sow S 2) w ∧ zDP (sse S 2) (sna S 2) (sow S 2) w ≤ 2147483647 := by
    have hr := zrg hS (d := 2) (by decide)
    exact fun w => zDP_b hdh2 (by omega) (by omega)
  have hdh3 : -21915 ≤ sse S 3 / 86400 ∧ sse S 3 / 86400 ≤ 22279 := by
    have hs := hS.2.2.2.1 3 (by decide)
    omega
  have hbD3 : ∀ w : Int, -2147483648 ≤ zDP (sse S 3) (sna S 3) (sow S 3) w ∧ zDP (sse S 3) (sna S 3) (sow S 3) w ≤ 2147483647 := by
    have hr := zrg hS (d := 3) (by decide)
    exact fun w => zDP_b hdh3 (by omega) (by omega)
  refine r_lload_n hX dX2_withDates_0 rfl rfl (r_lstore_n hX dX2_withDates_1 rfl (by decide) rfl (r_iconstZ hX dX2_withDates_2 (r_istore hX dX2_withDates_3 (by decide) rfl (r_iload hX dX2_withDates_5 rfl (r_aload_n hX dX2_withDates_7 rfl rfl (r_get hX kf_X2_20 0 rfl rfl dX2_withDates_8 (r_alen (v := iZ 4) hX 3 2 rfl rfl rfl dX2_withDates_11 ?_)))))))
  refine r_icmp_geZ (tgt := 57) hX dX2_withDates_12 (by decide) (by decide) (by decide) (fun q => absurd q (by decide)) (fun _ => ?_)
  refine r_iconstZ hX dX2_withDates_15 (r_istore hX dX2_withDates_16 (by decide) rfl (r_iload hX dX2_withDates_18 rfl (r_bipushZ hX dX2_withDates_20 (by decide +kernel) (r_icmp_geZ (tgt := 51) hX dX2_withDates_22 (by decide) (by decide) (by decide) (fun q => absurd q (by decide)) (fun _ => ?_)))))
  refine r_lload_n hX dX2_withDates_25 rfl rfl (r_aload_n hX dX2_withDates_26 rfl rfl (r_get hX kf_X2_20 0 rfl rfl dX2_withDates_27 (r_iload hX dX2_withDates_30 rfl (r_callS hX (z_X2_at_ok ad cs _ 3 _ 4 0 rfl (by decide) _ 0 (by first | with_reducible assumption | decide | omega) (by decide)) ks_X2_84 rfl rfl (Nat.le_of_ble_eq_true rfl) ⟨(Nat.le_of_ble_eq_true rfl), (Nat.le_of_ble_eq_true rfl)⟩ ⟨(Nat.le_of_ble_eq_true rfl), (Nat.le_of_ble_eq_true rfl)⟩ dX2_withDates_32 (fun _ _ z => False.elim z) (fun v9 ws9 h1 => ?_)))))
  obtain ⟨rfl, hw9⟩ := h1
  subst ws9
  dsimp only [mPush]
  refine r_iload hX dX2_withDates_35 rfl (r_callS hX (z_X2_datePart _ _ (0 + 5) _ _ _ _ (zWd_loc (d := 0) (by decide)) (zrg hS (by decide)) _ (by decide) hdh0) ks_X2_175 rfl rfl (Nat.le_of_ble_eq_true rfl) ⟨(Nat.le_of_ble_eq_true rfl), (Nat.le_of_ble_eq_true rfl)⟩ ⟨(Nat.le_of_ble_eq_true rfl), (Nat.le_of_ble_eq_true rfl)⟩ dX2_withDates_37 (fun _ _ z => False.elim z) (fun v9 ws9 h2 => ?_))
  obtain ⟨rfl, hw9⟩ := h2
  subst ws9
  dsimp only [mPush]
  refine r_i2lZ hX dX2_withDates_40 (hbD0 _) (r_callS hX (z_X2_addedG _ _ _ _) ks_X2_247 rfl rfl (Nat.le_of_ble_eq_true rfl) ⟨(Nat.le_of_ble_eq_true rfl), (Nat.le_of_ble_eq_true rfl)⟩ ⟨(Nat.le_of_ble_eq_true rfl), (Nat.le_of_ble_eq_true rfl)⟩ dX2_withDates_41 (fun _ _ z => False.elim z) (fun v9 ws9 h3 => ?_))
  obtain ⟨g1, hg1, rfl, hw9⟩ := h3
  subst ws9
  dsimp only [mPush]
  refine r_lstore_n hX dX2_withDates_44 rfl (by decide) rfl (r_iincZ (z := 1) (y := 1) hX dX2_withDates_45 rfl (by decide) rfl rfl (r_goto (tgt := 18) hX dX2_withDates_48 (by decide) (r_iload hX dX2_withDates_18 rfl (r_bipushZ hX dX2_withDates_20 (by decide +kernel) (r_icmp_geZ (tgt := 51) hX dX2_withDates_22 (by decide) (by decide) (by decide) (fun q => absurd q (by decide)) (fun _ => ?_))))))
  refine r_lload_n hX dX2_withDates_25 rfl rfl (r_aload_n hX dX2_withDates_26 rfl rfl (r_get hX kf_X2_20 0 rfl rfl dX2_withDates_27 (r_iload hX dX2_withDates_30 rfl (r_callS hX (z_X2_at_ok ad cs _ 3 _ 4 0 rfl (by decide) _ 0 (by first | with_reducible assumption | decide | omega) (by decide)) ks_X2_84 rfl rfl (Nat.le_of_ble_eq_true rfl) ⟨(Nat.le_of_ble_eq_true rfl), (Nat.le_of_ble_eq_true rfl)⟩ ⟨(Nat.le_of_ble_eq_true rfl), (Nat.le_of_ble_eq_true rfl)⟩ dX2_withDates_32 (fun _ _ z => False.elim z) (fun v9 ws9 h4 => ?_)))))
  obtain ⟨rfl, hw9⟩ := h4
  subst ws9
  dsimp only [mPush]
  refine r_iload hX dX2_withDates_35 rfl (r_callS hX (z_X2_datePart _ _ (0 + 5) _ _ _ _ (zWd_loc (d := 0) (by decide)) (zrg hS (by decide)) _ (by decide) hdh0) ks_X2_175 rfl rfl (Nat.le_of_ble_eq_true rfl) ⟨(Nat.le_of_ble_eq_true rfl), (Nat.le_of_ble_eq_true rfl)⟩ ⟨(Nat.le_of_ble_eq_true rfl), (Nat.le_of_ble_eq_true rfl)⟩ dX2_withDates_37 (fun _ _ z => False.elim z) (fun v9 ws9 h5 => ?_))
  obtain ⟨rfl, hw9⟩ := h5
  subst ws9
  dsimp only [mPush]
  refine r_i2lZ hX dX2_withDates_40 (hbD0 _) (r_callS hX (z_X2_addedG _ _ _ _) ks_X2_247 rfl rfl (Nat.le_of_ble_eq_true rfl) ⟨(Nat.le_of_ble_eq_true rfl), (Nat.le_of_ble_eq_true rfl)⟩ ⟨(Nat.le_of_ble_eq_true rfl), (Nat.le_of_ble_eq_true rfl)⟩ dX2_withDates_41 (fun _ _ z => False.elim z) (fun v9 ws9 h6 => ?_))
  obtain ⟨g2, hg2, rfl, hw9⟩ := h6
  subst ws9
  dsimp only [mPush]
  refine r_lstore_n hX dX2_withDates_44 rfl (by decide) rfl (r_iincZ (z := 1) (y := 2) hX dX2_withDates_45 rfl (by decide) rfl rfl (r_goto (tgt := 18) hX dX2_withDates_48 (by decide) (r_iload hX dX2_withDates_18 rfl (r_bipushZ hX dX2_withDates_20 (by decide +kernel) (r_icmp_geZ (tgt := 51) hX dX2_withDates_22 (by decide) (by decide) (by decide) (fun q => absurd q (by decide)) (fun _ => ?_))))))
  refine r_lload_n hX dX2_withDates_25 rfl rfl (r_aload_n hX dX2_withDates_26 rfl rfl (r_get hX kf_X2_20 0 rfl rfl dX2_withDates_27 (r_iload hX dX2_withDates_30 rfl (r_callS hX (z_X2_at_ok ad cs _ 3 _ 4 0 rfl (by decide) _ 0 (by first | with_reducible assumption | decide | omega) (by decide)) ks_X2_84 rfl rfl (Nat.le_of_ble_eq_true rfl) ⟨(Nat.le_of_ble_eq_true rfl), (Nat.le_of_ble_eq_true rfl)⟩ ⟨(Nat.le_of_ble_eq_true rfl), (Nat.le_of_ble_eq_true rfl)⟩ dX2_withDates_32 (fun _ _ z => False.elim z) (fun v9 ws9 h7 => ?_)))))
  obtain ⟨rfl, hw9⟩ := h7
  subst ws9
  dsimp only [mPush]
  refine r_iload hX dX2_withDates_35 rfl (r_callS hX (z_X2_datePart _ _ (0 + 5) _ _ _ _ (zWd_loc (d := 0) (by decide)) (zrg hS (by decide)) _ (by decide) hdh0) ks_X2_175 rfl rfl (Nat.le_of_ble_eq_true rfl) ⟨(Nat.le_of_ble_eq_true rfl), (Nat.le_of_ble_eq_true rfl)⟩ ⟨(Nat.le_of_ble_eq_true rfl), (Nat.le_of_ble_eq_true rfl)⟩ dX2_withDates_37 (fun _ _ z => False.elim z) (fun v9 ws9 h8 => ?_))
  obtain ⟨rfl, hw9⟩ := h8
  subst ws9
  dsimp only [mPush]
  refine r_i2lZ hX dX2_withDates_40 (hbD0 _) (r_callS hX (z_X2_addedG _ _ _ _) ks_X2_247 rfl rfl (Nat.le_of_ble_eq_true rfl) ⟨(Nat.le_of_ble_eq_true rfl), (Nat.le_of_ble_eq_true rfl)⟩ ⟨(Nat.le_of_ble_eq_true rfl), (Nat.le_of_ble_eq_true rfl)⟩ dX2_withDates_41 (fun _ _ z => False.elim z) (fun v9 ws9 h9 => ?_))
  obtain ⟨g3, hg3, rfl, hw9⟩ := h9
  subst ws9
  dsimp only [mPush]
  refine r_lstore_n hX dX2_withDates_44 rfl (by decide) rfl (r_lc5 (i0 := 0) (i1 := 1) (i2 := 3) (i3 := 5) (i4 := 6) rfl rfl rfl rfl rfl (r_iincZ (z := 1) (y := 3) hX dX2_withDates_45 rfl (by decide) rfl rfl (r_goto (tgt := 18) hX dX2_withDates_48 (by decide) (r_iload hX dX2_withDates_18 rfl (r_bipushZ hX dX2_withDates_20 (by decide +kernel) (r_icmp_geZ (tgt := 51) hX dX2_withDates_22 (by decide) (by decide) (by decide) (fun q => absurd q (by decide)) (fun _ => ?_)))))))
  refine r_lload_n hX dX2_withDates_25 rfl rfl (r_aload_n hX dX2_withDates_26 rfl rfl (r_get hX kf_X2_20 0 rfl rfl dX2_withDates_27 (r_iload hX dX2_withDates_30 rfl (r_callS hX (z_X2_at_ok ad cs _ 3 _ 4 0 rfl (by decide) _ 0 (by first | with_reducible assumption | decide | omega) (by decide)) ks_X2_84 rfl rfl (Nat.le_of_ble_eq_true rfl) ⟨(Nat.le_of_ble_eq_true rfl), (Nat.le_of_ble_eq_true rfl)⟩ ⟨(Nat.le_of_ble_eq_true rfl), (Nat.le_of_ble_eq_true rfl)⟩ dX2_withDates_32 (fun _ _ z => False.elim z) (fun v9 ws9 h10 => ?_)))))
  obtain ⟨rfl, hw9⟩ := h10
  subst ws9
  dsimp only [mPush]
  refine r_iload hX dX2_withDates_35 rfl (r_callS hX (z_X2_datePart _ _ (0 + 5) _ _ _ _ (zWd_loc (d := 0) (by decide)) (zrg hS (by decide)) _ (by decide) hdh0) ks_X2_175 rfl rfl (Nat.le_of_ble_eq_true rfl) ⟨(Nat.le_of_ble_eq_true rfl), (Nat.le_of_ble_eq_true rfl)⟩ ⟨(Nat.le_of_ble_eq_true rfl), (Nat.le_of_ble_eq_true rfl)⟩ dX2_withDates_37 (fun _ _ z => False.elim z) (fun v9 ws9 h11 => ?_))
  obtain ⟨rfl, hw9⟩ := h11
  subst ws9
  dsimp only [mPush]
  refine r_i2lZ hX dX2_withDates_40 (hbD0 _) (r_callS hX (z_X2_addedG _ _ _ _) ks_X2_247 rfl rfl (Nat.le_of_ble_eq_true rfl) ⟨(Nat.le_of_ble_eq_true rfl), (Nat.le_of_ble_eq_true rfl)⟩ ⟨(Nat.le_of_ble_eq_true rfl), (Nat.le_of_ble_eq_true rfl)⟩ dX2_withDates_41 (fun _ _ z => False.elim z) (fun v9 ws9 h12 => ?_))
  obtain ⟨g4, hg4, rfl, hw9⟩ := h12
  subst ws9
  dsimp only [mPush]
  refine r_lstore_n hX dX2_withDates_44 rfl (by decide) rfl (r_iincZ (z := 1) (y := 4) hX dX2_withDates_45 rfl (by decide) rfl rfl (r_goto (tgt := 18) hX dX2_withDates_48 (by decide) (r_iload hX dX2_withDates_18 rfl (r_bipushZ hX dX2_withDates_20 (by decide +kernel) (r_icmp_geZ (tgt := 51) hX dX2_withDates_22 (by decide) (by decide) (by decide) (fun q => absurd q (by decide)) (fun _ => ?_))))))
  refine r_lload_n hX dX2_withDates_25 rfl rfl (r_aload_n hX dX2_withDates_26 rfl rfl (r_get hX kf_X2_20 0 rfl rfl dX2_withDates_27 (r_iload hX dX2_withDates_30 rfl (r_callS hX (z_X2_at_ok ad cs _ 3 _ 4 0 rfl (by decide) _ 0 (by first | with_reducible assumption | decide | omega) (by decide)) ks_X2_84 rfl rfl (Nat.le_of_ble_eq_true rfl) ⟨(Nat.le_of_ble_eq_true rfl), (Nat.le_of_ble_eq_true rfl)⟩ ⟨(Nat.le_of_ble_eq_true rfl), (Nat.le_of_ble_eq_true rfl)⟩ dX2_withDates_32 (fun _ _ z => False.elim z) (fun v9 ws9 h13 => ?_)))))
  obtain ⟨rfl, hw9⟩ := h13
  subst ws9
  dsimp only [mPush]
  refine r_iload hX dX2_withDates_35 rfl (r_callS hX (z_X2_datePart _ _ (0 + 5) _ _ _ _ (zWd_loc (d := 0) (by decide)) (zrg hS (by decide)) _ (by decide) hdh0) ks_X2_175 rfl rfl (Nat.le_of_ble_eq_true rfl) ⟨(Nat.le_of_ble_eq_true rfl), (Nat.le_of_ble_eq_true rfl)⟩ ⟨(Nat.le_of_ble_eq_true rfl), (Nat.le_of_ble_eq_true rfl)⟩ dX2_withDates_37 (fun _ _ z => False.elim z) (fun v9 ws9 h14 => ?_))
  obtain ⟨rfl, hw9⟩ := h14
  subst ws9
  dsimp only [mPush]
  refine r_i2lZ hX dX2_withDates_40 (hbD0 _) (r_callS hX (z_X2_addedG _ _ _ _) ks_X2_247 rfl rfl (Nat.le_of_ble_eq_true rfl) ⟨(Nat.le_of_ble_eq_true rfl), (Nat.le_of_ble_eq_true rfl)⟩ ⟨(Nat.le_of_ble_eq_true rfl), (Nat.le_of_ble_eq_true rfl)⟩ dX2_withDates_41 (fun _ _ z => False.elim z) (fun v9 ws9 h15 => ?_))
  obtain ⟨g5, hg5, rfl, hw9⟩ := h15
  subst ws9
  dsimp only [mPush]
  refine r_lstore_n hX dX2_withDates_44 rfl (by decide) rfl (r_iincZ (z := 1) (y := 5) hX dX2_withDates_45 rfl (by decide) rfl rfl (r_goto (tgt := 18) hX dX2_withDates_48 (by decide) (r_iload hX dX2_withDates_18 rfl (r_bipushZ hX dX2_withDates_20 (by decide +kernel) (r_icmp_geZ (tgt := 51) hX dX2_withDates_22 (by decide) (by decide) (by decide) (fun q => absurd q (by decide)) (fun _ => ?_))))))
  refine r_lload_n hX dX2_withDates_25 rfl rfl (r_aload_n hX dX2_withDates_26 rfl rfl (r_get hX kf_X2_20 0 rfl rfl dX2_withDates_27 (r_iload hX dX2_withDates_30 rfl (r_callS hX (z_X2_at_ok ad cs _ 3 _ 4 0 rfl (by decide) _ 0 (by first | with_reducible assumption | decide | omega) (by decide)) ks_X2_84 rfl rfl (Nat.le_of_ble_eq_true rfl) ⟨(Nat.le_of_ble_eq_true rfl), (Nat.le_of_ble_eq_true rfl)⟩ ⟨(Nat.le_of_ble_eq_true rfl), (Nat.le_of_ble_eq_true rfl)⟩ dX2_withDates_32 (fun _ _ z => False.elim z) (fun v9 ws9 h16 => ?_)))))
  obtain ⟨rfl, hw9⟩ := h16
  subst ws9
  dsimp only [mPush]
  refine r_iload hX dX2_withDates_35 rfl (r_callS hX (z_X2_datePart _ _ (0 + 5) _ _ _ _ (zWd_loc (d := 0) (by decide)) (zrg hS (by decide)) _ (by decide) hdh0) ks_X2_175 rfl rfl (Nat.le_of_ble_eq_true rfl) ⟨(Nat.le_of_ble_eq_true rfl), (Nat.le_of_ble_eq_true rfl)⟩ ⟨(Nat.le_of_ble_eq_true rfl), (Nat.le_of_ble_eq_true rfl)⟩ dX2_withDates_37 (fun _ _ z => False.elim z) (fun v9 ws9 h17 => ?_))
  obtain ⟨rfl, hw9⟩ := h17
  subst ws9
  dsimp only [mPush]
  refine r_i2lZ hX dX2_withDates_40 (hbD0 _) (r_callS hX (z_X2_addedG _ _ _ _) ks_X2_247 rfl rfl (Nat.le_of_ble_eq_true rfl) ⟨(Nat.le_of_ble_eq_true rfl), (Nat.le_of_ble_eq_true rfl)⟩ ⟨(Nat.le_of_ble_eq_true rfl), (Nat.le_of_ble_eq_true rfl)⟩ dX2_withDates_41 (fun _ _ z => False.elim z) (fun v9 ws9 h18 => ?_))
  obtain ⟨g6, hg6, rfl, hw9⟩ := h18
  subst ws9
  dsimp only [mPush]
  refine r_lstore_n hX dX2_withDates_44 rfl (by decide) rfl (r_iincZ (z := 1) (y := 6) hX dX2_withDates_45 rfl (by decide) rfl rfl (r_goto (tgt := 18) hX dX2_withDates_48 (by decide) (r_iload hX dX2_withDates_18 rfl (r_bipushZ hX dX2_withDates_20 (by decide +kernel) (r_icmp_geZ (tgt := 51) hX dX2_withDates_22 (by decide) (by decide) (by decide) (fun q => absurd q (by decide)) (fun _ => ?_))))))
  refine r_lload_n hX dX2_withDates_25 rfl rfl (r_aload_n hX dX2_withDates_26 rfl rfl (r_get hX kf_X2_20 0 rfl rfl dX2_withDates_27 (r_iload hX dX2_withDates_30 rfl (r_callS hX (z_X2_at_ok ad cs _ 3 _ 4 0 rfl (by decide) _ 0 (by first | with_reducible assumption | decide | omega) (by decide)) ks_X2_84 rfl rfl (Nat.le_of_ble_eq_true rfl) ⟨(Nat.le_of_ble_eq_true rfl), (Nat.le_of_ble_eq_true rfl)⟩ ⟨(Nat.le_of_ble_eq_true rfl), (Nat.le_of_ble_eq_true rfl)⟩ dX2_withDates_32 (fun _ _ z => False.elim z) (fun v9 ws9 h19 => ?_)))))
  obtain ⟨rfl, hw9⟩ := h19
  subst ws9
  dsimp only [mPush]
  refine r_iload hX dX2_withDates_35 rfl (r_callS hX (z_X2_datePart _ _ (0 + 5) _ _ _ _ (zWd_loc (d := 0) (by decide)) (zrg hS (by decide)) _ (by decide) hdh0) ks_X2_175 rfl rfl (Nat.le_of_ble_eq_true rfl) ⟨(Nat.le_of_ble_eq_true rfl), (Nat.le_of_ble_eq_true rfl)⟩ ⟨(Nat.le_of_ble_eq_true rfl), (Nat.le_of_ble_eq_true rfl)⟩ dX2_withDates_37 (fun _ _ z => False.elim z) (fun v9 ws9 h20 => ?_))
  obtain ⟨rfl, hw9⟩ := h20
  subst ws9
  dsimp only [mPush]
  refine r_i2lZ hX dX2_withDates_40 (hbD0 _) (r_callS hX (z_X2_addedG _ _ _ _) ks_X2_247 rfl rfl (Nat.le_of_ble_eq_true rfl) ⟨(Nat.le_of_ble_eq_true rfl), (Nat.le_of_ble_eq_true rfl)⟩ ⟨(Nat.le_of_ble_eq_true rfl), (Nat.le_of_ble_eq_true rfl)⟩ dX2_withDates_41 (fun _ _ z => False.elim z) (fun v9 ws9 h21 => ?_))
  obtain ⟨g7, hg7, rfl, hw9⟩ := h21
  subst ws9
  dsimp only [mPush]
  refine r_lstore_n hX dX2_withDates_44 rfl (by decide) rfl (r_lc5 (i0 := 0) (i1 := 1) (i2 := 3) (i3 := 5) (i4 := 6) rfl rfl rfl rfl rfl (r_iincZ (z := 1) (y := 7) hX dX2_withDates_45 rfl (by decide) rfl rfl (r_goto (tgt := 18) hX dX2_withDates_48 (by decide) (r_iload hX dX2_withDates_18 rfl (r_bipushZ hX dX2_withDates_20 (by decide +kernel) (r_icmp_geZ (tgt := 51) hX dX2_withDates_22 (by decide) (by decide) (by decide) (fun q => absurd q (by decide)) (fun _ => ?_)))))))
  refine r_lload_n hX dX2_withDates_25 rfl rfl (r_aload_n hX dX2_withDates_26 rfl rfl (r_get hX kf_X2_20 0 rfl rfl dX2_withDates_27 (r_iload hX dX2_withDates_30 rfl (r_callS hX (z_X2_at_ok ad cs _ 3 _ 4 0 rfl (by decide) _ 0 (by first | with_reducible assumption | decide | omega) (by decide)) ks_X2_84 rfl rfl (Nat.le_of_ble_eq_true rfl) ⟨(Nat.le_of_ble_eq_true rfl), (Nat.le_of_ble_eq_true rfl)⟩ ⟨(Nat.le_of_ble_eq_true rfl), (Nat.le_of_ble_eq_true rfl)⟩ dX2_withDates_32 (fun _ _ z => False.elim z) (fun v9 ws9 h22 => ?_)))))
  obtain ⟨rfl, hw9⟩ := h22
  subst ws9
  dsimp only [mPush]
  refine r_iload hX dX2_withDates_35 rfl (r_callS hX (z_X2_datePart _ _ (0 + 5) _ _ _ _ (zWd_loc (d := 0) (by decide)) (zrg hS (by decide)) _ (by decide) hdh0) ks_X2_175 rfl rfl (Nat.le_of_ble_eq_true rfl) ⟨(Nat.le_of_ble_eq_true rfl), (Nat.le_of_ble_eq_true rfl)⟩ ⟨(Nat.le_of_ble_eq_true rfl), (Nat.le_of_ble_eq_true rfl)⟩ dX2_withDates_37 (fun _ _ z => False.elim z) (fun v9 ws9 h23 => ?_))
  obtain ⟨rfl, hw9⟩ := h23
  subst ws9
  dsimp only [mPush]
  refine r_i2lZ hX dX2_withDates_40 (hbD0 _) (r_callS hX (z_X2_addedG _ _ _ _) ks_X2_247 rfl rfl (Nat.le_of_ble_eq_true rfl) ⟨(Nat.le_of_ble_eq_true rfl), (Nat.le_of_ble_eq_true rfl)⟩ ⟨(Nat.le_of_ble_eq_true rfl), (Nat.le_of_ble_eq_true rfl)⟩ dX2_withDates_41 (fun _ _ z => False.elim z) (fun v9 ws9 h24 => ?_))
  obtain ⟨g8, hg8, rfl, hw9⟩ := h24
  subst ws9
  dsimp only [mPush]
  refine r_lstore_n hX dX2_withDates_44 rfl (by decide) rfl (r_iincZ (z := 1) (y := 8) hX dX2_withDates_45 rfl (by decide) rfl rfl (r_goto (tgt := 18) hX dX2_withDates_48 (by decide) (r_iload hX dX2_withDates_18 rfl (r_bipushZ hX dX2_withDates_20 (by decide +kernel) (r_icmp_geZ (tgt := 51) hX dX2_withDates_22 (by decide) (by decide) (by decide) (fun q => absurd q (by decide)) (fun _ => ?_))))))
  refine r_lload_n hX dX2_withDates_25 rfl rfl (r_aload_n hX dX2_withDates_26 rfl rfl (r_get hX kf_X2_20 0 rfl rfl dX2_withDates_27 (r_iload hX dX2_withDates_30 rfl (r_callS hX (z_X2_at_ok ad cs _ 3 _ 4 0 rfl (by decide) _ 0 (by first | with_reducible assumption | decide | omega) (by decide)) ks_X2_84 rfl rfl (Nat.le_of_ble_eq_true rfl) ⟨(Nat.le_of_ble_eq_true rfl), (Nat.le_of_ble_eq_true rfl)⟩ ⟨(Nat.le_of_ble_eq_true rfl), (Nat.le_of_ble_eq_true rfl)⟩ dX2_withDates_32 (fun _ _ z => False.elim z) (fun v9 ws9 h25 => ?_)))))
  obtain ⟨rfl, hw9⟩ := h25
  subst ws9
  dsimp only [mPush]
  refine r_iload hX dX2_withDates_35 rfl (r_callS hX (z_X2_datePart _ _ (0 + 5) _ _ _ _ (zWd_loc (d := 0) (by decide)) (zrg hS (by decide)) _ (by decide) hdh0) ks_X2_175 rfl rfl (Nat.le_of_ble_eq_true rfl) ⟨(Nat.le_of_ble_eq_true rfl), (Nat.le_of_ble_eq_true rfl)⟩ ⟨(Nat.le_of_ble_eq_true rfl), (Nat.le_of_ble_eq_true rfl)⟩ dX2_withDates_37 (fun _ _ z => False.elim z) (fun v9 ws9 h26 => ?_))
  obtain ⟨rfl, hw9⟩ := h26
  subst ws9
  dsimp only [mPush]
  refine r_i2lZ hX dX2_withDates_40 (hbD0 _) (r_callS hX (z_X2_addedG _ _ _ _) ks_X2_247 rfl rfl (Nat.le_of_ble_eq_true rfl) ⟨(Nat.le_of_ble_eq_true rfl), (Nat.le_of_ble_eq_true rfl)⟩ ⟨(Nat.le_of_ble_eq_true rfl), (Nat.le_of_ble_eq_true rfl)⟩ dX2_withDates_41 (fun _ _ z => False.elim z) (fun v9 ws9 h27 => ?_))
  obtain ⟨g9, hg9, rfl, hw9⟩ := h27
  subst ws9
  dsimp only [mPush]
  refine r_lstore_n hX dX2_withDates_44 rfl (by decide) rfl (r_iincZ (z := 1) (y := 9) hX dX2_withDates_45 rfl (by decide) rfl rfl (r_goto (tgt := 18) hX dX2_withDates_48 (by decide) (r_iload hX dX2_withDates_18 rfl (r_bipushZ hX dX2_withDates_20 (by decide +kernel) (r_icmp_geZ (tgt := 51) hX dX2_withDates_22 (by decide) (by decide) (by decide) (fun q => absurd q (by decide)) (fun _ => ?_))))))
  refine r_lload_n hX dX2_withDates_25 rfl rfl (r_aload_n hX dX2_withDates_26 rfl rfl (r_get hX kf_X2_20 0 rfl rfl dX2_withDates_27 (r_iload hX dX2_withDates_30 rfl (r_callS hX (z_X2_at_ok ad cs _ 3 _ 4 0 rfl (by decide) _ 0 (by first | with_reducible assumption | decide | omega) (by decide)) ks_X2_84 rfl rfl (Nat.le_of_ble_eq_true rfl) ⟨(Nat.le_of_ble_eq_true rfl), (Nat.le_of_ble_eq_true rfl)⟩ ⟨(Nat.le_of_ble_eq_true rfl), (Nat.le_of_ble_eq_true rfl)⟩ dX2_withDates_32 (fun _ _ z => False.elim z) (fun v9 ws9 h28 => ?_)))))
  obtain ⟨rfl, hw9⟩ := h28
  subst ws9
  dsimp only [mPush]
  refine r_iload hX dX2_withDates_35 rfl (r_callS hX (z_X2_datePart _ _ (0 + 5) _ _ _ _ (zWd_loc (d := 0) (by decide)) (zrg hS (by decide)) _ (by decide) hdh0) ks_X2_175 rfl rfl (Nat.le_of_ble_eq_true rfl) ⟨(Nat.le_of_ble_eq_true rfl), (Nat.le_of_ble_eq_true rfl)⟩ ⟨(Nat.le_of_ble_eq_true rfl), (Nat.le_of_ble_eq_true rfl)⟩ dX2_withDates_37 (fun _ _ z => False.elim z) (fun v9 ws9 h29 => ?_))
  obtain ⟨rfl, hw9⟩ := h29
  subst ws9
  dsimp only [mPush]
  refine r_i2lZ hX dX2_withDates_40 (hbD0 _) (r_callS hX (z_X2_addedG _ _ _ _) ks_X2_247 rfl rfl (Nat.le_of_ble_eq_true rfl) ⟨(Nat.le_of_ble_eq_true rfl), (Nat.le_of_ble_eq_true rfl)⟩ ⟨(Nat.le_of_ble_eq_true rfl), (Nat.le_of_ble_eq_true rfl)⟩ dX2_withDates_41 (fun _ _ z => False.elim z) (fun v9 ws9 h30 => ?_))
  obtain ⟨g10, hg10, rfl, hw9⟩ := h30
  subst ws9
  dsimp only [mPush]
  refine r_lstore_n hX dX2_withDates_44 rfl (by decide) rfl (r_iincZ (z := 1) (y := 10) hX dX2_withDates_45 rfl (by decide) rfl rfl (r_goto (tgt := 18) hX dX2_withDates_48 (by decide) (r_iload hX dX2_withDates_18 rfl (r_bipushZ hX dX2_withDates_20 (by decide +kernel) (r_icmp_geZ (tgt := 51) hX dX2_withDates_22 (by decide) (by decide) (by decide) (fun q => absurd q (by decide)) (fun _ => ?_))))))
  refine r_lload_n hX dX2_withDates_25 rfl rfl (r_aload_n hX dX2_withDates_26 rfl rfl (r_get hX kf_X2_20 0 rfl rfl dX2_withDates_27 (r_iload hX dX2_withDates_30 rfl (r_callS hX (z_X2_at_ok ad cs _ 3 _ 4 0 rfl (by decide) _ 0 (by first | with_reducible assumption | decide | omega) (by decide)) ks_X2_84 rfl rfl (Nat.le_of_ble_eq_true rfl) ⟨(Nat.le_of_ble_eq_true rfl), (Nat.le_of_ble_eq_true rfl)⟩ ⟨(Nat.le_of_ble_eq_true rfl), (Nat.le_of_ble_eq_true rfl)⟩ dX2_withDates_32 (fun _ _ z => False.elim z) (fun v9 ws9 h31 => ?_)))))
  obtain ⟨rfl, hw9⟩ := h31
  subst ws9
  dsimp only [mPush]
  refine r_iload hX dX2_withDates_35 rfl (r_callS hX (z_X2_datePart _ _ (0 + 5) _ _ _ _ (zWd_loc (d := 0) (by decide)) (zrg hS (by decide)) _ (by decide) hdh0) ks_X2_175 rfl rfl (Nat.le_of_ble_eq_true rfl) ⟨(Nat.le_of_ble_eq_true rfl), (Nat.le_of_ble_eq_true rfl)⟩ ⟨(Nat.le_of_ble_eq_true rfl), (Nat.le_of_ble_eq_true rfl)⟩ dX2_withDates_37 (fun _ _ z => False.elim z) (fun v9 ws9 h32 => ?_))
  obtain ⟨rfl, hw9⟩ := h32
  subst ws9
  dsimp only [mPush]
  refine r_i2lZ hX dX2_withDates_40 (hbD0 _) (r_callS hX (z_X2_addedG _ _ _ _) ks_X2_247 rfl rfl (Nat.le_of_ble_eq_true rfl) ⟨(Nat.le_of_ble_eq_true rfl), (Nat.le_of_ble_eq_true rfl)⟩ ⟨(Nat.le_of_ble_eq_true rfl), (Nat.le_of_ble_eq_true rfl)⟩ dX2_withDates_41 (fun _ _ z => False.elim z) (fun v9 ws9 h33 => ?_))
  obtain ⟨g11, hg11, rfl, hw9⟩ := h33
  subst ws9
  dsimp only [mPush]
  refine r_lstore_n hX dX2_withDates_44 rfl (by decide) rfl (r_lc5 (i0 := 0) (i1 := 1) (i2 := 3) (i3 := 5) (i4 := 6) rfl rfl rfl rfl rfl (r_iincZ (z := 1) (y := 11) hX dX2_withDates_45 rfl (by decide) rfl rfl (r_goto (tgt := 18) hX dX2_withDates_48 (by decide) (r_iload hX dX2_withDates_18 rfl (r_bipushZ hX dX2_withDates_20 (by decide +kernel) (r_icmp_geZ (tgt := 51) hX dX2_withDates_22 (by decide) (by decide) (by decide) (fun q => absurd q (by decide)) (fun _ => ?_)))))))
  refine r_lload_n hX dX2_withDates_25 rfl rfl (r_aload_n hX dX2_withDates_26 rfl rfl (r_get hX kf_X2_20 0 rfl rfl dX2_withDates_27 (r_iload hX dX2_withDates_30 rfl (r_callS hX (z_X2_at_ok ad cs _ 3 _ 4 0 rfl (by decide) _ 0 (by first | with_reducible assumption | decide | omega) (by decide)) ks_X2_84 rfl rfl (Nat.le_of_ble_eq_true rfl) ⟨(Nat.le_of_ble_eq_true rfl), (Nat.le_of_ble_eq_true rfl)⟩ ⟨(Nat.le_of_ble_eq_true rfl), (Nat.le_of_ble_eq_true rfl)⟩ dX2_withDates_32 (fun _ _ z => False.elim z) (fun v9 ws9 h34 => ?_)))))
  obtain ⟨rfl, hw9⟩ := h34
  subst ws9
  dsimp only [mPush]
  refine r_iload hX dX2_withDates_35 rfl (r_callS hX (z_X2_datePart _ _ (0 + 5) _ _ _ _ (zWd_loc (d := 0) (by decide)) (zrg hS (by decide)) _ (by decide) hdh0) ks_X2_175 rfl rfl (Nat.le_of_ble_eq_true rfl) ⟨(Nat.le_of_ble_eq_true rfl), (Nat.le_of_ble_eq_true rfl)⟩ ⟨(Nat.le_of_ble_eq_true rfl), (Nat.le_of_ble_eq_true rfl)⟩ dX2_withDates_37 (fun _ _ z => False.elim z) (fun v9 ws9 h35 => ?_))
  obtain ⟨rfl, hw9⟩ := h35
  subst ws9
  dsimp only [mPush]
  refine r_i2lZ hX dX2_withDates_40 (hbD0 _) (r_callS hX (z_X2_addedG _ _ _ _) ks_X2_247 rfl rfl (Nat.le_of_ble_eq_true rfl) ⟨(Nat.le_of_ble_eq_true rfl), (Nat.le_of_ble_eq_true rfl)⟩ ⟨(Nat.le_of_ble_eq_true rfl), (Nat.le_of_ble_eq_true rfl)⟩ dX2_withDates_41 (fun _ _ z => False.elim z) (fun v9 ws9 h36 => ?_))
  obtain ⟨g12, hg12, rfl, hw9⟩ := h36
  subst ws9
  dsimp only [mPush]
  refine r_lstore_n hX dX2_withDates_44 rfl (by decide) rfl (r_iincZ (z := 1) (y := 12) hX dX2_withDates_45 rfl (by decide) rfl rfl (r_goto (tgt := 18) hX dX2_withDates_48 (by decide) (r_iload hX dX2_withDates_18 rfl (r_bipushZ hX dX2_withDates_20 (by decide +kernel) (r_icmp_geZ (tgt := 51) hX dX2_withDates_22 (by decide) (by decide) (by decide) (fun q => absurd q (by decide)) (fun _ => ?_))))))
  refine r_lload_n hX dX2_withDates_25 rfl rfl (r_aload_n hX dX2_withDates_26 rfl rfl (r_get hX kf_X2_20 0 rfl rfl dX2_withDates_27 (r_iload hX dX2_withDates_30 rfl (r_callS hX (z_X2_at_ok ad cs _ 3 _ 4 0 rfl (by decide) _ 0 (by first | with_reducible assumption | decide | omega) (by decide)) ks_X2_84 rfl rfl (Nat.le_of_ble_eq_true rfl) ⟨(Nat.le_of_ble_eq_true rfl), (Nat.le_of_ble_eq_true rfl)⟩ ⟨(Nat.le_of_ble_eq_true rfl), (Nat.le_of_ble_eq_true rfl)⟩ dX2_withDates_32 (fun _ _ z => False.elim z) (fun v9 ws9 h37 => ?_)))))
  obtain ⟨rfl, hw9⟩ := h37
  subst ws9
  dsimp only [mPush]
  refine r_iload hX dX2_withDates_35 rfl (r_callS hX (z_X2_datePart _ _ (0 + 5) _ _ _ _ (zWd_loc (d := 0) (by decide)) (zrg hS (by decide)) _ (by decide) hdh0) ks_X2_175 rfl rfl (Nat.le_of_ble_eq_true rfl) ⟨(Nat.le_of_ble_eq_true rfl), (Nat.le_of_ble_eq_true rfl)⟩ ⟨(Nat.le_of_ble_eq_true rfl), (Nat.le_of_ble_eq_true rfl)⟩ dX2_withDates_37 (fun _ _ z => False.elim z) (fun v9 ws9 h38 => ?_))
  obtain ⟨rfl, hw9⟩ := h38
  subst ws9
  dsimp only [mPush]
  refine r_i2lZ hX dX2_withDates_40 (hbD0 _) (r_callS hX (z_X2_addedG _ _ _ _) ks_X2_247 rfl rfl (Nat.le_of_ble_eq_true rfl) ⟨(Nat.le_of_ble_eq_true rfl), (Nat.le_of_ble_eq_true rfl)⟩ ⟨(Nat.le_of_ble_eq_true rfl), (Nat.le_of_ble_eq_true rfl)⟩ dX2_withDates_41 (fun _ _ z => False.elim z) (fun v9 ws9 h39 => ?_))
  obtain ⟨g13, hg13, rfl, hw9⟩ := h39
  subst ws9
  dsimp only [mPush]
  refine r_lstore_n hX dX2_withDates_44 rfl (by decide) rfl (r_iincZ (z := 1) (y := 13) hX dX2_withDates_45 rfl (by decide) rfl rfl (r_goto (tgt := 18) hX dX2_withDates_48 (by decide) (r_iload hX dX2_withDates_18 rfl (r_bipushZ hX dX2_withDates_20 (by decide +kernel) (r_icmp_geZ (tgt := 51) hX dX2_withDates_22 (by decide) (by decide) (by decide) (fun _ => ?_) (fun q => absurd (by decide) q))))))
  refine r_iincZ (z := 1) (y := 1) hX dX2_withDates_51 rfl (by decide) rfl rfl (r_goto (tgt := 5) hX dX2_withDates_54 (by decide) (r_iload hX dX2_withDates_5 rfl (r_aload_n hX dX2_withDates_7 rfl rfl (r_get hX kf_X2_20 0 rfl rfl dX2_withDates_8 (r_alen (v := iZ 4) hX 3 2 rfl rfl rfl dX2_withDates_11 (r_icmp_geZ (tgt := 57) hX dX2_withDates_12 (by decide) (by decide) (by decide) (fun q => absurd q (by decide)) (fun _ => ?_)))))))
  refine r_iconstZ hX dX2_withDates_15 (r_istore hX dX2_withDates_16 (by decide) rfl (r_iload hX dX2_withDates_18 rfl (r_bipushZ hX dX2_withDates_20 (by decide +kernel) (r_icmp_geZ (tgt := 51) hX dX2_withDates_22 (by decide) (by decide) (by decide) (fun q => absurd q (by decide)) (fun _ => ?_)))))
  refine r_lload_n hX dX2_withDates_25 rfl rfl (r_aload_n hX dX2_withDates_26 rfl rfl (r_get hX kf_X2_20 0 rfl rfl dX2_withDates_27 (r_iload hX dX2_withDates_30 rfl (r_callS hX (z_X2_at_ok ad cs _ 3 _ 4 0 rfl (by decide) _ 1 (by first | with_reducible assumption | decide | omega) (by decide)) ks_X2_84 rfl rfl (Nat.le_of_ble_eq_true rfl) ⟨(Nat.le_of_ble_eq_true rfl), (Nat.le_of_ble_eq_true rfl)⟩ ⟨(Nat.le_of_ble_eq_true rfl), (Nat.le_of_ble_eq_true rfl)⟩ dX2_withDates_32 (fun _ _ z => False.elim z) (fun v9 ws9 h40 => ?_)))))
  obtain ⟨rfl, hw9⟩ := h40
  subst ws9
  dsimp only [mPush]
  refine r_iload hX dX2_withDates_35 rfl (r_callS hX (z_X2_datePart _ _ (1 + 5) _ _ _ _ (zWd_loc (d := 1) (by decide)) (zrg hS (by decide)) _ (by decide) hdh1) ks_X2_175 rfl rfl (Nat.le_of_ble_eq_true rfl) ⟨(Nat.le_of_ble_eq_true rfl), (Nat.le_of_ble_eq_true rfl)⟩ ⟨(Nat.le_of_ble_eq_true rfl), (Nat.le_of_ble_eq_true rfl)⟩ dX2_withDates_37 (fun _ _ z => False.elim z) (fun v9 ws9 h41 => ?_))
  obtain ⟨rfl, hw9⟩ := h41
  subst ws9
  dsimp only [mPush]
  refine r_i2lZ hX dX2_withDates_40 (hbD1 _) (r_callS hX (z_X2_addedG _ _ _ _) ks_X2_247 rfl rfl (Nat.le_of_ble_eq_true rfl) ⟨(Nat.le_of_ble_eq_true rfl), (Nat.le_of_ble_eq_true rfl)⟩ ⟨(Nat.le_of_ble_eq_true rfl), (Nat.le_of_ble_eq_true rfl)⟩ dX2_withDates_41 (fun _ _ z => False.elim z) (fun v9 ws9 h42 => ?_))
  obtain ⟨g14, hg14, rfl, hw9⟩ := h42
  subst ws9
  dsimp only [mPush]
  refine r_lstore_n hX dX2_withDates_44 rfl (by decide) rfl (r_iincZ (z := 1) (y := 1) hX dX2_withDates_45 rfl (by decide) rfl rfl (r_lc5 (i0 := 0) (i1 := 1) (i2 := 3) (i3 := 5) (i4 := 6) rfl rfl rfl rfl rfl (r_goto (tgt := 18) hX dX2_withDates_48 (by decide) (r_iload hX dX2_withDates_18 rfl (r_bipushZ hX dX2_withDates_20 (by decide +kernel) (r_icmp_geZ (tgt := 51) hX dX2_withDates_22 (by decide) (by decide) (by decide) (fun q => absurd q (by decide)) (fun _ => ?_)))))))
  refine r_lload_n hX dX2_withDates_25 rfl rfl (r_aload_n hX dX2_withDates_26 rfl rfl (r_get hX kf_X2_20 0 rfl rfl dX2_withDates_27 (r_iload hX dX2_withDates_30 rfl (r_callS hX (z_X2_at_ok ad cs _ 3 _ 4 0 rfl (by decide) _ 1 (by first | with_reducible assumption | decide | omega) (by decide)) ks_X2_84 rfl rfl (Nat.le_of_ble_eq_true rfl) ⟨(Nat.le_of_ble_eq_true rfl), (Nat.le_of_ble_eq_true rfl)⟩ ⟨(Nat.le_of_ble_eq_true rfl), (Nat.le_of_ble_eq_true rfl)⟩ dX2_withDates_32 (fun _ _ z => False.elim z) (fun v9 ws9 h43 => ?_)))))
  obtain ⟨rfl, hw9⟩ := h43
  subst ws9
  dsimp only [mPush]
  refine r_iload hX dX2_withDates_35 rfl (r_callS hX (z_X2_datePart _ _ (1 + 5) _ _ _ _ (zWd_loc (d := 1) (by decide)) (zrg hS (by decide)) _ (by decide) hdh1) ks_X2_175 rfl rfl (Nat.le_of_ble_eq_true rfl) ⟨(Nat.le_of_ble_eq_true rfl), (Nat.le_of_ble_eq_true rfl)⟩ ⟨(Nat.le_of_ble_eq_true rfl), (Nat.le_of_ble_eq_true rfl)⟩ dX2_withDates_37 (fun _ _ z => False.elim z) (fun v9 ws9 h44 => ?_))
  obtain ⟨rfl, hw9⟩ := h44
  subst ws9
  dsimp only [mPush]
  refine r_i2lZ hX dX2_withDates_40 (hbD1 _) (r_callS hX (z_X2_addedG _ _ _ _) ks_X2_247 rfl rfl (Nat.le_of_ble_eq_true rfl) ⟨(Nat.le_of_ble_eq_true rfl), (Nat.le_of_ble_eq_true rfl)⟩ ⟨(Nat.le_of_ble_eq_true rfl), (Nat.le_of_ble_eq_true rfl)⟩ dX2_withDates_41 (fun _ _ z => False.elim z) (fun v9 ws9 h45 => ?_))
  obtain ⟨g15, hg15, rfl, hw9⟩ := h45
  subst ws9
  dsimp only [mPush]
  refine r_lstore_n hX dX2_withDates_44 rfl (by decide) rfl (r_iincZ (z := 1) (y := 2) hX dX2_withDates_45 rfl (by decide) rfl rfl (r_goto (tgt := 18) hX dX2_withDates_48 (by decide) (r_iload hX dX2_withDates_18 rfl (r_bipushZ hX dX2_withDates_20 (by decide +kernel) (r_icmp_geZ (tgt := 51) hX dX2_withDates_22 (by decide) (by decide) (by decide) (fun q => absurd q (by decide)) (fun _ => ?_))))))
  refine r_lload_n hX dX2_withDates_25 rfl rfl (r_aload_n hX dX2_withDates_26 rfl rfl (r_get hX kf_X2_20 0 rfl rfl dX2_withDates_27 (r_iload hX dX2_withDates_30 rfl (r_callS hX (z_X2_at_ok ad cs _ 3 _ 4 0 rfl (by decide) _ 1 (by first | with_reducible assumption | decide | omega) (by decide)) ks_X2_84 rfl rfl (Nat.le_of_ble_eq_true rfl) ⟨(Nat.le_of_ble_eq_true rfl), (Nat.le_of_ble_eq_true rfl)⟩ ⟨(Nat.le_of_ble_eq_true rfl), (Nat.le_of_ble_eq_true rfl)⟩ dX2_withDates_32 (fun _ _ z => False.elim z) (fun v9 ws9 h46 => ?_)))))
  obtain ⟨rfl, hw9⟩ := h46
  subst ws9
  dsimp only [mPush]
  refine r_iload hX dX2_withDates_35 rfl (r_callS hX (z_X2_datePart _ _ (1 + 5) _ _ _ _ (zWd_loc (d := 1) (by decide)) (zrg hS (by decide)) _ (by decide) hdh1) ks_X2_175 rfl rfl (Nat.le_of_ble_eq_true rfl) ⟨(Nat.le_of_ble_eq_true rfl), (Nat.le_of_ble_eq_true rfl)⟩ ⟨(Nat.le_of_ble_eq_true rfl), (Nat.le_of_ble_eq_true rfl)⟩ dX2_withDates_37 (fun _ _ z => False.elim z) (fun v9 ws9 h47 => ?_))
  obtain ⟨rfl, hw9⟩ := h47
  subst ws9
  dsimp only [mPush]
  refine r_i2lZ hX dX2_withDates_40 (hbD1 _) (r_callS hX (z_X2_addedG _ _ _ _) ks_X2_247 rfl rfl (Nat.le_of_ble_eq_true rfl) ⟨(Nat.le_of_ble_eq_true rfl), (Nat.le_of_ble_eq_true rfl)⟩ ⟨(Nat.le_of_ble_eq_true rfl), (Nat.le_of_ble_eq_true rfl)⟩ dX2_withDates_41 (fun _ _ z => False.elim z) (fun v9 ws9 h48 => ?_))
  obtain ⟨g16, hg16, rfl, hw9⟩ := h48
  subst ws9
  dsimp only [mPush]
  refine r_lstore_n hX dX2_withDates_44 rfl (by decide) rfl (r_iincZ (z := 1) (y := 3) hX dX2_withDates_45 rfl (by decide) rfl rfl (r_goto (tgt := 18) hX dX2_withDates_48 (by decide) (r_iload hX dX2_withDates_18 rfl (r_bipushZ hX dX2_withDates_20 (by decide +kernel) (r_icmp_geZ (tgt := 51) hX dX2_withDates_22 (by decide) (by decide) (by decide) (fun q => absurd q (by decide)) (fun _ => ?_))))))
  refine r_lload_n hX dX2_withDates_25 rfl rfl (r_aload_n hX dX2_withDates_26 rfl rfl (r_get hX kf_X2_20 0 rfl rfl dX2_withDates_27 (r_iload hX dX2_withDates_30 rfl (r_callS hX (z_X2_at_ok ad cs _ 3 _ 4 0 rfl (by decide) _ 1 (by first | with_reducible assumption | decide | omega) (by decide)) ks_X2_84 rfl rfl (Nat.le_of_ble_eq_true rfl) ⟨(Nat.le_of_ble_eq_true rfl), (Nat.le_of_ble_eq_true rfl)⟩ ⟨(Nat.le_of_ble_eq_true rfl), (Nat.le_of_ble_eq_true rfl)⟩ dX2_withDates_32 (fun _ _ z => False.elim z) (fun v9 ws9 h49 => ?_)))))
  obtain ⟨rfl, hw9⟩ := h49
  subst ws9
  dsimp only [mPush]
  refine r_iload hX dX2_withDates_35 rfl (r_callS hX (z_X2_datePart _ _ (1 + 5) _ _ _ _ (zWd_loc (d := 1) (by decide)) (zrg hS (by decide)) _ (by decide) hdh1) ks_X2_175 rfl rfl (Nat.le_of_ble_eq_true rfl) ⟨(Nat.le_of_ble_eq_true rfl), (Nat.le_of_ble_eq_true rfl)⟩ ⟨(Nat.le_of_ble_eq_true rfl), (Nat.le_of_ble_eq_true rfl)⟩ dX2_withDates_37 (fun _ _ z => False.elim z) (fun v9 ws9 h50 => ?_))
  obtain ⟨rfl, hw9⟩ := h50
  subst ws9
  dsimp only [mPush]
  refine r_i2lZ hX dX2_withDates_40 (hbD1 _) (r_callS hX (z_X2_addedG _ _ _ _) ks_X2_247 rfl rfl (Nat.le_of_ble_eq_true rfl) ⟨(Nat.le_of_ble_eq_true rfl), (Nat.le_of_ble_eq_true rfl)⟩ ⟨(Nat.le_of_ble_eq_true rfl), (Nat.le_of_ble_eq_true rfl)⟩ dX2_withDates_41 (fun _ _ z => False.elim z) (fun v9 ws9 h51 => ?_))
  obtain ⟨g17, hg17, rfl, hw9⟩ := h51
  subst ws9
  dsimp only [mPush]
  refine r_lstore_n hX dX2_withDates_44 rfl (by decide) rfl (r_iincZ (z := 1) (y := 4) hX dX2_withDates_45 rfl (by decide) rfl rfl (r_goto (tgt := 18) hX dX2_withDates_48 (by decide) (r_iload hX dX2_withDates_18 rfl (r_bipushZ hX dX2_withDates_20 (by decide +kernel) (r_icmp_geZ (tgt := 51) hX dX2_withDates_22 (by decide) (by decide) (by decide) (fun q => absurd q (by decide)) (fun _ => ?_))))))
  refine r_lload_n hX dX2_withDates_25 rfl rfl (r_aload_n hX dX2_withDates_26 rfl rfl (r_get hX kf_X2_20 0 rfl rfl dX2_withDates_27 (r_iload hX dX2_withDates_30 rfl (r_callS hX (z_X2_at_ok ad cs _ 3 _ 4 0 rfl (by decide) _ 1 (by first | with_reducible assumption | decide | omega) (by decide)) ks_X2_84 rfl rfl (Nat.le_of_ble_eq_true rfl) ⟨(Nat.le_of_ble_eq_true rfl), (Nat.le_of_ble_eq_true rfl)⟩ ⟨(Nat.le_of_ble_eq_true rfl), (Nat.le_of_ble_eq_true rfl)⟩ dX2_withDates_32 (fun _ _ z => False.elim z) (fun v9 ws9 h52 => ?_)))))
  obtain ⟨rfl, hw9⟩ := h52
  subst ws9
  dsimp only [mPush]
  refine r_iload hX dX2_withDates_35 rfl (r_callS hX (z_X2_datePart _ _ (1 + 5) _ _ _ _ (zWd_loc (d := 1) (by decide)) (zrg hS (by decide)) _ (by decide) hdh1) ks_X2_175 rfl rfl (Nat.le_of_ble_eq_true rfl) ⟨(Nat.le_of_ble_eq_true rfl), (Nat.le_of_ble_eq_true rfl)⟩ ⟨(Nat.le_of_ble_eq_true rfl), (Nat.le_of_ble_eq_true rfl)⟩ dX2_withDates_37 (fun _ _ z => False.elim z) (fun v9 ws9 h53 => ?_))
  obtain ⟨rfl, hw9⟩ := h53
  subst ws9
  dsimp only [mPush]
  refine r_i2lZ hX dX2_withDates_40 (hbD1 _) (r_callS hX (z_X2_addedG _ _ _ _) ks_X2_247 rfl rfl (Nat.le_of_ble_eq_true rfl) ⟨(Nat.le_of_ble_eq_true rfl), (Nat.le_of_ble_eq_true rfl)⟩ ⟨(Nat.le_of_ble_eq_true rfl), (Nat.le_of_ble_eq_true rfl)⟩ dX2_withDates_41 (fun _ _ z => False.elim z) (fun v9 ws9 h54 => ?_))
  obtain ⟨g18, hg18, rfl, hw9⟩ := h54
  subst ws9
  dsimp only [mPush]
  refine r_lstore_n hX dX2_withDates_44 rfl (by decide) rfl (r_iincZ (z := 1) (y := 5) hX dX2_withDates_45 rfl (by decide) rfl rfl (r_lc5 (i0 := 0) (i1 := 1) (i2 := 3) (i3 := 5) (i4 := 6) rfl rfl rfl rfl rfl (r_goto (tgt := 18) hX dX2_withDates_48 (by decide) (r_iload hX dX2_withDates_18 rfl (r_bipushZ hX dX2_withDates_20 (by decide +kernel) (r_icmp_geZ (tgt := 51) hX dX2_withDates_22 (by decide) (by decide) (by decide) (fun q => absurd q (by decide)) (fun _ => ?_)))))))
  refine r_lload_n hX dX2_withDates_25 rfl rfl (r_aload_n hX dX2_withDates_26 rfl rfl (r_get hX kf_X2_20 0 rfl rfl dX2_withDates_27 (r_iload hX dX2_withDates_30 rfl (r_callS hX (z_X2_at_ok ad cs _ 3 _ 4 0 rfl (by decide) _ 1 (by first | with_reducible assumption | decide | omega) (by decide)) ks_X2_84 rfl rfl (Nat.le_of_ble_eq_true rfl) ⟨(Nat.le_of_ble_eq_true rfl), (Nat.le_of_ble_eq_true rfl)⟩ ⟨(Nat.le_of_ble_eq_true rfl), (Nat.le_of_ble_eq_true rfl)⟩ dX2_withDates_32 (fun _ _ z => False.elim z) (fun v9 ws9 h55 => ?_)))))
  obtain ⟨rfl, hw9⟩ := h55
  subst ws9
  dsimp only [mPush]
  refine r_iload hX dX2_withDates_35 rfl (r_callS hX (z_X2_datePart _ _ (1 + 5) _ _ _ _ (zWd_loc (d := 1) (by decide)) (zrg hS (by decide)) _ (by decide) hdh1) ks_X2_175 rfl rfl (Nat.le_of_ble_eq_true rfl) ⟨(Nat.le_of_ble_eq_true rfl), (Nat.le_of_ble_eq_true rfl)⟩ ⟨(Nat.le_of_ble_eq_true rfl), (Nat.le_of_ble_eq_true rfl)⟩ dX2_withDates_37 (fun _ _ z => False.elim z) (fun v9 ws9 h56 => ?_))
  obtain ⟨rfl, hw9⟩ := h56
  subst ws9
  dsimp only [mPush]
  refine r_i2lZ hX dX2_withDates_40 (hbD1 _) (r_callS hX (z_X2_addedG _ _ _ _) ks_X2_247 rfl rfl (Nat.le_of_ble_eq_true rfl) ⟨(Nat.le_of_ble_eq_true rfl), (Nat.le_of_ble_eq_true rfl)⟩ ⟨(Nat.le_of_ble_eq_true rfl), (Nat.le_of_ble_eq_true rfl)⟩ dX2_withDates_41 (fun _ _ z => False.elim z) (fun v9 ws9 h57 => ?_))
  obtain ⟨g19, hg19, rfl, hw9⟩ := h57
  subst ws9
  dsimp only [mPush]
  refine r_lstore_n hX dX2_withDates_44 rfl (by decide) rfl (r_iincZ (z := 1) (y := 6) hX dX2_withDates_45 rfl (by decide) rfl rfl (r_goto (tgt := 18) hX dX2_withDates_48 (by decide) (r_iload hX dX2_withDates_18 rfl (r_bipushZ hX dX2_withDates_20 (by decide +kernel) (r_icmp_geZ (tgt := 51) hX dX2_withDates_22 (by decide) (by decide) (by decide) (fun q => absurd q (by decide)) (fun _ => ?_))))))
  refine r_lload_n hX dX2_withDates_25 rfl rfl (r_aload_n hX dX2_withDates_26 rfl rfl (r_get hX kf_X2_20 0 rfl rfl dX2_withDates_27 (r_iload hX dX2_withDates_30 rfl (r_callS hX (z_X2_at_ok ad cs _ 3 _ 4 0 rfl (by decide) _ 1 (by first | with_reducible assumption | decide | omega) (by decide)) ks_X2_84 rfl rfl (Nat.le_of_ble_eq_true rfl) ⟨(Nat.le_of_ble_eq_true rfl), (Nat.le_of_ble_eq_true rfl)⟩ ⟨(Nat.le_of_ble_eq_true rfl), (Nat.le_of_ble_eq_true rfl)⟩ dX2_withDates_32 (fun _ _ z => False.elim z) (fun v9 ws9 h58 => ?_)))))
  obtain ⟨rfl, hw9⟩ := h58
  subst ws9
  dsimp only [mPush]
  refine r_iload hX dX2_withDates_35 rfl (r_callS hX (z_X2_datePart _ _ (1 + 5) _ _ _ _ (zWd_loc (d := 1) (by decide)) (zrg hS (by decide)) _ (by decide) hdh1) ks_X2_175 rfl rfl (Nat.le_of_ble_eq_true rfl) ⟨(Nat.le_of_ble_eq_true rfl), (Nat.le_of_ble_eq_true rfl)⟩ ⟨(Nat.le_of_ble_eq_true rfl), (Nat.le_of_ble_eq_true rfl)⟩ dX2_withDates_37 (fun _ _ z => False.elim z) (fun v9 ws9 h59 => ?_))
  obtain ⟨rfl, hw9⟩ := h59
  subst ws9
  dsimp only [mPush]
  refine r_i2lZ hX dX2_withDates_40 (hbD1 _) (r_callS hX (z_X2_addedG _ _ _ _) ks_X2_247 rfl rfl (Nat.le_of_ble_eq_true rfl) ⟨(Nat.le_of_ble_eq_true rfl), (Nat.le_of_ble_eq_true rfl)⟩ ⟨(Nat.le_of_ble_eq_true rfl), (Nat.le_of_ble_eq_true rfl)⟩ dX2_withDates_41 (fun _ _ z => False.elim z) (fun v9 ws9 h60 => ?_))
  obtain ⟨g20, hg20, rfl, hw9⟩ := h60
  subst ws9
  dsimp only [mPush]
  refine r_lstore_n hX dX2_withDates_44 rfl (by decide) rfl (r_iincZ (z := 1) (y := 7) hX dX2_withDates_45 rfl (by decide) rfl rfl (r_goto (tgt := 18) hX dX2_withDates_48 (by decide) (r_iload hX dX2_withDates_18 rfl (r_bipushZ hX dX2_withDates_20 (by decide +kernel) (r_icmp_geZ (tgt := 51) hX dX2_withDates_22 (by decide) (by decide) (by decide) (fun q => absurd q (by decide)) (fun _ => ?_))))))
  refine r_lload_n hX dX2_withDates_25 rfl rfl (r_aload_n hX dX2_withDates_26 rfl rfl (r_get hX kf_X2_20 0 rfl rfl dX2_withDates_27 (r_iload hX dX2_withDates_30 rfl (r_callS hX (z_X2_at_ok ad cs _ 3 _ 4 0 rfl (by decide) _ 1 (by first | with_reducible assumption | decide | omega) (by decide)) ks_X2_84 rfl rfl (Nat.le_of_ble_eq_true rfl) ⟨(Nat.le_of_ble_eq_true rfl), (Nat.le_of_ble_eq_true rfl)⟩ ⟨(Nat.le_of_ble_eq_true rfl), (Nat.le_of_ble_eq_true rfl)⟩ dX2_withDates_32 (fun _ _ z => False.elim z) (fun v9 ws9 h61 => ?_)))))
  obtain ⟨rfl, hw9⟩ := h61
  subst ws9
  dsimp only [mPush]
  refine r_iload hX dX2_withDates_35 rfl (r_callS hX (z_X2_datePart _ _ (1 + 5) _ _ _ _ (zWd_loc (d := 1) (by decide)) (zrg hS (by decide)) _ (by decide) hdh1) ks_X2_175 rfl rfl (Nat.le_of_ble_eq_true rfl) ⟨(Nat.le_of_ble_eq_true rfl), (Nat.le_of_ble_eq_true rfl)⟩ ⟨(Nat.le_of_ble_eq_true rfl), (Nat.le_of_ble_eq_true rfl)⟩ dX2_withDates_37 (fun _ _ z => False.elim z) (fun v9 ws9 h62 => ?_))
  obtain ⟨rfl, hw9⟩ := h62
  subst ws9
  dsimp only [mPush]
  refine r_i2lZ hX dX2_withDates_40 (hbD1 _) (r_callS hX (z_X2_addedG _ _ _ _) ks_X2_247 rfl rfl (Nat.le_of_ble_eq_true rfl) ⟨(Nat.le_of_ble_eq_true rfl), (Nat.le_of_ble_eq_true rfl)⟩ ⟨(Nat.le_of_ble_eq_true rfl), (Nat.le_of_ble_eq_true rfl)⟩ dX2_withDates_41 (fun _ _ z => False.elim z) (fun v9 ws9 h63 => ?_))
  obtain ⟨g21, hg21, rfl, hw9⟩ := h63
  subst ws9
  dsimp only [mPush]
  refine r_lstore_n hX dX2_withDates_44 rfl (by decide) rfl (r_iincZ (z := 1) (y := 8) hX dX2_withDates_45 rfl (by decide) rfl rfl (r_goto (tgt := 18) hX dX2_withDates_48 (by decide) (r_iload hX dX2_withDates_18 rfl (r_bipushZ hX dX2_withDates_20 (by decide +kernel) (r_icmp_geZ (tgt := 51) hX dX2_withDates_22 (by decide) (by decide) (by decide) (fun q => absurd q (by decide)) (fun _ => ?_))))))
  refine r_lload_n hX dX2_withDates_25 rfl rfl (r_aload_n hX dX2_withDates_26 rfl rfl (r_get hX kf_X2_20 0 rfl rfl dX2_withDates_27 (r_iload hX dX2_withDates_30 rfl (r_callS hX (z_X2_at_ok ad cs _ 3 _ 4 0 rfl (by decide) _ 1 (by first | with_reducible assumption | decide | omega) (by decide)) ks_X2_84 rfl rfl (Nat.le_of_ble_eq_true rfl) ⟨(Nat.le_of_ble_eq_true rfl), (Nat.le_of_ble_eq_true rfl)⟩ ⟨(Nat.le_of_ble_eq_true rfl), (Nat.le_of_ble_eq_true rfl)⟩ dX2_withDates_32 (fun _ _ z => False.elim z) (fun v9 ws9 h64 => ?_)))))
  obtain ⟨rfl, hw9⟩ := h64
  subst ws9
  dsimp only [mPush]
  refine r_iload hX dX2_withDates_35 rfl (r_callS hX (z_X2_datePart _ _ (1 + 5) _ _ _ _ (zWd_loc (d := 1) (by decide)) (zrg hS (by decide)) _ (by decide) hdh1) ks_X2_175 rfl rfl (Nat.le_of_ble_eq_true rfl) ⟨(Nat.le_of_ble_eq_true rfl), (Nat.le_of_ble_eq_true rfl)⟩ ⟨(Nat.le_of_ble_eq_true rfl), (Nat.le_of_ble_eq_true rfl)⟩ dX2_withDates_37 (fun _ _ z => False.elim z) (fun v9 ws9 h65 => ?_))
  obtain ⟨rfl, hw9⟩ := h65
  subst ws9
  dsimp only [mPush]
  refine r_i2lZ hX dX2_withDates_40 (hbD1 _) (r_callS hX (z_X2_addedG _ _ _ _) ks_X2_247 rfl rfl (Nat.le_of_ble_eq_true rfl) ⟨(Nat.le_of_ble_eq_true rfl), (Nat.le_of_ble_eq_true rfl)⟩ ⟨(Nat.le_of_ble_eq_true rfl), (Nat.le_of_ble_eq_true rfl)⟩ dX2_withDates_41 (fun _ _ z => False.elim z) (fun v9 ws9 h66 => ?_))
  obtain ⟨g22, hg22, rfl, hw9⟩ := h66
  subst ws9
  dsimp only [mPush]
  refine r_lstore_n hX dX2_withDates_44 rfl (by decide) rfl (r_iincZ (z := 1) (y := 9) hX dX2_withDates_45 rfl (by decide) rfl rfl (r_lc5 (i0 := 0) (i1 := 1) (i2 := 3) (i3 := 5) (i4 := 6) rfl rfl rfl rfl rfl (r_goto (tgt := 18) hX dX2_withDates_48 (by decide) (r_iload hX dX2_withDates_18 rfl (r_bipushZ hX dX2_withDates_20 (by decide +kernel) (r_icmp_geZ (tgt := 51) hX dX2_withDates_22 (by decide) (by decide) (by decide) (fun q => absurd q (by decide)) (fun _ => ?_)))))))
  refine r_lload_n hX dX2_withDates_25 rfl rfl (r_aload_n hX dX2_withDates_26 rfl rfl (r_get hX kf_X2_20 0 rfl rfl dX2_withDates_27 (r_iload hX dX2_withDates_30 rfl (r_callS hX (z_X2_at_ok ad cs _ 3 _ 4 0 rfl (by decide) _ 1 (by first | with_reducible assumption | decide | omega) (by decide)) ks_X2_84 rfl rfl (Nat.le_of_ble_eq_true rfl) ⟨(Nat.le_of_ble_eq_true rfl), (Nat.le_of_ble_eq_true rfl)⟩ ⟨(Nat.le_of_ble_eq_true rfl), (Nat.le_of_ble_eq_true rfl)⟩ dX2_withDates_32 (fun _ _ z => False.elim z) (fun v9 ws9 h67 => ?_)))))
  obtain ⟨rfl, hw9⟩ := h67
  subst ws9
  dsimp only [mPush]
  refine r_iload hX dX2_withDates_35 rfl (r_callS hX (z_X2_datePart _ _ (1 + 5) _ _ _ _ (zWd_loc (d := 1) (by decide)) (zrg hS (by decide)) _ (by decide) hdh1) ks_X2_175 rfl rfl (Nat.le_of_ble_eq_true rfl) ⟨(Nat.le_of_ble_eq_true rfl), (Nat.le_of_ble_eq_true rfl)⟩ ⟨(Nat.le_of_ble_eq_true rfl), (Nat.le_of_ble_eq_true rfl)⟩ dX2_withDates_37 (fun _ _ z => False.elim z) (fun v9 ws9 h68 => ?_))
  obtain ⟨rfl, hw9⟩ := h68
  subst ws9
  dsimp only [mPush]
  refine r_i2lZ hX dX2_withDates_40 (hbD1 _) (r_callS hX (z_X2_addedG _ _ _ _) ks_X2_247 rfl rfl (Nat.le_of_ble_eq_true rfl) ⟨(Nat.le_of_ble_eq_true rfl), (Nat.le_of_ble_eq_true rfl)⟩ ⟨(Nat.le_of_ble_eq_true rfl), (Nat.le_of_ble_eq_true rfl)⟩ dX2_withDates_41 (fun _ _ z => False.elim z) (fun v9 ws9 h69 => ?_))
  obtain ⟨g23, hg23, rfl, hw9⟩ := h69
  subst ws9
  dsimp only [mPush]
  refine r_lstore_n hX dX2_withDates_44 rfl (by decide) rfl (r_iincZ (z := 1) (y := 10) hX dX2_withDates_45 rfl (by decide) rfl rfl (r_goto (tgt := 18) hX dX2_withDates_48 (by decide) (r_iload hX dX2_withDates_18 rfl (r_bipushZ hX dX2_withDates_20 (by decide +kernel) (r_icmp_geZ (tgt := 51) hX dX2_withDates_22 (by decide) (by decide) (by decide) (fun q => absurd q (by decide)) (fun _ => ?_))))))
  refine r_lload_n hX dX2_withDates_25 rfl rfl (r_aload_n hX dX2_withDates_26 rfl rfl (r_get hX kf_X2_20 0 rfl rfl dX2_withDates_27 (r_iload hX dX2_withDates_30 rfl (r_callS hX (z_X2_at_ok ad cs _ 3 _ 4 0 rfl (by decide) _ 1 (by first | with_reducible assumption | decide | omega) (by decide)) ks_X2_84 rfl rfl (Nat.le_of_ble_eq_true rfl) ⟨(Nat.le_of_ble_eq_true rfl), (Nat.le_of_ble_eq_true rfl)⟩ ⟨(Nat.le_of_ble_eq_true rfl), (Nat.le_of_ble_eq_true rfl)⟩ dX2_withDates_32 (fun _ _ z => False.elim z) (fun v9 ws9 h70 => ?_)))))
  obtain ⟨rfl, hw9⟩ := h70
  subst ws9
  dsimp only [mPush]
  refine r_iload hX dX2_withDates_35 rfl (r_callS hX (z_X2_datePart _ _ (1 + 5) _ _ _ _ (zWd_loc (d := 1) (by decide)) (zrg hS (by decide)) _ (by decide) hdh1) ks_X2_175 rfl rfl (Nat.le_of_ble_eq_true rfl) ⟨(Nat.le_of_ble_eq_true rfl), (Nat.le_of_ble_eq_true rfl)⟩ ⟨(Nat.le_of_ble_eq_true rfl), (Nat.le_of_ble_eq_true rfl)⟩ dX2_withDates_37 (fun _ _ z => False.elim z) (fun v9 ws9 h71 => ?_))
  obtain ⟨rfl, hw9⟩ := h71
  subst ws9
  dsimp only [mPush]
  refine r_i2lZ hX dX2_withDates_40 (hbD1 _) (r_callS hX (z_X2_addedG _ _ _ _) ks_X2_247 rfl rfl (Nat.le_of_ble_eq_true rfl) ⟨(Nat.le_of_ble_eq_true rfl), (Nat.le_of_ble_eq_true rfl)⟩ ⟨(Nat.le_of_ble_eq_true rfl), (Nat.le_of_ble_eq_true rfl)⟩ dX2_withDates_41 (fun _ _ z => False.elim z) (fun v9 ws9 h72 => ?_))
  obtain ⟨g24, hg24, rfl, hw9⟩ := h72
  subst ws9
  dsimp only [mPush]
  refine r_lstore_n hX dX2_withDates_44 rfl (by decide) rfl (r_iincZ (z := 1) (y := 11) hX dX2_withDates_45 rfl (by decide) rfl rfl (r_goto (tgt := 18) hX dX2_withDates_48 (by decide) (r_iload hX dX2_withDates_18 rfl (r_bipushZ hX dX2_withDates_20 (by decide +kernel) (r_icmp_geZ (tgt := 51) hX dX2_withDates_22 (by decide) (by decide) (by decide) (fun q => absurd q (by decide)) (fun _ => ?_))))))
  refine r_lload_n hX dX2_withDates_25 rfl rfl (r_aload_n hX dX2_withDates_26 rfl rfl (r_get hX kf_X2_20 0 rfl rfl dX2_withDates_27 (r_iload hX dX2_withDates_30 rfl (r_callS hX (z_X2_at_ok ad cs _ 3 _ 4 0 rfl (by decide) _ 1 (by first | with_reducible assumption | decide | omega) (by decide)) ks_X2_84 rfl rfl (Nat.le_of_ble_eq_true rfl) ⟨(Nat.le_of_ble_eq_true rfl), (Nat.le_of_ble_eq_true rfl)⟩ ⟨(Nat.le_of_ble_eq_true rfl), (Nat.le_of_ble_eq_true rfl)⟩ dX2_withDates_32 (fun _ _ z => False.elim z) (fun v9 ws9 h73 => ?_)))))
  obtain ⟨rfl, hw9⟩ := h73
  subst ws9
  dsimp only [mPush]
  refine r_iload hX dX2_withDates_35 rfl (r_callS hX (z_X2_datePart _ _ (1 + 5) _ _ _ _ (zWd_loc (d := 1) (by decide)) (zrg hS (by decide)) _ (by decide) hdh1) ks_X2_175 rfl rfl (Nat.le_of_ble_eq_true rfl) ⟨(Nat.le_of_ble_eq_true rfl), (Nat.le_of_ble_eq_true rfl)⟩ ⟨(Nat.le_of_ble_eq_true rfl), (Nat.le_of_ble_eq_true rfl)⟩ dX2_withDates_37 (fun _ _ z => False.elim z) (fun v9 ws9 h74 => ?_))
  obtain ⟨rfl, hw9⟩ := h74
  subst ws9
  dsimp only [mPush]
  refine r_i2lZ hX dX2_withDates_40 (hbD1 _) (r_callS hX (z_X2_addedG _ _ _ _) ks_X2_247 rfl rfl (Nat.le_of_ble_eq_true rfl) ⟨(Nat.le_of_ble_eq_true rfl), (Nat.le_of_ble_eq_true rfl)⟩ ⟨(Nat.le_of_ble_eq_true rfl), (Nat.le_of_ble_eq_true rfl)⟩ dX2_withDates_41 (fun _ _ z => False.elim z) (fun v9 ws9 h75 => ?_))
  obtain ⟨g25, hg25, rfl, hw9⟩ := h75
  subst ws9
  dsimp only [mPush]
  refine r_lstore_n hX dX2_withDates_44 rfl (by decide) rfl (r_iincZ (z := 1) (y := 12) hX dX2_withDates_45 rfl (by decide) rfl rfl (r_goto (tgt := 18) hX dX2_withDates_48 (by decide) (r_iload hX dX2_withDates_18 rfl (r_bipushZ hX dX2_withDates_20 (by decide +kernel) (r_icmp_geZ (tgt := 51) hX dX2_withDates_22 (by decide) (by decide) (by decide) (fun q => absurd q (by decide)) (fun _ => ?_))))))
  refine r_lload_n hX dX2_withDates_25 rfl rfl (r_aload_n hX dX2_withDates_26 rfl rfl (r_get hX kf_X2_20 0 rfl rfl dX2_withDates_27 (r_iload hX dX2_withDates_30 rfl (r_callS hX (z_X2_at_ok ad cs _ 3 _ 4 0 rfl (by decide) _ 1 (by first | with_reducible assumption | decide | omega) (by decide)) ks_X2_84 rfl rfl (Nat.le_of_ble_eq_true rfl) ⟨(Nat.le_of_ble_eq_true rfl), (Nat.le_of_ble_eq_true rfl)⟩ ⟨(Nat.le_of_ble_eq_true rfl), (Nat.le_of_ble_eq_true rfl)⟩ dX2_withDates_32 (fun _ _ z => False.elim z) (fun v9 ws9 h76 => ?_)))))
  obtain ⟨rfl, hw9⟩ := h76
  subst ws9
  dsimp only [mPush]
  refine r_iload hX dX2_withDates_35 rfl (r_callS hX (z_X2_datePart _ _ (1 + 5) _ _ _ _ (zWd_loc (d := 1) (by decide)) (zrg hS (by decide)) _ (by decide) hdh1) ks_X2_175 rfl rfl (Nat.le_of_ble_eq_true rfl) ⟨(Nat.le_of_ble_eq_true rfl), (Nat.le_of_ble_eq_true rfl)⟩ ⟨(Nat.le_of_ble_eq_true rfl), (Nat.le_of_ble_eq_true rfl)⟩ dX2_withDates_37 (fun _ _ z => False.elim z) (fun v9 ws9 h77 => ?_))
  obtain ⟨rfl, hw9⟩ := h77
  subst ws9
  dsimp only [mPush]
  refine r_i2lZ hX dX2_withDates_40 (hbD1 _) (r_callS hX (z_X2_addedG _ _ _ _) ks_X2_247 rfl rfl (Nat.le_of_ble_eq_true rfl) ⟨(Nat.le_of_ble_eq_true rfl), (Nat.le_of_ble_eq_true rfl)⟩ ⟨(Nat.le_of_ble_eq_true rfl), (Nat.le_of_ble_eq_true rfl)⟩ dX2_withDates_41 (fun _ _ z => False.elim z) (fun v9 ws9 h78 => ?_))
  obtain ⟨g26, hg26, rfl, hw9⟩ := h78
  subst ws9
  dsimp only [mPush]
  refine r_lstore_n hX dX2_withDates_44 rfl (by decide) rfl (r_iincZ (z := 1) (y := 13) hX dX2_withDates_45 rfl (by decide) rfl rfl (r_lc5 (i0 := 0) (i1 := 1) (i2 := 3) (i3 := 5) (i4 := 6) rfl rfl rfl rfl rfl (r_goto (tgt := 18) hX dX2_withDates_48 (by decide) (r_iload hX dX2_withDates_18 rfl (r_bipushZ hX dX2_withDates_20 (by decide +kernel) (r_icmp_geZ (tgt := 51) hX dX2_withDates_22 (by decide) (by decide) (by decide) (fun _ => ?_) (fun q => absurd (by decide) q)))))))
  refine r_iincZ (z := 1) (y := 2) hX dX2_withDates_51 rfl (by decide) rfl rfl (r_goto (tgt := 5) hX dX2_withDates_54 (by decide) (r_iload hX dX2_withDates_5 rfl (r_aload_n hX dX2_withDates_7 rfl rfl (r_get hX kf_X2_20 0 rfl rfl dX2_withDates_8 (r_alen (v := iZ 4) hX 3 2 rfl rfl rfl dX2_withDates_11 (r_icmp_geZ (tgt := 57) hX dX2_withDates_12 (by decide) (by decide) (by decide) (fun q => absurd q (by decide)) (fun _ => ?_)))))))
  refine r_iconstZ hX dX2_withDates_15 (r_istore hX dX2_withDates_16 (by decide) rfl (r_iload hX dX2_withDates_18 rfl (r_bipushZ hX dX2_withDates_20 (by decide +kernel) (r_icmp_geZ (tgt := 51) hX dX2_withDates_22 (by decide) (by decide) (by decide) (fun q => absurd q (by decide)) (fun _ => ?_)))))
  refine r_lload_n hX dX2_withDates_25 rfl rfl (r_aload_n hX dX2_withDates_26 rfl rfl (r_get hX kf_X2_20 0 rfl rfl dX2_withDates_27 (r_iload hX dX2_withDates_30 rfl (r_callS hX (z_X2_at_ok ad cs _ 3 _ 4 0 rfl (by decide) _ 2 (by first | with_reducible assumption | decide | omega) (by decide)) ks_X2_84 rfl rfl (Nat.le_of_ble_eq_true rfl) ⟨(Nat.le_of_ble_eq_true rfl), (Nat.le_of_ble_eq_true rfl)⟩ ⟨(Nat.le_of_ble_eq_true rfl), (Nat.le_of_ble_eq_true rfl)⟩ dX2_withDates_32 (fun _ _ z => False.elim z) (fun v9 ws9 h79 => ?_)))))
  obtain ⟨rfl, hw9⟩ := h79
  subst ws9
  dsimp only [mPush]
  refine r_iload hX dX2_withDates_35 rfl (r_callS hX (z_X2_datePart _ _ (2 + 5) _ _ _ _ (zWd_loc (d := 2) (by decide)) (zrg hS (by decide)) _ (by decide) hdh2) ks_X2_175 rfl rfl (Nat.le_of_ble_eq_true rfl) ⟨(Nat.le_of_ble_eq_true rfl), (Nat.le_of_ble_eq_true rfl)⟩ ⟨(Nat.le_of_ble_eq_true rfl), (Nat.le_of_ble_eq_true rfl)⟩ dX2_withDates_37 (fun _ _ z => False.elim z) (fun v9 ws9 h80 => ?_))
  obtain ⟨rfl, hw9⟩ := h80
  subst ws9
  dsimp only [mPush]
  refine r_i2lZ hX dX2_withDates_40 (hbD2 _) (r_callS hX (z_X2_addedG _ _ _ _) ks_X2_247 rfl rfl (Nat.le_of_ble_eq_true rfl) ⟨(Nat.le_of_ble_eq_true rfl), (Nat.le_of_ble_eq_true rfl)⟩ ⟨(Nat.le_of_ble_eq_true rfl), (Nat.le_of_ble_eq_true rfl)⟩ dX2_withDates_41 (fun _ _ z => False.elim z) (fun v9 ws9 h81 => ?_))
  obtain ⟨g27, hg27, rfl, hw9⟩ := h81
  subst ws9
  dsimp only [mPush]
  refine r_lstore_n hX dX2_withDates_44 rfl (by decide) rfl (r_iincZ (z := 1) (y := 1) hX dX2_withDates_45 rfl (by decide) rfl rfl (r_goto (tgt := 18) hX dX2_withDates_48 (by decide) (r_iload hX dX2_withDates_18 rfl (r_bipushZ hX dX2_withDates_20 (by decide +kernel) (r_icmp_geZ (tgt := 51) hX dX2_withDates_22 (by decide) (by decide) (by decide) (fun q => absurd q (by decide)) (fun _ => ?_))))))
  refine r_lload_n hX dX2_withDates_25 rfl rfl (r_aload_n hX dX2_withDates_26 rfl rfl (r_get hX kf_X2_20 0 rfl rfl dX2_withDates_27 (r_iload hX dX2_withDates_30 rfl (r_callS hX (z_X2_at_ok ad cs _ 3 _ 4 0 rfl (by decide) _ 2 (by first | with_reducible assumption | decide | omega) (by decide)) ks_X2_84 rfl rfl (Nat.le_of_ble_eq_true rfl) ⟨(Nat.le_of_ble_eq_true rfl), (Nat.le_of_ble_eq_true rfl)⟩ ⟨(Nat.le_of_ble_eq_true rfl), (Nat.le_of_ble_eq_true rfl)⟩ dX2_withDates_32 (fun _ _ z => False.elim z) (fun v9 ws9 h82 => ?_)))))
  obtain ⟨rfl, hw9⟩ := h82
  subst ws9
  dsimp only [mPush]
  refine r_iload hX dX2_withDates_35 rfl (r_callS hX (z_X2_datePart _ _ (2 + 5) _ _ _ _ (zWd_loc (d := 2) (by decide)) (zrg hS (by decide)) _ (by decide) hdh2) ks_X2_175 rfl rfl (Nat.le_of_ble_eq_true rfl) ⟨(Nat.le_of_ble_eq_true rfl), (Nat.le_of_ble_eq_true rfl)⟩ ⟨(Nat.le_of_ble_eq_true rfl), (Nat.le_of_ble_eq_true rfl)⟩ dX2_withDates_37 (fun _ _ z => False.elim z) (fun v9 ws9 h83 => ?_))
  obtain ⟨rfl, hw9⟩ := h83
  subst ws9
  dsimp only [mPush]
  refine r_i2lZ hX dX2_withDates_40 (hbD2 _) (r_callS hX (z_X2_addedG _ _ _ _) ks_X2_247 rfl rfl (Nat.le_of_ble_eq_true rfl) ⟨(Nat.le_of_ble_eq_true rfl), (Nat.le_of_ble_eq_true rfl)⟩ ⟨(Nat.le_of_ble_eq_true rfl), (Nat.le_of_ble_eq_true rfl)⟩ dX2_withDates_41 (fun _ _ z => False.elim z) (fun v9 ws9 h84 => ?_))
  obtain ⟨g28, hg28, rfl, hw9⟩ := h84
  subst ws9
  dsimp only [mPush]
  refine r_lstore_n hX dX2_withDates_44 rfl (by decide) rfl (r_iincZ (z := 1) (y := 2) hX dX2_withDates_45 rfl (by decide) rfl rfl (r_goto (tgt := 18) hX dX2_withDates_48 (by decide) (r_iload hX dX2_withDates_18 rfl (r_bipushZ hX dX2_withDates_20 (by decide +kernel) (r_icmp_geZ (tgt := 51) hX dX2_withDates_22 (by decide) (by decide) (by decide) (fun q => absurd q (by decide)) (fun _ => ?_))))))
  refine r_lload_n hX dX2_withDates_25 rfl rfl (r_aload_n hX dX2_withDates_26 rfl rfl (r_get hX kf_X2_20 0 rfl rfl dX2_withDates_27 (r_iload hX dX2_withDates_30 rfl (r_callS hX (z_X2_at_ok ad cs _ 3 _ 4 0 rfl (by decide) _ 2 (by first | with_reducible assumption | decide | omega) (by decide)) ks_X2_84 rfl rfl (Nat.le_of_ble_eq_true rfl) ⟨(Nat.le_of_ble_eq_true rfl), (Nat.le_of_ble_eq_true rfl)⟩ ⟨(Nat.le_of_ble_eq_true rfl), (Nat.le_of_ble_eq_true rfl)⟩ dX2_withDates_32 (fun _ _ z => False.elim z) (fun v9 ws9 h85 => ?_)))))
  obtain ⟨rfl, hw9⟩ := h85
  subst ws9
  dsimp only [mPush]
  refine r_iload hX dX2_withDates_35 rfl (r_callS hX (z_X2_datePart _ _ (2 + 5) _ _ _ _ (zWd_loc (d := 2) (by decide)) (zrg hS (by decide)) _ (by decide) hdh2) ks_X2_175 rfl rfl (Nat.le_of_ble_eq_true rfl) ⟨(Nat.le_of_ble_eq_true rfl), (Nat.le_of_ble_eq_true rfl)⟩ ⟨(Nat.le_of_ble_eq_true rfl), (Nat.le_of_ble_eq_true rfl)⟩ dX2_withDates_37 (fun _ _ z => False.elim z) (fun v9 ws9 h86 => ?_))
  obtain ⟨rfl, hw9⟩ := h86
  subst ws9
  dsimp only [mPush]
  refine r_i2lZ hX dX2_withDates_40 (hbD2 _) (r_callS hX (z_X2_addedG _ _ _ _) ks_X2_247 rfl rfl (Nat.le_of_ble_eq_true rfl) ⟨(Nat.le_of_ble_eq_true rfl), (Nat.le_of_ble_eq_true rfl)⟩ ⟨(Nat.le_of_ble_eq_true rfl), (Nat.le_of_ble_eq_true rfl)⟩ dX2_withDates_41 (fun _ _ z => False.elim z) (fun v9 ws9 h87 => ?_))
  obtain ⟨g29, hg29, rfl, hw9⟩ := h87
  subst ws9
  dsimp only [mPush]
  refine r_lstore_n hX dX2_withDates_44 rfl (by decide) rfl (r_iincZ (z := 1) (y := 3) hX dX2_withDates_45 rfl (by decide) rfl rfl (r_goto (tgt := 18) hX dX2_withDates_48 (by decide) (r_iload hX dX2_withDates_18 rfl (r_bipushZ hX dX2_withDates_20 (by decide +kernel) (r_icmp_geZ (tgt := 51) hX dX2_withDates_22 (by decide) (by decide) (by decide) (fun q => absurd q (by decide)) (fun _ => ?_))))))
  refine r_lload_n hX dX2_withDates_25 rfl rfl (r_aload_n hX dX2_withDates_26 rfl rfl (r_get hX kf_X2_20 0 rfl rfl dX2_withDates_27 (r_iload hX dX2_withDates_30 rfl (r_callS hX (z_X2_at_ok ad cs _ 3 _ 4 0 rfl (by decide) _ 2 (by first | with_reducible assumption | decide | omega) (by decide)) ks_X2_84 rfl rfl (Nat.le_of_ble_eq_true rfl) ⟨(Nat.le_of_ble_eq_true rfl), (Nat.le_of_ble_eq_true rfl)⟩ ⟨(Nat.le_of_ble_eq_true rfl), (Nat.le_of_ble_eq_true rfl)⟩ dX2_withDates_32 (fun _ _ z => False.elim z) (fun v9 ws9 h88 => ?_)))))
  obtain ⟨rfl, hw9⟩ := h88
  subst ws9
  dsimp only [mPush]
  refine r_iload hX dX2_withDates_35 rfl (r_callS hX (z_X2_datePart _ _ (2 + 5) _ _ _ _ (zWd_loc (d := 2) (by decide)) (zrg hS (by decide)) _ (by decide) hdh2) ks_X2_175 rfl rfl (Nat.le_of_ble_eq_true rfl) ⟨(Nat.le_of_ble_eq_true rfl), (Nat.le_of_ble_eq_true rfl)⟩ ⟨(Nat.le_of_ble_eq_true rfl), (Nat.le_of_ble_eq_true rfl)⟩ dX2_withDates_37 (fun _ _ z => False.elim z) (fun v9 ws9 h89 => ?_))
  obtain ⟨rfl, hw9⟩ := h89
  subst ws9
  dsimp only [mPush]
  refine r_i2lZ hX dX2_withDates_40 (hbD2 _) (r_callS hX (z_X2_addedG _ _ _ _) ks_X2_247 rfl rfl (Nat.le_of_ble_eq_true rfl) ⟨(Nat.le_of_ble_eq_true rfl), (Nat.le_of_ble_eq_true rfl)⟩ ⟨(Nat.le_of_ble_eq_true rfl), (Nat.le_of_ble_eq_true rfl)⟩ dX2_withDates_41 (fun _ _ z => False.elim z) (fun v9 ws9 h90 => ?_))
  obtain ⟨g30, hg30, rfl, hw9⟩ := h90
  subst ws9
  dsimp only [mPush]
  refine r_lstore_n hX dX2_withDates_44 rfl (by decide) rfl (r_lc5 (i0 := 0) (i1 := 1) (i2 := 3) (i3 := 5) (i4 := 6) rfl rfl rfl rfl rfl (r_iincZ (z := 1) (y := 4) hX dX2_withDates_45 rfl (by decide) rfl rfl (r_goto (tgt := 18) hX dX2_withDates_48 (by decide) (r_iload hX dX2_withDates_18 rfl (r_bipushZ hX dX2_withDates_20 (by decide +kernel) (r_icmp_geZ (tgt := 51) hX dX2_withDates_22 (by decide) (by decide) (by decide) (fun q => absurd q (by decide)) (fun _ => ?_)))))))
  refine r_lload_n hX dX2_withDates_25 rfl rfl (r_aload_n hX dX2_withDates_26 rfl rfl (r_get hX kf_X2_20 0 rfl rfl dX2_withDates_27 (r_iload hX dX2_withDates_30 rfl (r_callS hX (z_X2_at_ok ad cs _ 3 _ 4 0 rfl (by decide) _ 2 (by first | with_reducible assumption | decide | omega) (by decide)) ks_X2_84 rfl rfl (Nat.le_of_ble_eq_true rfl) ⟨(Nat.le_of_ble_eq_true rfl), (Nat.le_of_ble_eq_true rfl)⟩ ⟨(Nat.le_of_ble_eq_true rfl), (Nat.le_of_ble_eq_true rfl)⟩ dX2_withDates_32 (fun _ _ z => False.elim z) (fun v9 ws9 h91 => ?_)))))
  obtain ⟨rfl, hw9⟩ := h91
  subst ws9
  dsimp only [mPush]
  refine r_iload hX dX2_withDates_35 rfl (r_callS hX (z_X2_datePart _ _ (2 + 5) _ _ _ _ (zWd_loc (d := 2) (by decide)) (zrg hS (by decide)) _ (by decide) hdh2) ks_X2_175 rfl rfl (Nat.le_of_ble_eq_true rfl) ⟨(Nat.le_of_ble_eq_true rfl), (Nat.le_of_ble_eq_true rfl)⟩ ⟨(Nat.le_of_ble_eq_true rfl), (Nat.le_of_ble_eq_true rfl)⟩ dX2_withDates_37 (fun _ _ z => False.elim z) (fun v9 ws9 h92 => ?_))
  obtain ⟨rfl, hw9⟩ := h92
  subst ws9
  dsimp only [mPush]
  refine r_i2lZ hX dX2_withDates_40 (hbD2 _) (r_callS hX (z_X2_addedG _ _ _ _) ks_X2_247 rfl rfl (Nat.le_of_ble_eq_true rfl) ⟨(Nat.le_of_ble_eq_true rfl), (Nat.le_of_ble_eq_true rfl)⟩ ⟨(Nat.le_of_ble_eq_true rfl), (Nat.le_of_ble_eq_true rfl)⟩ dX2_withDates_41 (fun _ _ z => False.elim z) (fun v9 ws9 h93 => ?_))
  obtain ⟨g31, hg31, rfl, hw9⟩ := h93
  subst ws9
  dsimp only [mPush]
  refine r_lstore_n hX dX2_withDates_44 rfl (by decide) rfl (r_iincZ (z := 1) (y := 5) hX dX2_withDates_45 rfl (by decide) rfl rfl (r_goto (tgt := 18) hX dX2_withDates_48 (by decide) (r_iload hX dX2_withDates_18 rfl (r_bipushZ hX dX2_withDates_20 (by decide +kernel) (r_icmp_geZ (tgt := 51) hX dX2_withDates_22 (by decide) (by decide) (by decide) (fun q => absurd q (by decide)) (fun _ => ?_))))))
  refine r_lload_n hX dX2_withDates_25 rfl rfl (r_aload_n hX dX2_withDates_26 rfl rfl (r_get hX kf_X2_20 0 rfl rfl dX2_withDates_27 (r_iload hX dX2_withDates_30 rfl (r_callS hX (z_X2_at_ok ad cs _ 3 _ 4 0 rfl (by decide) _ 2 (by first | with_reducible assumption | decide | omega) (by decide)) ks_X2_84 rfl rfl (Nat.le_of_ble_eq_true rfl) ⟨(Nat.le_of_ble_eq_true rfl), (Nat.le_of_ble_eq_true rfl)⟩ ⟨(Nat.le_of_ble_eq_true rfl), (Nat.le_of_ble_eq_true rfl)⟩ dX2_withDates_32 (fun _ _ z => False.elim z) (fun v9 ws9 h94 => ?_)))))
  obtain ⟨rfl, hw9⟩ := h94
  subst ws9
  dsimp only [mPush]
  refine r_iload hX dX2_withDates_35 rfl (r_callS hX (z_X2_datePart _ _ (2 + 5) _ _ _ _ (zWd_loc (d := 2) (by decide)) (zrg hS (by decide)) _ (by decide) hdh2) ks_X2_175 rfl rfl (Nat.le_of_ble_eq_true rfl) ⟨(Nat.le_of_ble_eq_true rfl), (Nat.le_of_ble_eq_true rfl)⟩ ⟨(Nat.le_of_ble_eq_true rfl), (Nat.le_of_ble_eq_true rfl)⟩ dX2_withDates_37 (fun _ _ z => False.elim z) (fun v9 ws9 h95 => ?_))
  obtain ⟨rfl, hw9⟩ := h95
  subst ws9
  dsimp only [mPush]
  refine r_i2lZ hX dX2_withDates_40 (hbD2 _) (r_callS hX (z_X2_addedG _ _ _ _) ks_X2_247 rfl rfl (Nat.le_of_ble_eq_true rfl) ⟨(Nat.le_of_ble_eq_true rfl), (Nat.le_of_ble_eq_true rfl)⟩ ⟨(Nat.le_of_ble_eq_true rfl), (Nat.le_of_ble_eq_true rfl)⟩ dX2_withDates_41 (fun _ _ z => False.elim z) (fun v9 ws9 h96 => ?_))
  obtain ⟨g32, hg32, rfl, hw9⟩ := h96
  subst ws9
  dsimp only [mPush]
  refine r_lstore_n hX dX2_withDates_44 rfl (by decide) rfl (r_iincZ (z := 1) (y := 6) hX dX2_withDates_45 rfl (by decide) rfl rfl (r_goto (tgt := 18) hX dX2_withDates_48 (by decide) (r_iload hX dX2_withDates_18 rfl (r_bipushZ hX dX2_withDates_20 (by decide +kernel) (r_icmp_geZ (tgt := 51) hX dX2_withDates_22 (by decide) (by decide) (by decide) (fun q => absurd q (by decide)) (fun _ => ?_))))))
  refine r_lload_n hX dX2_withDates_25 rfl rfl (r_aload_n hX dX2_withDates_26 rfl rfl (r_get hX kf_X2_20 0 rfl rfl dX2_withDates_27 (r_iload hX dX2_withDates_30 rfl (r_callS hX (z_X2_at_ok ad cs _ 3 _ 4 0 rfl (by decide) _ 2 (by first | with_reducible assumption | decide | omega) (by decide)) ks_X2_84 rfl rfl (Nat.le_of_ble_eq_true rfl) ⟨(Nat.le_of_ble_eq_true rfl), (Nat.le_of_ble_eq_true rfl)⟩ ⟨(Nat.le_of_ble_eq_true rfl), (Nat.le_of_ble_eq_true rfl)⟩ dX2_withDates_32 (fun _ _ z => False.elim z) (fun v9 ws9 h97 => ?_)))))
  obtain ⟨rfl, hw9⟩ := h97
  subst ws9
  dsimp only [mPush]
  refine r_iload hX dX2_withDates_35 rfl (r_callS hX (z_X2_datePart _ _ (2 + 5) _ _ _ _ (zWd_loc (d := 2) (by decide)) (zrg hS (by decide)) _ (by decide) hdh2) ks_X2_175 rfl rfl (Nat.le_of_ble_eq_true rfl) ⟨(Nat.le_of_ble_eq_true rfl), (Nat.le_of_ble_eq_true rfl)⟩ ⟨(Nat.le_of_ble_eq_true rfl), (Nat.le_of_ble_eq_true rfl)⟩ dX2_withDates_37 (fun _ _ z => False.elim z) (fun v9 ws9 h98 => ?_))
  obtain ⟨rfl, hw9⟩ := h98
  subst ws9
  dsimp only [mPush]
  refine r_i2lZ hX dX2_withDates_40 (hbD2 _) (r_callS hX (z_X2_addedG _ _ _ _) ks_X2_247 rfl rfl (Nat.le_of_ble_eq_true rfl) ⟨(Nat.le_of_ble_eq_true rfl), (Nat.le_of_ble_eq_true rfl)⟩ ⟨(Nat.le_of_ble_eq_true rfl), (Nat.le_of_ble_eq_true rfl)⟩ dX2_withDates_41 (fun _ _ z => False.elim z) (fun v9 ws9 h99 => ?_))
  obtain ⟨g33, hg33, rfl, hw9⟩ := h99
  subst ws9
  dsimp only [mPush]
  refine r_lstore_n hX dX2_withDates_44 rfl (by decide) rfl (r_iincZ (z := 1) (y := 7) hX dX2_withDates_45 rfl (by decide) rfl rfl (r_goto (tgt := 18) hX dX2_withDates_48 (by decide) (r_iload hX dX2_withDates_18 rfl (r_bipushZ hX dX2_withDates_20 (by decide +kernel) (r_icmp_geZ (tgt := 51) hX dX2_withDates_22 (by decide) (by decide) (by decide) (fun q => absurd q (by decide)) (fun _ => ?_))))))
  refine r_lload_n hX dX2_withDates_25 rfl rfl (r_aload_n hX dX2_withDates_26 rfl rfl (r_get hX kf_X2_20 0 rfl rfl dX2_withDates_27 (r_iload hX dX2_withDates_30 rfl (r_callS hX (z_X2_at_ok ad cs _ 3 _ 4 0 rfl (by decide) _ 2 (by first | with_reducible assumption | decide | omega) (by decide)) ks_X2_84 rfl rfl (Nat.le_of_ble_eq_true rfl) ⟨(Nat.le_of_ble_eq_true rfl), (Nat.le_of_ble_eq_true rfl)⟩ ⟨(Nat.le_of_ble_eq_true rfl), (Nat.le_of_ble_eq_true rfl)⟩ dX2_withDates_32 (fun _ _ z => False.elim z) (fun v9 ws9 h100 => ?_)))))
  obtain ⟨rfl, hw9⟩ := h100
  subst ws9
  dsimp only [mPush]
  refine r_iload hX dX2_withDates_35 rfl (r_callS hX (z_X2_datePart _ _ (2 + 5) _ _ _ _ (zWd_loc (d := 2) (by decide)) (zrg hS (by decide)) _ (by decide) hdh2) ks_X2_175 rfl rfl (Nat.le_of_ble_eq_true rfl) ⟨(Nat.le_of_ble_eq_true rfl), (Nat.le_of_ble_eq_true rfl)⟩ ⟨(Nat.le_of_ble_eq_true rfl), (Nat.le_of_ble_eq_true rfl)⟩ dX2_withDates_37 (fun _ _ z => False.elim z) (fun v9 ws9 h101 => ?_))
  obtain ⟨rfl, hw9⟩ := h101
  subst ws9
  dsimp only [mPush]
  refine r_i2lZ hX dX2_withDates_40 (hbD2 _) (r_callS hX (z_X2_addedG _ _ _ _) ks_X2_247 rfl rfl (Nat.le_of_ble_eq_true rfl) ⟨(Nat.le_of_ble_eq_true rfl), (Nat.le_of_ble_eq_true rfl)⟩ ⟨(Nat.le_of_ble_eq_true rfl), (Nat.le_of_ble_eq_true rfl)⟩ dX2_withDates_41 (fun _ _ z => False.elim z) (fun v9 ws9 h102 => ?_))
  obtain ⟨g34, hg34, rfl, hw9⟩ := h102
  subst ws9
  dsimp only [mPush]
  refine r_lstore_n hX dX2_withDates_44 rfl (by decide) rfl (r_lc5 (i0 := 0) (i1 := 1) (i2 := 3) (i3 := 5) (i4 := 6) rfl rfl rfl rfl rfl (r_iincZ (z := 1) (y := 8) hX dX2_withDates_45 rfl (by decide) rfl rfl (r_goto (tgt := 18) hX dX2_withDates_48 (by decide) (r_iload hX dX2_withDates_18 rfl (r_bipushZ hX dX2_withDates_20 (by decide +kernel) (r_icmp_geZ (tgt := 51) hX dX2_withDates_22 (by decide) (by decide) (by decide) (fun q => absurd q (by decide)) (fun _ => ?_)))))))
  refine r_lload_n hX dX2_withDates_25 rfl rfl (r_aload_n hX dX2_withDates_26 rfl rfl (r_get hX kf_X2_20 0 rfl rfl dX2_withDates_27 (r_iload hX dX2_withDates_30 rfl (r_callS hX (z_X2_at_ok ad cs _ 3 _ 4 0 rfl (by decide) _ 2 (by first | with_reducible assumption | decide | omega) (by decide)) ks_X2_84 rfl rfl (Nat.le_of_ble_eq_true rfl) ⟨(Nat.le_of_ble_eq_true rfl), (Nat.le_of_ble_eq_true rfl)⟩ ⟨(Nat.le_of_ble_eq_true rfl), (Nat.le_of_ble_eq_true rfl)⟩ dX2_withDates_32 (fun _ _ z => False.elim z) (fun v9 ws9 h103 => ?_)))))
  obtain ⟨rfl, hw9⟩ := h103
  subst ws9
  dsimp only [mPush]
  refine r_iload hX dX2_withDates_35 rfl (r_callS hX (z_X2_datePart _ _ (2 + 5) _ _ _ _ (zWd_loc (d := 2) (by decide)) (zrg hS (by decide)) _ (by decide) hdh2) ks_X2_175 rfl rfl (Nat.le_of_ble_eq_true rfl) ⟨(Nat.le_of_ble_eq_true rfl), (Nat.le_of_ble_eq_true rfl)⟩ ⟨(Nat.le_of_ble_eq_true rfl), (Nat.le_of_ble_eq_true rfl)⟩ dX2_withDates_37 (fun _ _ z => False.elim z) (fun v9 ws9 h104 => ?_))
  obtain ⟨rfl, hw9⟩ := h104
  subst ws9
  dsimp only [mPush]
  refine r_i2lZ hX dX2_withDates_40 (hbD2 _) (r_callS hX (z_X2_addedG _ _ _ _) ks_X2_247 rfl rfl (Nat.le_of_ble_eq_true rfl) ⟨(Nat.le_of_ble_eq_true rfl), (Nat.le_of_ble_eq_true rfl)⟩ ⟨(Nat.le_of_ble_eq_true rfl), (Nat.le_of_ble_eq_true rfl)⟩ dX2_withDates_41 (fun _ _ z => False.elim z) (fun v9 ws9 h105 => ?_))
  obtain ⟨g35, hg35, rfl, hw9⟩ := h105
  subst ws9
  dsimp only [mPush]
  refine r_lstore_n hX dX2_withDates_44 rfl (by decide) rfl (r_iincZ (z := 1) (y := 9) hX dX2_withDates_45 rfl (by decide) rfl rfl (r_goto (tgt := 18) hX dX2_withDates_48 (by decide) (r_iload hX dX2_withDates_18 rfl (r_bipushZ hX dX2_withDates_20 (by decide +kernel) (r_icmp_geZ (tgt := 51) hX dX2_withDates_22 (by decide) (by decide) (by decide) (fun q => absurd q (by decide)) (fun _ => ?_))))))
  refine r_lload_n hX dX2_withDates_25 rfl rfl (r_aload_n hX dX2_withDates_26 rfl rfl (r_get hX kf_X2_20 0 rfl rfl dX2_withDates_27 (r_iload hX dX2_withDates_30 rfl (r_callS hX (z_X2_at_ok ad cs _ 3 _ 4 0 rfl (by decide) _ 2 (by first | with_reducible assumption | decide | omega) (by decide)) ks_X2_84 rfl rfl (Nat.le_of_ble_eq_true rfl) ⟨(Nat.le_of_ble_eq_true rfl), (Nat.le_of_ble_eq_true rfl)⟩ ⟨(Nat.le_of_ble_eq_true rfl), (Nat.le_of_ble_eq_true rfl)⟩ dX2_withDates_32 (fun _ _ z => False.elim z) (fun v9 ws9 h106 => ?_)))))
  obtain ⟨rfl, hw9⟩ := h106
  subst ws9
  dsimp only [mPush]
  refine r_iload hX dX2_withDates_35 rfl (r_callS hX (z_X2_datePart _ _ (2 + 5) _ _ _ _ (zWd_loc (d := 2) (by decide)) (zrg hS (by decide)) _ (by decide) hdh2) ks_X2_175 rfl rfl (Nat.le_of_ble_eq_true rfl) ⟨(Nat.le_of_ble_eq_true rfl), (Nat.le_of_ble_eq_true rfl)⟩ ⟨(Nat.le_of_ble_eq_true rfl), (Nat.le_of_ble_eq_true rfl)⟩ dX2_withDates_37 (fun _ _ z => False.elim z) (fun v9 ws9 h107 => ?_))
  obtain ⟨rfl, hw9⟩ := h107
  subst ws9
  dsimp only [mPush]
  refine r_i2lZ hX dX2_withDates_40 (hbD2 _) (r_callS hX (z_X2_addedG _ _ _ _) ks_X2_247 rfl rfl (Nat.le_of_ble_eq_true rfl) ⟨(Nat.le_of_ble_eq_true rfl), (Nat.le_of_ble_eq_true rfl)⟩ ⟨(Nat.le_of_ble_eq_true rfl), (Nat.le_of_ble_eq_true rfl)⟩ dX2_withDates_41 (fun _ _ z => False.elim z) (fun v9 ws9 h108 => ?_))
  obtain ⟨g36, hg36, rfl, hw9⟩ := h108
  subst ws9
  dsimp only [mPush]
  refine r_lstore_n hX dX2_withDates_44 rfl (by decide) rfl (r_iincZ (z := 1) (y := 10) hX dX2_withDates_45 rfl (by decide) rfl rfl (r_goto (tgt := 18) hX dX2_withDates_48 (by decide) (r_iload hX dX2_withDates_18 rfl (r_bipushZ hX dX2_withDates_20 (by decide +kernel) (r_icmp_geZ (tgt := 51) hX dX2_withDates_22 (by decide) (by decide) (by decide) (fun q => absurd q (by decide)) (fun _ => ?_))))))
  refine r_lload_n hX dX2_withDates_25 rfl rfl (r_aload_n hX dX2_withDates_26 rfl rfl (r_get hX kf_X2_20 0 rfl rfl dX2_withDates_27 (r_iload hX dX2_withDates_30 rfl (r_callS hX (z_X2_at_ok ad cs _ 3 _ 4 0 rfl (by decide) _ 2 (by first | with_reducible assumption | decide | omega) (by decide)) ks_X2_84 rfl rfl (Nat.le_of_ble_eq_true rfl) ⟨(Nat.le_of_ble_eq_true rfl), (Nat.le_of_ble_eq_true rfl)⟩ ⟨(Nat.le_of_ble_eq_true rfl), (Nat.le_of_ble_eq_true rfl)⟩ dX2_withDates_32 (fun _ _ z => False.elim z) (fun v9 ws9 h109 => ?_)))))
  obtain ⟨rfl, hw9⟩ := h109
  subst ws9
  dsimp only [mPush]
  refine r_iload hX dX2_withDates_35 rfl (r_callS hX (z_X2_datePart _ _ (2 + 5) _ _ _ _ (zWd_loc (d := 2) (by decide)) (zrg hS (by decide)) _ (by decide) hdh2) ks_X2_175 rfl rfl (Nat.le_of_ble_eq_true rfl) ⟨(Nat.le_of_ble_eq_true rfl), (Nat.le_of_ble_eq_true rfl)⟩ ⟨(Nat.le_of_ble_eq_true rfl), (Nat.le_of_ble_eq_true rfl)⟩ dX2_withDates_37 (fun _ _ z => False.elim z) (fun v9 ws9 h110 => ?_))
  obtain ⟨rfl, hw9⟩ := h110
  subst ws9
  dsimp only [mPush]
  refine r_i2lZ hX dX2_withDates_40 (hbD2 _) (r_callS hX (z_X2_addedG _ _ _ _) ks_X2_247 rfl rfl (Nat.le_of_ble_eq_true rfl) ⟨(Nat.le_of_ble_eq_true rfl), (Nat.le_of_ble_eq_true rfl)⟩ ⟨(Nat.le_of_ble_eq_true rfl), (Nat.le_of_ble_eq_true rfl)⟩ dX2_withDates_41 (fun _ _ z => False.elim z) (fun v9 ws9 h111 => ?_))
  obtain ⟨g37, hg37, rfl, hw9⟩ := h111
  subst ws9
  dsimp only [mPush]
  refine r_lstore_n hX dX2_withDates_44 rfl (by decide) rfl (r_iincZ (z := 1) (y := 11) hX dX2_withDates_45 rfl (by decide) rfl rfl (r_goto (tgt := 18) hX dX2_withDates_48 (by decide) (r_iload hX dX2_withDates_18 rfl (r_bipushZ hX dX2_withDates_20 (by decide +kernel) (r_icmp_geZ (tgt := 51) hX dX2_withDates_22 (by decide) (by decide) (by decide) (fun q => absurd q (by decide)) (fun _ => ?_))))))
  refine r_lload_n hX dX2_withDates_25 rfl rfl (r_aload_n hX dX2_withDates_26 rfl rfl (r_get hX kf_X2_20 0 rfl rfl dX2_withDates_27 (r_iload hX dX2_withDates_30 rfl (r_callS hX (z_X2_at_ok ad cs _ 3 _ 4 0 rfl (by decide) _ 2 (by first | with_reducible assumption | decide | omega) (by decide)) ks_X2_84 rfl rfl (Nat.le_of_ble_eq_true rfl) ⟨(Nat.le_of_ble_eq_true rfl), (Nat.le_of_ble_eq_true rfl)⟩ ⟨(Nat.le_of_ble_eq_true rfl), (Nat.le_of_ble_eq_true rfl)⟩ dX2_withDates_32 (fun _ _ z => False.elim z) (fun v9 ws9 h112 => ?_)))))
  obtain ⟨rfl, hw9⟩ := h112
  subst ws9
  dsimp only [mPush]
  refine r_iload hX dX2_withDates_35 rfl (r_callS hX (z_X2_datePart _ _ (2 + 5) _ _ _ _ (zWd_loc (d := 2) (by decide)) (zrg hS (by decide)) _ (by decide) hdh2) ks_X2_175 rfl rfl (Nat.le_of_ble_eq_true rfl) ⟨(Nat.le_of_ble_eq_true rfl), (Nat.le_of_ble_eq_true rfl)⟩ ⟨(Nat.le_of_ble_eq_true rfl), (Nat.le_of_ble_eq_true rfl)⟩ dX2_withDates_37 (fun _ _ z => False.elim z) (fun v9 ws9 h113 => ?_))
  obtain ⟨rfl, hw9⟩ := h113
  subst ws9
  dsimp only [mPush]
  refine r_i2lZ hX dX2_withDates_40 (hbD2 _) (r_callS hX (z_X2_addedG _ _ _ _) ks_X2_247 rfl rfl (Nat.le_of_ble_eq_true rfl) ⟨(Nat.le_of_ble_eq_true rfl), (Nat.le_of_ble_eq_true rfl)⟩ ⟨(Nat.le_of_ble_eq_true rfl), (Nat.le_of_ble_eq_true rfl)⟩ dX2_withDates_41 (fun _ _ z => False.elim z) (fun v9 ws9 h114 => ?_))
  obtain ⟨g38, hg38, rfl, hw9⟩ := h114
  subst ws9
  dsimp only [mPush]
  refine r_lstore_n hX dX2_withDates_44 rfl (by decide) rfl (r_lc5 (i0 := 0) (i1 := 1) (i2 := 3) (i3 := 5) (i4 := 6) rfl rfl rfl rfl rfl (r_iincZ (z := 1) (y := 12) hX dX2_withDates_45 rfl (by decide) rfl rfl (r_goto (tgt := 18) hX dX2_withDates_48 (by decide) (r_iload hX dX2_withDates_18 rfl (r_bipushZ hX dX2_withDates_20 (by decide +kernel) (r_icmp_geZ (tgt := 51) hX dX2_withDates_22 (by decide) (by decide) (by decide) (fun q => absurd q (by decide)) (fun _ => ?_)))))))
  refine r_lload_n hX dX2_withDates_25 rfl rfl (r_aload_n hX dX2_withDates_26 rfl rfl (r_get hX kf_X2_20 0 rfl rfl dX2_withDates_27 (r_iload hX dX2_withDates_30 rfl (r_callS hX (z_X2_at_ok ad cs _ 3 _ 4 0 rfl (by decide) _ 2 (by first | with_reducible assumption | decide | omega) (by decide)) ks_X2_84 rfl rfl (Nat.le_of_ble_eq_true rfl) ⟨(Nat.le_of_ble_eq_true rfl), (Nat.le_of_ble_eq_true rfl)⟩ ⟨(Nat.le_of_ble_eq_true rfl), (Nat.le_of_ble_eq_true rfl)⟩ dX2_withDates_32 (fun _ _ z => False.elim z) (fun v9 ws9 h115 => ?_)))))
  obtain ⟨rfl, hw9⟩ := h115
  subst ws9
  dsimp only [mPush]
  refine r_iload hX dX2_withDates_35 rfl (r_callS hX (z_X2_datePart _ _ (2 + 5) _ _ _ _ (zWd_loc (d := 2) (by decide)) (zrg hS (by decide)) _ (by decide) hdh2) ks_X2_175 rfl rfl (Nat.le_of_ble_eq_true rfl) ⟨(Nat.le_of_ble_eq_true rfl), (Nat.le_of_ble_eq_true rfl)⟩ ⟨(Nat.le_of_ble_eq_true rfl), (Nat.le_of_ble_eq_true rfl)⟩ dX2_withDates_37 (fun _ _ z => False.elim z) (fun v9 ws9 h116 => ?_))
  obtain ⟨rfl, hw9⟩ := h116
  subst ws9
  dsimp only [mPush]
  refine r_i2lZ hX dX2_withDates_40 (hbD2 _) (r_callS hX (z_X2_addedG _ _ _ _) ks_X2_247 rfl rfl (Nat.le_of_ble_eq_true rfl) ⟨(Nat.le_of_ble_eq_true rfl), (Nat.le_of_ble_eq_true rfl)⟩ ⟨(Nat.le_of_ble_eq_true rfl), (Nat.le_of_ble_eq_true rfl)⟩ dX2_withDates_41 (fun _ _ z => False.elim z) (fun v9 ws9 h117 => ?_))
  obtain ⟨g39, hg39, rfl, hw9⟩ := h117
  subst ws9
  dsimp only [mPush]
  refine r_lstore_n hX dX2_withDates_44 rfl (by decide) rfl (r_iincZ (z := 1) (y := 13) hX dX2_withDates_45 rfl (by decide) rfl rfl (r_goto (tgt := 18) hX dX2_withDates_48 (by decide) (r_iload hX dX2_withDates_18 rfl (r_bipushZ hX dX2_withDates_20 (by decide +kernel) (r_icmp_geZ (tgt := 51) hX dX2_withDates_22 (by decide) (by decide) (by decide) (fun _ => ?_) (fun q => absurd (by decide) q))))))
  refine r_iincZ (z := 1) (y := 3) hX dX2_withDates_51 rfl (by decide) rfl rfl (r_goto (tgt := 5) hX dX2_withDates_54 (by decide) (r_iload hX dX2_withDates_5 rfl (r_aload_n hX dX2_withDates_7 rfl rfl (r_get hX kf_X2_20 0 rfl rfl dX2_withDates_8 (r_alen (v := iZ 4) hX 3 2 rfl rfl rfl dX2_withDates_11 (r_icmp_geZ (tgt := 57) hX dX2_withDates_12 (by decide) (by decide) (by decide) (fun q => absurd q (by decide)) (fun _ => ?_)))))))
  refine r_iconstZ hX dX2_withDates_15 (r_istore hX dX2_withDates_16 (by decide) rfl (r_iload hX dX2_withDates_18 rfl (r_bipushZ hX dX2_withDates_20 (by decide +kernel) (r_icmp_geZ (tgt := 51) hX dX2_withDates_22 (by decide) (by decide) (by decide) (fun q => absurd q (by decide)) (fun _ => ?_)))))
  refine r_lload_n hX dX2_withDates_25 rfl rfl (r_aload_n hX dX2_withDates_26 rfl rfl (r_get hX kf_X2_20 0 rfl rfl dX2_withDates_27 (r_iload hX dX2_withDates_30 rfl (r_callS hX (z_X2_at_ok ad cs _ 3 _ 4 0 rfl (by decide) _ 3 (by first | with_reducible assumption | decide | omega) (by decide)) ks_X2_84 rfl rfl (Nat.le_of_ble_eq_true rfl) ⟨(Nat.le_of_ble_eq_true rfl), (Nat.le_of_ble_eq_true rfl)⟩ ⟨(Nat.le_of_ble_eq_true rfl), (Nat.le_of_ble_eq_true rfl)⟩ dX2_withDates_32 (fun _ _ z => False.elim z) (fun v9 ws9 h118 => ?_)))))
  obtain ⟨rfl, hw9⟩ := h118
  subst ws9
  dsimp only [mPush]
  refine r_iload hX dX2_withDates_35 rfl (r_callS hX (z_X2_datePart _ _ (3 + 5) _ _ _ _ (zWd_loc (d := 3) (by decide)) (zrg hS (by decide)) _ (by decide) hdh3) ks_X2_175 rfl rfl (Nat.le_of_ble_eq_true rfl) ⟨(Nat.le_of_ble_eq_true rfl), (Nat.le_of_ble_eq_true rfl)⟩ ⟨(Nat.le_of_ble_eq_true rfl), (Nat.le_of_ble_eq_true rfl)⟩ dX2_withDates_37 (fun _ _ z => False.elim z) (fun v9 ws9 h119 => ?_))
  obtain ⟨rfl, hw9⟩ := h119
  subst ws9
  dsimp only [mPush]
  refine r_i2lZ hX dX2_withDates_40 (hbD3 _) (r_callS hX (z_X2_addedG _ _ _ _) ks_X2_247 rfl rfl (Nat.le_of_ble_eq_true rfl) ⟨(Nat.le_of_ble_eq_true rfl), (Nat.le_of_ble_eq_true rfl)⟩ ⟨(Nat.le_of_ble_eq_true rfl), (Nat.le_of_ble_eq_true rfl)⟩ dX2_withDates_41 (fun _ _ z => False.elim z) (fun v9 ws9 h120 => ?_))
  obtain ⟨g40, hg40, rfl, hw9⟩ := h120
  subst ws9
  dsimp only [mPush]
  refine r_lstore_n hX dX2_withDates_44 rfl (by decide) rfl (r_iincZ (z := 1) (y := 1) hX dX2_withDates_45 rfl (by decide) rfl rfl (r_goto (tgt := 18) hX dX2_withDates_48 (by decide) (r_iload hX dX2_withDates_18 rfl (r_bipushZ hX dX2_withDates_20 (by decide +kernel) (r_icmp_geZ (tgt := 51) hX dX2_withDates_22 (by decide) (by decide) (by decide) (fun q => absurd q (by decide)) (fun _ => ?_))))))
  refine r_lload_n hX dX2_withDates_25 rfl rfl (r_aload_n hX dX2_withDates_26 rfl rfl (r_get hX kf_X2_20 0 rfl rfl dX2_withDates_27 (r_iload hX dX2_withDates_30 rfl (r_callS hX (z_X2_at_ok ad cs _ 3 _ 4 0 rfl (by decide) _ 3 (by first | with_reducible assumption | decide | omega) (by decide)) ks_X2_84 rfl rfl (Nat.le_of_ble_eq_true rfl) ⟨(Nat.le_of_ble_eq_true rfl), (Nat.le_of_ble_eq_true rfl)⟩ ⟨(Nat.le_of_ble_eq_true rfl), (Nat.le_of_ble_eq_true rfl)⟩ dX2_withDates_32 (fun _ _ z => False.elim z) (fun v9 ws9 h121 => ?_)))))
  obtain ⟨rfl, hw9⟩ := h121
  subst ws9
  dsimp only [mPush]
  refine r_iload hX dX2_withDates_35 rfl (r_callS hX (z_X2_datePart _ _ (3 + 5) _ _ _ _ (zWd_loc (d := 3) (by decide)) (zrg hS (by decide)) _ (by decide) hdh3) ks_X2_175 rfl rfl (Nat.le_of_ble_eq_true rfl) ⟨(Nat.le_of_ble_eq_true rfl), (Nat.le_of_ble_eq_true rfl)⟩ ⟨(Nat.le_of_ble_eq_true rfl), (Nat.le_of_ble_eq_true rfl)⟩ dX2_withDates_37 (fun _ _ z => False.elim z) (fun v9 ws9 h122 => ?_))
  obtain ⟨rfl, hw9⟩ := h122
  subst ws9
  dsimp only [mPush]
  refine r_i2lZ hX dX2_withDates_40 (hbD3 _) (r_callS hX (z_X2_addedG _ _ _ _) ks_X2_247 rfl rfl (Nat.le_of_ble_eq_true rfl) ⟨(Nat.le_of_ble_eq_true rfl), (Nat.le_of_ble_eq_true rfl)⟩ ⟨(Nat.le_of_ble_eq_true rfl), (Nat.le_of_ble_eq_true rfl)⟩ dX2_withDates_41 (fun _ _ z => False.elim z) (fun v9 ws9 h123 => ?_))
  obtain ⟨g41, hg41, rfl, hw9⟩ := h123
  subst ws9
  dsimp only [mPush]
  refine r_lstore_n hX dX2_withDates_44 rfl (by decide) rfl (r_iincZ (z := 1) (y := 2) hX dX2_withDates_45 rfl (by decide) rfl rfl (r_lc5 (i0 := 0) (i1 := 1) (i2 := 3) (i3 := 5) (i4 := 6) rfl rfl rfl rfl rfl (r_goto (tgt := 18) hX dX2_withDates_48 (by decide) (r_iload hX dX2_withDates_18 rfl (r_bipushZ hX dX2_withDates_20 (by decide +kernel) (r_icmp_geZ (tgt := 51) hX dX2_withDates_22 (by decide) (by decide) (by decide) (fun q => absurd q (by decide)) (fun _ => ?_)))))))
  refine r_lload_n hX dX2_withDates_25 rfl rfl (r_aload_n hX dX2_withDates_26 rfl rfl (r_get hX kf_X2_20 0 rfl rfl dX2_withDates_27 (r_iload hX dX2_withDates_30 rfl (r_callS hX (z_X2_at_ok ad cs _ 3 _ 4 0 rfl (by decide) _ 3 (by first | with_reducible assumption | decide | omega) (by decide)) ks_X2_84 rfl rfl (Nat.le_of_ble_eq_true rfl) ⟨(Nat.le_of_ble_eq_true rfl), (Nat.le_of_ble_eq_true rfl)⟩ ⟨(Nat.le_of_ble_eq_true rfl), (Nat.le_of_ble_eq_true rfl)⟩ dX2_withDates_32 (fun _ _ z => False.elim z) (fun v9 ws9 h124 => ?_)))))
  obtain ⟨rfl, hw9⟩ := h124
  subst ws9
  dsimp only [mPush]
  refine r_iload hX dX2_withDates_35 rfl (r_callS hX (z_X2_datePart _ _ (3 + 5) _ _ _ _ (zWd_loc (d := 3) (by decide)) (zrg hS (by decide)) _ (by decide) hdh3) ks_X2_175 rfl rfl (Nat.le_of_ble_eq_true rfl) ⟨(Nat.le_of_ble_eq_true rfl), (Nat.le_of_ble_eq_true rfl)⟩ ⟨(Nat.le_of_ble_eq_true rfl), (Nat.le_of_ble_eq_true rfl)⟩ dX2_withDates_37 (fun _ _ z => False.elim z) (fun v9 ws9 h125 => ?_))
  obtain ⟨rfl, hw9⟩ := h125
  subst ws9
  dsimp only [mPush]
  refine r_i2lZ hX dX2_withDates_40 (hbD3 _) (r_callS hX (z_X2_addedG _ _ _ _) ks_X2_247 rfl rfl (Nat.le_of_ble_eq_true rfl) ⟨(Nat.le_of_ble_eq_true rfl), (Nat.le_of_ble_eq_true rfl)⟩ ⟨(Nat.le_of_ble_eq_true rfl), (Nat.le_of_ble_eq_true rfl)⟩ dX2_withDates_41 (fun _ _ z => False.elim z) (fun v9 ws9 h126 => ?_))
  obtain ⟨g42, hg42, rfl, hw9⟩ := h126
  subst ws9
  dsimp only [mPush]
  refine r_lstore_n hX dX2_withDates_44 rfl (by decide) rfl (r_iincZ (z := 1) (y := 3) hX dX2_withDates_45 rfl (by decide) rfl rfl (r_goto (tgt := 18) hX dX2_withDates_48 (by decide) (r_iload hX dX2_withDates_18 rfl (r_bipushZ hX dX2_withDates_20 (by decide +kernel) (r_icmp_geZ (tgt := 51) hX dX2_withDates_22 (by decide) (by decide) (by decide) (fun q => absurd q (by decide)) (fun _ => ?_))))))
  refine r_lload_n hX dX2_withDates_25 rfl rfl (r_aload_n hX dX2_withDates_26 rfl rfl (r_get hX kf_X2_20 0 rfl rfl dX2_withDates_27 (r_iload hX dX2_withDates_30 rfl (r_callS hX (z_X2_at_ok ad cs _ 3 _ 4 0 rfl (by decide) _ 3 (by first | with_reducible assumption | decide | omega) (by decide)) ks_X2_84 rfl rfl (Nat.le_of_ble_eq_true rfl) ⟨(Nat.le_of_ble_eq_true rfl), (Nat.le_of_ble_eq_true rfl)⟩ ⟨(Nat.le_of_ble_eq_true rfl), (Nat.le_of_ble_eq_true rfl)⟩ dX2_withDates_32 (fun _ _ z => False.elim z) (fun v9 ws9 h127 => ?_)))))
  obtain ⟨rfl, hw9⟩ := h127
  subst ws9
  dsimp only [mPush]
  refine r_iload hX dX2_withDates_35 rfl (r_callS hX (z_X2_datePart _ _ (3 + 5) _ _ _ _ (zWd_loc (d := 3) (by decide)) (zrg hS (by decide)) _ (by decide) hdh3) ks_X2_175 rfl rfl (Nat.le_of_ble_eq_true rfl) ⟨(Nat.le_of_ble_eq_true rfl), (Nat.le_of_ble_eq_true rfl)⟩ ⟨(Nat.le_of_ble_eq_true rfl), (Nat.le_of_ble_eq_true rfl)⟩ dX2_withDates_37 (fun _ _ z => False.elim z) (fun v9 ws9 h128 => ?_))
  obtain ⟨rfl, hw9⟩ := h128
  subst ws9
  dsimp only [mPush]
  refine r_i2lZ hX dX2_withDates_40 (hbD3 _) (r_callS hX (z_X2_addedG _ _ _ _) ks_X2_247 rfl rfl (Nat.le_of_ble_eq_true rfl) ⟨(Nat.le_of_ble_eq_true rfl), (Nat.le_of_ble_eq_true rfl)⟩ ⟨(Nat.le_of_ble_eq_true rfl), (Nat.le_of_ble_eq_true rfl)⟩ dX2_withDates_41 (fun _ _ z => False.elim z) (fun v9 ws9 h129 => ?_))
  obtain ⟨g43, hg43, rfl, hw9⟩ := h129
  subst ws9
  dsimp only [mPush]
  refine r_lstore_n hX dX2_withDates_44 rfl (by decide) rfl (r_iincZ (z := 1) (y := 4) hX dX2_withDates_45 rfl (by decide) rfl rfl (r_goto (tgt := 18) hX dX2_withDates_48 (by decide) (r_iload hX dX2_withDates_18 rfl (r_bipushZ hX dX2_withDates_20 (by decide +kernel) (r_icmp_geZ (tgt := 51) hX dX2_withDates_22 (by decide) (by decide) (by decide) (fun q => absurd q (by decide)) (fun _ => ?_))))))
  refine r_lload_n hX dX2_withDates_25 rfl rfl (r_aload_n hX dX2_withDates_26 rfl rfl (r_get hX kf_X2_20 0 rfl rfl dX2_withDates_27 (r_iload hX dX2_withDates_30 rfl (r_callS hX (z_X2_at_ok ad cs _ 3 _ 4 0 rfl (by decide) _ 3 (by first | with_reducible assumption | decide | omega) (by decide)) ks_X2_84 rfl rfl (Nat.le_of_ble_eq_true rfl) ⟨(Nat.le_of_ble_eq_true rfl), (Nat.le_of_ble_eq_true rfl)⟩ ⟨(Nat.le_of_ble_eq_true rfl), (Nat.le_of_ble_eq_true rfl)⟩ dX2_withDates_32 (fun _ _ z => False.elim z) (fun v9 ws9 h130 => ?_)))))
  obtain ⟨rfl, hw9⟩ := h130
  subst ws9
  dsimp only [mPush]
  refine r_iload hX dX2_withDates_35 rfl (r_callS hX (z_X2_datePart _ _ (3 + 5) _ _ _ _ (zWd_loc (d := 3) (by decide)) (zrg hS (by decide)) _ (by decide) hdh3) ks_X2_175 rfl rfl (Nat.le_of_ble_eq_true rfl) ⟨(Nat.le_of_ble_eq_true rfl), (Nat.le_of_ble_eq_true rfl)⟩ ⟨(Nat.le_of_ble_eq_true rfl), (Nat.le_of_ble_eq_true rfl)⟩ dX2_withDates_37 (fun _ _ z => False.elim z) (fun v9 ws9 h131 => ?_))
  obtain ⟨rfl, hw9⟩ := h131
  subst ws9
  dsimp only [mPush]
  refine r_i2lZ hX dX2_withDates_40 (hbD3 _) (r_callS hX (z_X2_addedG _ _ _ _) ks_X2_247 rfl rfl (Nat.le_of_ble_eq_true rfl) ⟨(Nat.le_of_ble_eq_true rfl), (Nat.le_of_ble_eq_true rfl)⟩ ⟨(Nat.le_of_ble_eq_true rfl), (Nat.le_of_ble_eq_true rfl)⟩ dX2_withDates_41 (fun _ _ z => False.elim z) (fun v9 ws9 h132 => ?_))
  obtain ⟨g44, hg44, rfl, hw9⟩ := h132
  subst ws9
  dsimp only [mPush]
  refine r_lstore_n hX dX2_withDates_44 rfl (by decide) rfl (r_iincZ (z := 1) (y := 5) hX dX2_withDates_45 rfl (by decide) rfl rfl (r_goto (tgt := 18) hX dX2_withDates_48 (by decide) (r_iload hX dX2_withDates_18 rfl (r_bipushZ hX dX2_withDates_20 (by decide +kernel) (r_icmp_geZ (tgt := 51) hX dX2_withDates_22 (by decide) (by decide) (by decide) (fun q => absurd q (by decide)) (fun _ => ?_))))))
  refine r_lload_n hX dX2_withDates_25 rfl rfl (r_aload_n hX dX2_withDates_26 rfl rfl (r_get hX kf_X2_20 0 rfl rfl dX2_withDates_27 (r_iload hX dX2_withDates_30 rfl (r_callS hX (z_X2_at_ok ad cs _ 3 _ 4 0 rfl (by decide) _ 3 (by first | with_reducible assumption | decide | omega) (by decide)) ks_X2_84 rfl rfl (Nat.le_of_ble_eq_true rfl) ⟨(Nat.le_of_ble_eq_true rfl), (Nat.le_of_ble_eq_true rfl)⟩ ⟨(Nat.le_of_ble_eq_true rfl), (Nat.le_of_ble_eq_true rfl)⟩ dX2_withDates_32 (fun _ _ z => False.elim z) (fun v9 ws9 h133 => ?_)))))
  obtain ⟨rfl, hw9⟩ := h133
  subst ws9
  dsimp only [mPush]
  refine r_iload hX dX2_withDates_35 rfl (r_callS hX (z_X2_datePart _ _ (3 + 5) _ _ _ _ (zWd_loc (d := 3) (by decide)) (zrg hS (by decide)) _ (by decide) hdh3) ks_X2_175 rfl rfl (Nat.le_of_ble_eq_true rfl) ⟨(Nat.le_of_ble_eq_true rfl), (Nat.le_of_ble_eq_true rfl)⟩ ⟨(Nat.le_of_ble_eq_true rfl), (Nat.le_of_ble_eq_true rfl)⟩ dX2_withDates_37 (fun _ _ z => False.elim z) (fun v9 ws9 h134 => ?_))
  obtain ⟨rfl, hw9⟩ := h134
  subst ws9
  dsimp only [mPush]
  refine r_i2lZ hX dX2_withDates_40 (hbD3 _) (r_callS hX (z_X2_addedG _ _ _ _) ks_X2_247 rfl rfl (Nat.le_of_ble_eq_true rfl) ⟨(Nat.le_of_ble_eq_true rfl), (Nat.le_of_ble_eq_true rfl)⟩ ⟨(Nat.le_of_ble_eq_true rfl), (Nat.le_of_ble_eq_true rfl)⟩ dX2_withDates_41 (fun _ _ z => False.elim z) (fun v9 ws9 h135 => ?_))
  obtain ⟨g45, hg45, rfl, hw9⟩ := h135
  subst ws9
  dsimp only [mPush]
  refine r_lstore_n hX dX2_withDates_44 rfl (by decide) rfl (r_iincZ (z := 1) (y := 6) hX dX2_withDates_45 rfl (by decide) rfl rfl (r_lc5 (i0 := 0) (i1 := 1) (i2 := 3) (i3 := 5) (i4 := 6) rfl rfl rfl rfl rfl (r_goto (tgt := 18) hX dX2_withDates_48 (by decide) (r_iload hX dX2_withDates_18 rfl (r_bipushZ hX dX2_withDates_20 (by decide +kernel) (r_icmp_geZ (tgt := 51) hX dX2_withDates_22 (by decide) (by decide) (by decide) (fun q => absurd q (by decide)) (fun _ => ?_)))))))
  refine r_lload_n hX dX2_withDates_25 rfl rfl (r_aload_n hX dX2_withDates_26 rfl rfl (r_get hX kf_X2_20 0 rfl rfl dX2_withDates_27 (r_iload hX dX2_withDates_30 rfl (r_callS hX (z_X2_at_ok ad cs _ 3 _ 4 0 rfl (by decide) _ 3 (by first | with_reducible assumption | decide | omega) (by decide)) ks_X2_84 rfl rfl (Nat.le_of_ble_eq_true rfl) ⟨(Nat.le_of_ble_eq_true rfl), (Nat.le_of_ble_eq_true rfl)⟩ ⟨(Nat.le_of_ble_eq_true rfl), (Nat.le_of_ble_eq_true rfl)⟩ dX2_withDates_32 (fun _ _ z => False.elim z) (fun v9 ws9 h136 => ?_)))))
  obtain ⟨rfl, hw9⟩ := h136
  subst ws9
  dsimp only [mPush]
  refine r_iload hX dX2_withDates_35 rfl (r_callS hX (z_X2_datePart _ _ (3 + 5) _ _ _ _ (zWd_loc (d := 3) (by decide)) (zrg hS (by decide)) _ (by decide) hdh3) ks_X2_175 rfl rfl (Nat.le_of_ble_eq_true rfl) ⟨(Nat.le_of_ble_eq_true rfl), (Nat.le_of_ble_eq_true rfl)⟩ ⟨(Nat.le_of_ble_eq_true rfl), (Nat.le_of_ble_eq_true rfl)⟩ dX2_withDates_37 (fun _ _ z => False.elim z) (fun v9 ws9 h137 => ?_))
  obtain ⟨rfl, hw9⟩ := h137
  subst ws9
  dsimp only [mPush]
  refine r_i2lZ hX dX2_withDates_40 (hbD3 _) (r_callS hX (z_X2_addedG _ _ _ _) ks_X2_247 rfl rfl (Nat.le_of_ble_eq_true rfl) ⟨(Nat.le_of_ble_eq_true rfl), (Nat.le_of_ble_eq_true rfl)⟩ ⟨(Nat.le_of_ble_eq_true rfl), (Nat.le_of_ble_eq_true rfl)⟩ dX2_withDates_41 (fun _ _ z => False.elim z) (fun v9 ws9 h138 => ?_))
  obtain ⟨g46, hg46, rfl, hw9⟩ := h138
  subst ws9
  dsimp only [mPush]
  refine r_lstore_n hX dX2_withDates_44 rfl (by decide) rfl (r_iincZ (z := 1) (y := 7) hX dX2_withDates_45 rfl (by decide) rfl rfl (r_goto (tgt := 18) hX dX2_withDates_48 (by decide) (r_iload hX dX2_withDates_18 rfl (r_bipushZ hX dX2_withDates_20 (by decide +kernel) (r_icmp_geZ (tgt := 51) hX dX2_withDates_22 (by decide) (by decide) (by decide) (fun q => absurd q (by decide)) (fun _ => ?_))))))
  refine r_lload_n hX dX2_withDates_25 rfl rfl (r_aload_n hX dX2_withDates_26 rfl rfl (r_get hX kf_X2_20 0 rfl rfl dX2_withDates_27 (r_iload hX dX2_withDates_30 rfl (r_callS hX (z_X2_at_ok ad cs _ 3 _ 4 0 rfl (by decide) _ 3 (by first | with_reducible assumption | decide | omega) (by decide)) ks_X2_84 rfl rfl (Nat.le_of_ble_eq_true rfl) ⟨(Nat.le_of_ble_eq_true rfl), (Nat.le_of_ble_eq_true rfl)⟩ ⟨(Nat.le_of_ble_eq_true rfl), (Nat.le_of_ble_eq_true rfl)⟩ dX2_withDates_32 (fun _ _ z => False.elim z) (fun v9 ws9 h139 => ?_)))))
  obtain ⟨rfl, hw9⟩ := h139
  subst ws9
  dsimp only [mPush]
  refine r_iload hX dX2_withDates_35 rfl (r_callS hX (z_X2_datePart _ _ (3 + 5) _ _ _ _ (zWd_loc (d := 3) (by decide)) (zrg hS (by decide)) _ (by decide) hdh3) ks_X2_175 rfl rfl (Nat.le_of_ble_eq_true rfl) ⟨(Nat.le_of_ble_eq_true rfl), (Nat.le_of_ble_eq_true rfl)⟩ ⟨(Nat.le_of_ble_eq_true rfl), (Nat.le_of_ble_eq_true rfl)⟩ dX2_withDates_37 (fun _ _ z => False.elim z) (fun v9 ws9 h140 => ?_))
  obtain ⟨rfl, hw9⟩ := h140
  subst ws9
  dsimp only [mPush]
  refine r_i2lZ hX dX2_withDates_40 (hbD3 _) (r_callS hX (z_X2_addedG _ _ _ _) ks_X2_247 rfl rfl (Nat.le_of_ble_eq_true rfl) ⟨(Nat.le_of_ble_eq_true rfl), (Nat.le_of_ble_eq_true rfl)⟩ ⟨(Nat.le_of_ble_eq_true rfl), (Nat.le_of_ble_eq_true rfl)⟩ dX2_withDates_41 (fun _ _ z => False.elim z) (fun v9 ws9 h141 => ?_))
  obtain ⟨g47, hg47, rfl, hw9⟩ := h141
  subst ws9
  dsimp only [mPush]
  refine r_lstore_n hX dX2_withDates_44 rfl (by decide) rfl (r_iincZ (z := 1) (y := 8) hX dX2_withDates_45 rfl (by decide) rfl rfl (r_goto (tgt := 18) hX dX2_withDates_48 (by decide) (r_iload hX dX2_withDates_18 rfl (r_bipushZ hX dX2_withDates_20 (by decide +kernel) (r_icmp_geZ (tgt := 51) hX dX2_withDates_22 (by decide) (by decide) (by decide) (fun q => absurd q (by decide)) (fun _ => ?_))))))
  refine r_lload_n hX dX2_withDates_25 rfl rfl (r_aload_n hX dX2_withDates_26 rfl rfl (r_get hX kf_X2_20 0 rfl rfl dX2_withDates_27 (r_iload hX dX2_withDates_30 rfl (r_callS hX (z_X2_at_ok ad cs _ 3 _ 4 0 rfl (by decide) _ 3 (by first | with_reducible assumption | decide | omega) (by decide)) ks_X2_84 rfl rfl (Nat.le_of_ble_eq_true rfl) ⟨(Nat.le_of_ble_eq_true rfl), (Nat.le_of_ble_eq_true rfl)⟩ ⟨(Nat.le_of_ble_eq_true rfl), (Nat.le_of_ble_eq_true rfl)⟩ dX2_withDates_32 (fun _ _ z => False.elim z) (fun v9 ws9 h142 => ?_)))))
  obtain ⟨rfl, hw9⟩ := h142
  subst ws9
  dsimp only [mPush]
  refine r_iload hX dX2_withDates_35 rfl (r_callS hX (z_X2_datePart _ _ (3 + 5) _ _ _ _ (zWd_loc (d := 3) (by decide)) (zrg hS (by decide)) _ (by decide) hdh3) ks_X2_175 rfl rfl (Nat.le_of_ble_eq_true rfl) ⟨(Nat.le_of_ble_eq_true rfl), (Nat.le_of_ble_eq_true rfl)⟩ ⟨(Nat.le_of_ble_eq_true rfl), (Nat.le_of_ble_eq_true rfl)⟩ dX2_withDates_37 (fun _ _ z => False.elim z) (fun v9 ws9 h143 => ?_))
  obtain ⟨rfl, hw9⟩ := h143
  subst ws9
  dsimp only [mPush]
  refine r_i2lZ hX dX2_withDates_40 (hbD3 _) (r_callS hX (z_X2_addedG _ _ _ _) ks_X2_247 rfl rfl (Nat.le_of_ble_eq_true rfl) ⟨(Nat.le_of_ble_eq_true rfl), (Nat.le_of_ble_eq_true rfl)⟩ ⟨(Nat.le_of_ble_eq_true rfl), (Nat.le_of_ble_eq_true rfl)⟩ dX2_withDates_41 (fun _ _ z => False.elim z) (fun v9 ws9 h144 => ?_))
  obtain ⟨g48, hg48, rfl, hw9⟩ := h144
  subst ws9
  dsimp only [mPush]
  refine r_lstore_n hX dX2_withDates_44 rfl (by decide) rfl (r_iincZ (z := 1) (y := 9) hX dX2_withDates_45 rfl (by decide) rfl rfl (r_goto (tgt := 18) hX dX2_withDates_48 (by decide) (r_iload hX dX2_withDates_18 rfl (r_bipushZ hX dX2_withDates_20 (by decide +kernel) (r_icmp_geZ (tgt := 51) hX dX2_withDates_22 (by decide) (by decide) (by decide) (fun q => absurd q (by decide)) (fun _ => ?_))))))
  refine r_lload_n hX dX2_withDates_25 rfl rfl (r_aload_n hX dX2_withDates_26 rfl rfl (r_get hX kf_X2_20 0 rfl rfl dX2_withDates_27 (r_iload hX dX2_withDates_30 rfl (r_callS hX (z_X2_at_ok ad cs _ 3 _ 4 0 rfl (by decide) _ 3 (by first | with_reducible assumption | decide | omega) (by decide)) ks_X2_84 rfl rfl (Nat.le_of_ble_eq_true rfl) ⟨(Nat.le_of_ble_eq_true rfl), (Nat.le_of_ble_eq_true rfl)⟩ ⟨(Nat.le_of_ble_eq_true rfl), (Nat.le_of_ble_eq_true rfl)⟩ dX2_withDates_32 (fun _ _ z => False.elim z) (fun v9 ws9 h145 => ?_)))))
  obtain ⟨rfl, hw9⟩ := h145
  subst ws9
  dsimp only [mPush]
  refine r_iload hX dX2_withDates_35 rfl (r_callS hX (z_X2_datePart _ _ (3 + 5) _ _ _ _ (zWd_loc (d := 3) (by decide)) (zrg hS (by decide)) _ (by decide) hdh3) ks_X2_175 rfl rfl (Nat.le_of_ble_eq_true rfl) ⟨(Nat.le_of_ble_eq_true rfl), (Nat.le_of_ble_eq_true rfl)⟩ ⟨(Nat.le_of_ble_eq_true rfl), (Nat.le_of_ble_eq_true rfl)⟩ dX2_withDates_37 (fun _ _ z => False.elim z) (fun v9 ws9 h146 => ?_))
  obtain ⟨rfl, hw9⟩ := h146
  subst ws9
  dsimp only [mPush]
  refine r_i2lZ hX dX2_withDates_40 (hbD3 _) (r_callS hX (z_X2_addedG _ _ _ _) ks_X2_247 rfl rfl (Nat.le_of_ble_eq_true rfl) ⟨(Nat.le_of_ble_eq_true rfl), (Nat.le_of_ble_eq_true rfl)⟩ ⟨(Nat.le_of_ble_eq_true rfl), (Nat.le_of_ble_eq_true rfl)⟩ dX2_withDates_41 (fun _ _ z => False.elim z) (fun v9 ws9 h147 => ?_))
  obtain ⟨g49, hg49, rfl, hw9⟩ := h147
  subst ws9
  dsimp only [mPush]
  refine r_lstore_n hX dX2_withDates_44 rfl (by decide) rfl (r_iincZ (z := 1) (y := 10) hX dX2_withDates_45 rfl (by decide) rfl rfl (r_lc5 (i0 := 0) (i1 := 1) (i2 := 3) (i3 := 5) (i4 := 6) rfl rfl rfl rfl rfl (r_goto (tgt := 18) hX dX2_withDates_48 (by decide) (r_iload hX dX2_withDates_18 rfl (r_bipushZ hX dX2_withDates_20 (by decide +kernel) (r_icmp_geZ (tgt := 51) hX dX2_withDates_22 (by decide) (by decide) (by decide) (fun q => absurd q (by decide)) (fun _ => ?_)))))))
  refine r_lload_n hX dX2_withDates_25 rfl rfl (r_aload_n hX dX2_withDates_26 rfl rfl (r_get hX kf_X2_20 0 rfl rfl dX2_withDates_27 (r_iload hX dX2_withDates_30 rfl (r_callS hX (z_X2_at_ok ad cs _ 3 _ 4 0 rfl (by decide) _ 3 (by first | with_reducible assumption | decide | omega) (by decide)) ks_X2_84 rfl rfl (Nat.le_of_ble_eq_true rfl) ⟨(Nat.le_of_ble_eq_true rfl), (Nat.le_of_ble_eq_true rfl)⟩ ⟨(Nat.le_of_ble_eq_true rfl), (Nat.le_of_ble_eq_true rfl)⟩ dX2_withDates_32 (fun _ _ z => False.elim z) (fun v9 ws9 h148 => ?_)))))
  obtain ⟨rfl, hw9⟩ := h148
  subst ws9
  dsimp only [mPush]
  refine r_iload hX dX2_withDates_35 rfl (r_callS hX (z_X2_datePart _ _ (3 + 5) _ _ _ _ (zWd_loc (d := 3) (by decide)) (zrg hS (by decide)) _ (by decide) hdh3) ks_X2_175 rfl rfl (Nat.le_of_ble_eq_true rfl) ⟨(Nat.le_of_ble_eq_true rfl), (Nat.le_of_ble_eq_true rfl)⟩ ⟨(Nat.le_of_ble_eq_true rfl), (Nat.le_of_ble_eq_true rfl)⟩ dX2_withDates_37 (fun _ _ z => False.elim z) (fun v9 ws9 h149 => ?_))
  obtain ⟨rfl, hw9⟩ := h149
  subst ws9
  dsimp only [mPush]
  refine r_i2lZ hX dX2_withDates_40 (hbD3 _) (r_callS hX (z_X2_addedG _ _ _ _) ks_X2_247 rfl rfl (Nat.le_of_ble_eq_true rfl) ⟨(Nat.le_of_ble_eq_true rfl), (Nat.le_of_ble_eq_true rfl)⟩ ⟨(Nat.le_of_ble_eq_true rfl), (Nat.le_of_ble_eq_true rfl)⟩ dX2_withDates_41 (fun _ _ z => False.elim z) (fun v9 ws9 h150 => ?_))
  obtain ⟨g50, hg50, rfl, hw9⟩ := h150
  subst ws9
  dsimp only [mPush]
  refine r_lstore_n hX dX2_withDates_44 rfl (by decide) rfl (r_iincZ (z := 1) (y := 11) hX dX2_withDates_45 rfl (by decide) rfl rfl (r_goto (tgt := 18) hX dX2_withDates_48 (by decide) (r_iload hX dX2_withDates_18 rfl (r_bipushZ hX dX2_withDates_20 (by decide +kernel) (r_icmp_geZ (tgt := 51) hX dX2_withDates_22 (by decide) (by decide) (by decide) (fun q => absurd q (by decide)) (fun _ => ?_))))))
  refine r_lload_n hX dX2_withDates_25 rfl rfl (r_aload_n hX dX2_withDates_26 rfl rfl (r_get hX kf_X2_20 0 rfl rfl dX2_withDates_27 (r_iload hX dX2_withDates_30 rfl (r_callS hX (z_X2_at_ok ad cs _ 3 _ 4 0 rfl (by decide) _ 3 (by first | with_reducible assumption | decide | omega) (by decide)) ks_X2_84 rfl rfl (Nat.le_of_ble_eq_true rfl) ⟨(Nat.le_of_ble_eq_true rfl), (Nat.le_of_ble_eq_true rfl)⟩ ⟨(Nat.le_of_ble_eq_true rfl), (Nat.le_of_ble_eq_true rfl)⟩ dX2_withDates_32 (fun _ _ z => False.elim z) (fun v9 ws9 h151 => ?_)))))
  obtain ⟨rfl, hw9⟩ := h151
  subst ws9
  dsimp only [mPush]
  refine r_iload hX dX2_withDates_35 rfl (r_callS hX (z_X2_datePart _ _ (3 + 5) _ _ _ _ (zWd_loc (d := 3) (by decide)) (zrg hS (by decide)) _ (by decide) hdh3) ks_X2_175 rfl rfl (Nat.le_of_ble_eq_true rfl) ⟨(Nat.le_of_ble_eq_true rfl), (Nat.le_of_ble_eq_true rfl)⟩ ⟨(Nat.le_of_ble_eq_true rfl), (Nat.le_of_ble_eq_true rfl)⟩ dX2_withDates_37 (fun _ _ z => False.elim z) (fun v9 ws9 h152 => ?_))
  obtain ⟨rfl, hw9⟩ := h152
  subst ws9
  dsimp only [mPush]
  refine r_i2lZ hX dX2_withDates_40 (hbD3 _) (r_callS hX (z_X2_addedG _ _ _ _) ks_X2_247 rfl rfl (Nat.le_of_ble_eq_true rfl) ⟨(Nat.le_of_ble_eq_true rfl), (Nat.le_of_ble_eq_true rfl)⟩ ⟨(Nat.le_of_ble_eq_true rfl), (Nat.le_of_ble_eq_true rfl)⟩ dX2_withDates_41 (fun _ _ z => False.elim z) (fun v9 ws9 h153 => ?_))
  obtain ⟨g51, hg51, rfl, hw9⟩ := h153
  subst ws9
  dsimp only [mPush]
  refine r_lstore_n hX dX2_withDates_44 rfl (by decide) rfl (r_iincZ (z := 1) (y := 12) hX dX2_withDates_45 rfl (by decide) rfl rfl (r_goto (tgt := 18) hX dX2_withDates_48 (by decide) (r_iload hX dX2_withDates_18 rfl (r_bipushZ hX dX2_withDates_20 (by decide +kernel) (r_icmp_geZ (tgt := 51) hX dX2_withDates_22 (by decide) (by decide) (by decide) (fun q => absurd q (by decide)) (fun _ => ?_))))))
  refine r_lload_n hX dX2_withDates_25 rfl rfl (r_aload_n hX dX2_withDates_26 rfl rfl (r_get hX kf_X2_20 0 rfl rfl dX2_withDates_27 (r_iload hX dX2_withDates_30 rfl (r_callS hX (z_X2_at_ok ad cs _ 3 _ 4 0 rfl (by decide) _ 3 (by first | with_reducible assumption | decide | omega) (by decide)) ks_X2_84 rfl rfl (Nat.le_of_ble_eq_true rfl) ⟨(Nat.le_of_ble_eq_true rfl), (Nat.le_of_ble_eq_true rfl)⟩ ⟨(Nat.le_of_ble_eq_true rfl), (Nat.le_of_ble_eq_true rfl)⟩ dX2_withDates_32 (fun _ _ z => False.elim z) (fun v9 ws9 h154 => ?_)))))
  obtain ⟨rfl, hw9⟩ := h154
  subst ws9
  dsimp only [mPush]
  refine r_iload hX dX2_withDates_35 rfl (r_callS hX (z_X2_datePart _ _ (3 + 5) _ _ _ _ (zWd_loc (d := 3) (by decide)) (zrg hS (by decide)) _ (by decide) hdh3) ks_X2_175 rfl rfl (Nat.le_of_ble_eq_true rfl) ⟨(Nat.le_of_ble_eq_true rfl), (Nat.le_of_ble_eq_true rfl)⟩ ⟨(Nat.le_of_ble_eq_true rfl), (Nat.le_of_ble_eq_true rfl)⟩ dX2_withDates_37 (fun _ _ z => False.elim z) (fun v9 ws9 h155 => ?_))
  obtain ⟨rfl, hw9⟩ := h155
  subst ws9
  dsimp only [mPush]
  refine r_i2lZ hX dX2_withDates_40 (hbD3 _) (r_callS hX (z_X2_addedG _ _ _ _) ks_X2_247 rfl rfl (Nat.le_of_ble_eq_true rfl) ⟨(Nat.le_of_ble_eq_true rfl), (Nat.le_of_ble_eq_true rfl)⟩ ⟨(Nat.le_of_ble_eq_true rfl), (Nat.le_of_ble_eq_true rfl)⟩ dX2_withDates_41 (fun _ _ z => False.elim z) (fun v9 ws9 h156 => ?_))
  obtain ⟨g52, hg52, rfl, hw9⟩ := h156
  subst ws9
  dsimp only [mPush]
  refine r_lstore_n hX dX2_withDates_44 rfl (by decide) rfl (r_iincZ (z := 1) (y := 13) hX dX2_withDates_45 rfl (by decide) rfl rfl (r_goto (tgt := 18) hX dX2_withDates_48 (by decide) (r_iload hX dX2_withDates_18 rfl (r_bipushZ hX dX2_withDates_20 (by decide +kernel) (r_icmp_geZ (tgt := 51) hX dX2_withDates_22 (by decide) (by decide) (by decide) (fun _ => ?_) (fun q => absurd (by decide) q))))))
  refine r_iincZ (z := 1) (y := 4) hX dX2_withDates_51 rfl (by decide) rfl rfl (r_goto (tgt := 5) hX dX2_withDates_54 (by decide) (r_iload hX dX2_withDates_5 rfl (r_aload_n hX dX2_withDates_7 rfl rfl (r_get hX kf_X2_20 0 rfl rfl dX2_withDates_8 (r_alen (v := iZ 4) hX 3 2 rfl rfl rfl dX2_withDates_11 (r_icmp_geZ (tgt := 57) hX dX2_withDates_12 (by decide) (by decide) (by decide) (fun _ => ?_) (fun q => absurd (by decide) q)))))))
  refine r_lload_n hX dX2_withDates_57 rfl rfl ?_
  exact r_lret hX hE dX2_withDates_58 (Nat.le_of_ble_eq_true rfl) (Nat.le_of_ble_eq_true rfl) ⟨zl (((dg_step hg1).trans ((dg_step hg2).trans ((dg_step hg3).trans ((dg_step hg4).trans ((dg_step hg5).trans ((dg_step hg6).trans ((dg_step hg7).trans ((dg_step hg8).trans ((dg_step hg9).trans ((dg_step hg10).trans ((dg_step hg11).trans ((dg_step hg12).trans ((dg_step hg13).trans ((dg_step hg14).trans ((dg_step hg15).trans ((dg_step hg16).trans ((dg_step hg17).trans ((dg_step hg18).trans ((dg_step hg19).trans ((dg_step hg20).trans ((dg_step hg21).trans ((dg_step hg22).trans ((dg_step hg23).trans ((dg_step hg24).trans ((dg_step hg25).trans ((dg_step hg26).trans ((dg_step hg27).trans ((dg_step hg28).trans ((dg_step hg29).trans ((dg_step hg30).trans ((dg_step hg31).trans ((dg_step hg32).trans ((dg_step hg33).trans ((dg_step hg34).trans ((dg_step hg35).trans ((dg_step hg36).trans ((dg_step hg37).trans ((dg_step hg38).trans ((dg_step hg39).trans ((dg_step hg40).trans ((dg_step hg41).trans ((dg_step hg42).trans ((dg_step hg43).trans ((dg_step hg44).trans ((dg_step hg45).trans ((dg_step hg46).trans ((dg_step hg47).trans ((dg_step hg48).trans ((dg_step hg49).trans ((dg_step hg50).trans ((dg_step hg51).trans (dg_step (l := []) hg52))))))))))))))))))))))))))))))))))))))))))))))))))))).symm, rfl⟩
set_option maxHeartbeats 4000000 in
set_option maxRecDepth 20000 in
theorem z_X2_withClocks (ad : Nat → Nat) (cs : ClassId × ClassId × ClassId) (S : mS) (T : mT2) (rest : va_W) (hS : sWF S) (s : Int)  : mCt (mTy cs) yX2_withClocks cX2_withClocks 7 (some .long) ⟨4, 0, 0, 86⟩ [.ref (ad 0), .long (lZ s)] (mWd ad cs (mKof S T) rest) (fun v ws' => v = some (.long (lZ (dClk S s))) ∧ ws' = (mWd ad cs (mKof S T) rest)) mNo := by
  refine mCt.of (by decide +kernel) (Nat.le_of_ble_eq_true rfl) (fun X hX hE => ?_)
  replace hX : mOK X RX2 cX2_withClocks 7 ⟨4, 0, 0, 86⟩ [] (mTy cs) := hX
  have hbC4 : ∀ w : Int, -2147483648 ≤ zCP (sse S 4) (sna S 4) (sow S 4) w ∧ zCP (sse S 4) (sna S 4) (sow S 4) w ≤ 2147483647 := by
    have hr := zrg hS (d := 4) (by decide)
    have hs := hS.2.2.2.2 4 (by decide) (by decide)
    exact fun w => zCP_b (by omega) (by omega) (by omega)
  have hbC5 : ∀ w : Int, -2147483648 ≤ zCP (sse S 5) (sna S 5) (sow S 5) w ∧ zCP (sse S 5) (sna S 5) (sow S 5) w ≤ 2147483647 := by
    have hr := zrg hS (d := 5) (by decide)
    have hs := hS.2.2.2.2 5 (by decide) (by decide)
    exact fun w => zCP_b (by omega) (by omega) (by omega)
  have hbC6 : ∀ w : Int, -2147483648 ≤ zCP (sse S 6) (sna S 6) (sow S 6) w ∧ zCP (sse S 6) (sna S 6) (sow S 6) w ≤ 2147483647 := by
    have hr := zrg hS (d := 6) (by decide)
    have hs := hS.2.2.2.2 6 (by decide) (by decide)
    exact fun w => zCP_b (by omega) (by omega) (by omega)
  refine r_lload_n hX dX2_withClocks_0 rfl rfl (r_lstore_n hX dX2_withClocks_1 rfl (by decide) rfl (r_iconstZ hX dX2_withClocks_2 (r_istore hX dX2_withClocks_3 (by decide) rfl (r_iload hX dX2_withClocks_5 rfl (r_aload_n hX dX2_withClocks_7 rfl rfl (r_get hX kf_X2_24 0 rfl rfl dX2_withClocks_8 (r_alen (v := iZ 3) hX 4 2 rfl rfl rfl dX2_withClocks_11 ?_)))))))
  refine r_icmp_geZ (tgt := 57) hX dX2_withClocks_12 (by decide) (by decide) (by decide) (fun q => absurd q (by decide)) (fun _ => ?_)
  refine r_iconstZ hX dX2_withClocks_15 (r_istore hX dX2_withClocks_16 (by decide) rfl (r_iload hX dX2_withClocks_18 rfl (r_bipushZ hX dX2_withClocks_20 (by decide +kernel) (r_icmp_geZ (tgt := 51) hX dX2_withClocks_22 (by decide) (by decide) (by decide) (fun q => absurd q (by decide)) (fun _ => ?_)))))
  refine r_lload_n hX dX2_withClocks_25 rfl rfl (r_aload_n hX dX2_withClocks_26 rfl rfl (r_get hX kf_X2_24 0 rfl rfl dX2_withClocks_27 (r_iload hX dX2_withClocks_30 rfl (r_callS hX (z_X2_at_ok ad cs _ 4 _ 3 4 rfl (by decide) _ 0 (by first | with_reducible assumption | decide | omega) (by decide)) ks_X2_84 rfl rfl (Nat.le_of_ble_eq_true rfl) ⟨(Nat.le_of_ble_eq_true rfl), (Nat.le_of_ble_eq_true rfl)⟩ ⟨(Nat.le_of_ble_eq_true rfl), (Nat.le_of_ble_eq_true rfl)⟩ dX2_withClocks_32 (fun _ _ z => False.elim z) (fun v9 ws9 h1 => ?_)))))
  obtain ⟨rfl, hw9⟩ := h1
  subst ws9
  dsimp only [mPush]
  refine r_iload hX dX2_withClocks_35 rfl (r_callS hX (z_X2_clockPart _ _ (4 + 5) _ _ _ _ (zWd_loc (d := 4) (by decide)) (zrg hS (by decide)) _ (by decide)) ks_X2_193 rfl rfl (Nat.le_of_ble_eq_true rfl) ⟨(Nat.le_of_ble_eq_true rfl), (Nat.le_of_ble_eq_true rfl)⟩ ⟨(Nat.le_of_ble_eq_true rfl), (Nat.le_of_ble_eq_true rfl)⟩ dX2_withClocks_37 (fun _ _ z => False.elim z) (fun v9 ws9 h2 => ?_))
  obtain ⟨rfl, hw9⟩ := h2
  subst ws9
  dsimp only [mPush]
  refine r_i2lZ hX dX2_withClocks_40 (hbC4 _) (r_callS hX (z_X2_addedG _ _ _ _) ks_X2_247 rfl rfl (Nat.le_of_ble_eq_true rfl) ⟨(Nat.le_of_ble_eq_true rfl), (Nat.le_of_ble_eq_true rfl)⟩ ⟨(Nat.le_of_ble_eq_true rfl), (Nat.le_of_ble_eq_true rfl)⟩ dX2_withClocks_41 (fun _ _ z => False.elim z) (fun v9 ws9 h3 => ?_))
  obtain ⟨g1, hg1, rfl, hw9⟩ := h3
  subst ws9
  dsimp only [mPush]
  refine r_lstore_n hX dX2_withClocks_44 rfl (by decide) rfl (r_iincZ (z := 1) (y := 1) hX dX2_withClocks_45 rfl (by decide) rfl rfl (r_goto (tgt := 18) hX dX2_withClocks_48 (by decide) (r_iload hX dX2_withClocks_18 rfl (r_bipushZ hX dX2_withClocks_20 (by decide +kernel) (r_icmp_geZ (tgt := 51) hX dX2_withClocks_22 (by decide) (by decide) (by decide) (fun q => absurd q (by decide)) (fun _ => ?_))))))
  refine r_lload_n hX dX2_withClocks_25 rfl rfl (r_aload_n hX dX2_withClocks_26 rfl rfl (r_get hX kf_X2_24 0 rfl rfl dX2_withClocks_27 (r_iload hX dX2_withClocks_30 rfl (r_callS hX (z_X2_at_ok ad cs _ 4 _ 3 4 rfl (by decide) _ 0 (by first | with_reducible assumption | decide | omega) (by decide)) ks_X2_84 rfl rfl (Nat.le_of_ble_eq_true rfl) ⟨(Nat.le_of_ble_eq_true rfl), (Nat.le_of_ble_eq_true rfl)⟩ ⟨(Nat.le_of_ble_eq_true rfl), (Nat.le_of_ble_eq_true rfl)⟩ dX2_withClocks_32 (fun _ _ z => False.elim z) (fun v9 ws9 h4 => ?_)))))
  obtain ⟨rfl, hw9⟩ := h4
  subst ws9
  dsimp only [mPush]
  refine r_iload hX dX2_withClocks_35 rfl (r_callS hX (z_X2_clockPart _ _ (4 + 5) _ _ _ _ (zWd_loc (d := 4) (by decide)) (zrg hS (by decide)) _ (by decide)) ks_X2_193 rfl rfl (Nat.le_of_ble_eq_true rfl) ⟨(Nat.le_of_ble_eq_true rfl), (Nat.le_of_ble_eq_true rfl)⟩ ⟨(Nat.le_of_ble_eq_true rfl), (Nat.le_of_ble_eq_true rfl)⟩ dX2_withClocks_37 (fun _ _ z => False.elim z) (fun v9 ws9 h5 => ?_))
  obtain ⟨rfl, hw9⟩ := h5
  subst ws9
  dsimp only [mPush]
  refine r_i2lZ hX dX2_withClocks_40 (hbC4 _) (r_callS hX (z_X2_addedG _ _ _ _) ks_X2_247 rfl rfl (Nat.le_of_ble_eq_true rfl) ⟨(Nat.le_of_ble_eq_true rfl), (Nat.le_of_ble_eq_true rfl)⟩ ⟨(Nat.le_of_ble_eq_true rfl), (Nat.le_of_ble_eq_true rfl)⟩ dX2_withClocks_41 (fun _ _ z => False.elim z) (fun v9 ws9 h6 => ?_))
  obtain ⟨g2, hg2, rfl, hw9⟩ := h6
  subst ws9
  dsimp only [mPush]
  refine r_lstore_n hX dX2_withClocks_44 rfl (by decide) rfl (r_iincZ (z := 1) (y := 2) hX dX2_withClocks_45 rfl (by decide) rfl rfl (r_goto (tgt := 18) hX dX2_withClocks_48 (by decide) (r_iload hX dX2_withClocks_18 rfl (r_bipushZ hX dX2_withClocks_20 (by decide +kernel) (r_icmp_geZ (tgt := 51) hX dX2_withClocks_22 (by decide) (by decide) (by decide) (fun q => absurd q (by decide)) (fun _ => ?_))))))
  refine r_lload_n hX dX2_withClocks_25 rfl rfl (r_aload_n hX dX2_withClocks_26 rfl rfl (r_get hX kf_X2_24 0 rfl rfl dX2_withClocks_27 (r_iload hX dX2_withClocks_30 rfl (r_callS hX (z_X2_at_ok ad cs _ 4 _ 3 4 rfl (by decide) _ 0 (by first | with_reducible assumption | decide | omega) (by decide)) ks_X2_84 rfl rfl (Nat.le_of_ble_eq_true rfl) ⟨(Nat.le_of_ble_eq_true rfl), (Nat.le_of_ble_eq_true rfl)⟩ ⟨(Nat.le_of_ble_eq_true rfl), (Nat.le_of_ble_eq_true rfl)⟩ dX2_withClocks_32 (fun _ _ z => False.elim z) (fun v9 ws9 h7 => ?_)))))
  obtain ⟨rfl, hw9⟩ := h7
  subst ws9
  dsimp only [mPush]
  refine r_iload hX dX2_withClocks_35 rfl (r_callS hX (z_X2_clockPart _ _ (4 + 5) _ _ _ _ (zWd_loc (d := 4) (by decide)) (zrg hS (by decide)) _ (by decide)) ks_X2_193 rfl rfl (Nat.le_of_ble_eq_true rfl) ⟨(Nat.le_of_ble_eq_true rfl), (Nat.le_of_ble_eq_true rfl)⟩ ⟨(Nat.le_of_ble_eq_true rfl), (Nat.le_of_ble_eq_true rfl)⟩ dX2_withClocks_37 (fun _ _ z => False.elim z) (fun v9 ws9 h8 => ?_))
  obtain ⟨rfl, hw9⟩ := h8
  subst ws9
  dsimp only [mPush]
  refine r_i2lZ hX dX2_withClocks_40 (hbC4 _) (r_callS hX (z_X2_addedG _ _ _ _) ks_X2_247 rfl rfl (Nat.le_of_ble_eq_true rfl) ⟨(Nat.le_of_ble_eq_true rfl), (Nat.le_of_ble_eq_true rfl)⟩ ⟨(Nat.le_of_ble_eq_true rfl), (Nat.le_of_ble_eq_true rfl)⟩ dX2_withClocks_41 (fun _ _ z => False.elim z) (fun v9 ws9 h9 => ?_))
  obtain ⟨g3, hg3, rfl, hw9⟩ := h9
  subst ws9
  dsimp only [mPush]
  refine r_lstore_n hX dX2_withClocks_44 rfl (by decide) rfl (r_lc5 (i0 := 0) (i1 := 1) (i2 := 3) (i3 := 5) (i4 := 6) rfl rfl rfl rfl rfl (r_iincZ (z := 1) (y := 3) hX dX2_withClocks_45 rfl (by decide) rfl rfl (r_goto (tgt := 18) hX dX2_withClocks_48 (by decide) (r_iload hX dX2_withClocks_18 rfl (r_bipushZ hX dX2_withClocks_20 (by decide +kernel) (r_icmp_geZ (tgt := 51) hX dX2_withClocks_22 (by decide) (by decide) (by decide) (fun q => absurd q (by decide)) (fun _ => ?_)))))))
  refine r_lload_n hX dX2_withClocks_25 rfl rfl (r_aload_n hX dX2_withClocks_26 rfl rfl (r_get hX kf_X2_24 0 rfl rfl dX2_withClocks_27 (r_iload hX dX2_withClocks_30 rfl (r_callS hX (z_X2_at_ok ad cs _ 4 _ 3 4 rfl (by decide) _ 0 (by first | with_reducible assumption | decide | omega) (by decide)) ks_X2_84 rfl rfl (Nat.le_of_ble_eq_true rfl) ⟨(Nat.le_of_ble_eq_true rfl), (Nat.le_of_ble_eq_true rfl)⟩ ⟨(Nat.le_of_ble_eq_true rfl), (Nat.le_of_ble_eq_true rfl)⟩ dX2_withClocks_32 (fun _ _ z => False.elim z) (fun v9 ws9 h10 => ?_)))))
  obtain ⟨rfl, hw9⟩ := h10
  subst ws9
  dsimp only [mPush]
  refine r_iload hX dX2_withClocks_35 rfl (r_callS hX (z_X2_clockPart _ _ (4 + 5) _ _ _ _ (zWd_loc (d := 4) (by decide)) (zrg hS (by decide)) _ (by decide)) ks_X2_193 rfl rfl (Nat.le_of_ble_eq_true rfl) ⟨(Nat.le_of_ble_eq_true rfl), (Nat.le_of_ble_eq_true rfl)⟩ ⟨(Nat.le_of_ble_eq_true rfl), (Nat.le_of_ble_eq_true rfl)⟩ dX2_withClocks_37 (fun _ _ z => False.elim z) (fun v9 ws9 h11 => ?_))
  obtain ⟨rfl, hw9⟩ := h11
  subst ws9
  dsimp only [mPush]
  refine r_i2lZ hX dX2_withClocks_40 (hbC4 _) (r_callS hX (z_X2_addedG _ _ _ _) ks_X2_247 rfl rfl (Nat.le_of_ble_eq_true rfl) ⟨(Nat.le_of_ble_eq_true rfl), (Nat.le_of_ble_eq_true rfl)⟩ ⟨(Nat.le_of_ble_eq_true rfl), (Nat.le_of_ble_eq_true rfl)⟩ dX2_withClocks_41 (fun _ _ z => False.elim z) (fun v9 ws9 h12 => ?_))
  obtain ⟨g4, hg4, rfl, hw9⟩ := h12
  subst ws9
  dsimp only [mPush]
  refine r_lstore_n hX dX2_withClocks_44 rfl (by decide) rfl (r_iincZ (z := 1) (y := 4) hX dX2_withClocks_45 rfl (by decide) rfl rfl (r_goto (tgt := 18) hX dX2_withClocks_48 (by decide) (r_iload hX dX2_withClocks_18 rfl (r_bipushZ hX dX2_withClocks_20 (by decide +kernel) (r_icmp_geZ (tgt := 51) hX dX2_withClocks_22 (by decide) (by decide) (by decide) (fun q => absurd q (by decide)) (fun _ => ?_))))))
  refine r_lload_n hX dX2_withClocks_25 rfl rfl (r_aload_n hX dX2_withClocks_26 rfl rfl (r_get hX kf_X2_24 0 rfl rfl dX2_withClocks_27 (r_iload hX dX2_withClocks_30 rfl (r_callS hX (z_X2_at_ok ad cs _ 4 _ 3 4 rfl (by decide) _ 0 (by first | with_reducible assumption | decide | omega) (by decide)) ks_X2_84 rfl rfl (Nat.le_of_ble_eq_true rfl) ⟨(Nat.le_of_ble_eq_true rfl), (Nat.le_of_ble_eq_true rfl)⟩ ⟨(Nat.le_of_ble_eq_true rfl), (Nat.le_of_ble_eq_true rfl)⟩ dX2_withClocks_32 (fun _ _ z => False.elim z) (fun v9 ws9 h13 => ?_)))))
  obtain ⟨rfl, hw9⟩ := h13
  subst ws9
  dsimp only [mPush]
  refine r_iload hX dX2_withClocks_35 rfl (r_callS hX (z_X2_clockPart _ _ (4 + 5) _ _ _ _ (zWd_loc (d := 4) (by decide)) (zrg hS (by decide)) _ (by decide)) ks_X2_193 rfl rfl (Nat.le_of_ble_eq_true rfl) ⟨(Nat.le_of_ble_eq_true rfl), (Nat.le_of_ble_eq_true rfl)⟩ ⟨(Nat.le_of_ble_eq_true rfl), (Nat.le_of_ble_eq_true rfl)⟩ dX2_withClocks_37 (fun _ _ z => False.elim z) (fun v9 ws9 h14 => ?_))
  obtain ⟨rfl, hw9⟩ := h14
  subst ws9
  dsimp only [mPush]
  refine r_i2lZ hX dX2_withClocks_40 (hbC4 _) (r_callS hX (z_X2_addedG _ _ _ _) ks_X2_247 rfl rfl (Nat.le_of_ble_eq_true rfl) ⟨(Nat.le_of_ble_eq_true rfl), (Nat.le_of_ble_eq_true rfl)⟩ ⟨(Nat.le_of_ble_eq_true rfl), (Nat.le_of_ble_eq_true rfl)⟩ dX2_withClocks_41 (fun _ _ z => False.elim z) (fun v9 ws9 h15 => ?_))
  obtain ⟨g5, hg5, rfl, hw9⟩ := h15
  subst ws9
  dsimp only [mPush]
  refine r_lstore_n hX dX2_withClocks_44 rfl (by decide) rfl (r_iincZ (z := 1) (y := 5) hX dX2_withClocks_45 rfl (by decide) rfl rfl (r_goto (tgt := 18) hX dX2_withClocks_48 (by decide) (r_iload hX dX2_withClocks_18 rfl (r_bipushZ hX dX2_withClocks_20 (by decide +kernel) (r_icmp_geZ (tgt := 51) hX dX2_withClocks_22 (by decide) (by decide) (by decide) (fun q => absurd q (by decide)) (fun _ => ?_))))))
  refine r_lload_n hX dX2_withClocks_25 rfl rfl (r_aload_n hX dX2_withClocks_26 rfl rfl (r_get hX kf_X2_24 0 rfl rfl dX2_withClocks_27 (r_iload hX dX2_withClocks_30 rfl (r_callS hX (z_X2_at_ok ad cs _ 4 _ 3 4 rfl (by decide) _ 0 (by first | with_reducible assumption | decide | omega) (by decide)) ks_X2_84 rfl rfl (Nat.le_of_ble_eq_true rfl) ⟨(Nat.le_of_ble_eq_true rfl), (Nat.le_of_ble_eq_true rfl)⟩ ⟨(Nat.le_of_ble_eq_true rfl), (Nat.le_of_ble_eq_true rfl)⟩ dX2_withClocks_32 (fun _ _ z => False.elim z) (fun v9 ws9 h16 => ?_)))))
  obtain ⟨rfl, hw9⟩ := h16
  subst ws9
  dsimp only [mPush]
  refine r_iload hX dX2_withClocks_35 rfl (r_callS hX (z_X2_clockPart _ _ (4 + 5) _ _ _ _ (zWd_loc (d := 4) (by decide)) (zrg hS (by decide)) _ (by decide)) ks_X2_193 rfl rfl (Nat.le_of_ble_eq_true rfl) ⟨(Nat.le_of_ble_eq_true rfl), (Nat.le_of_ble_eq_true rfl)⟩ ⟨(Nat.le_of_ble_eq_true rfl), (Nat.le_of_ble_eq_true rfl)⟩ dX2_withClocks_37 (fun _ _ z => False.elim z) (fun v9 ws9 h17 => ?_))
  obtain ⟨rfl, hw9⟩ := h17
  subst ws9
  dsimp only [mPush]
  refine r_i2lZ hX dX2_withClocks_40 (hbC4 _) (r_callS hX (z_X2_addedG _ _ _ _) ks_X2_247 rfl rfl (Nat.le_of_ble_eq_true rfl) ⟨(Nat.le_of_ble_eq_true rfl), (Nat.le_of_ble_eq_true rfl)⟩ ⟨(Nat.le_of_ble_eq_true rfl), (Nat.le_of_ble_eq_true rfl)⟩ dX2_withClocks_41 (fun _ _ z => False.elim z) (fun v9 ws9 h18 => ?_))
  obtain ⟨g6, hg6, rfl, hw9⟩ := h18
  subst ws9
  dsimp only [mPush]
  refine r_lstore_n hX dX2_withClocks_44 rfl (by decide) rfl (r_iincZ (z := 1) (y := 6) hX dX2_withClocks_45 rfl (by decide) rfl rfl (r_goto (tgt := 18) hX dX2_withClocks_48 (by decide) (r_iload hX dX2_withClocks_18 rfl (r_bipushZ hX dX2_withClocks_20 (by decide +kernel) (r_icmp_geZ (tgt := 51) hX dX2_withClocks_22 (by decide) (by decide) (by decide) (fun _ => ?_) (fun q => absurd (by decide) q))))))
  refine r_iincZ (z := 1) (y := 1) hX dX2_withClocks_51 rfl (by decide) rfl rfl (r_goto (tgt := 5) hX dX2_withClocks_54 (by decide) (r_iload hX dX2_withClocks_5 rfl (r_aload_n hX dX2_withClocks_7 rfl rfl (r_get hX kf_X2_24 0 rfl rfl dX2_withClocks_8 (r_alen (v := iZ 3) hX 4 2 rfl rfl rfl dX2_withClocks_11 (r_icmp_geZ (tgt := 57) hX dX2_withClocks_12 (by decide) (by decide) (by decide) (fun q => absurd q (by decide)) (fun _ => ?_)))))))
  refine r_iconstZ hX dX2_withClocks_15 (r_istore hX dX2_withClocks_16 (by decide) rfl (r_lc5 (i0 := 0) (i1 := 1) (i2 := 3) (i3 := 5) (i4 := 6) rfl rfl rfl rfl rfl (r_iload hX dX2_withClocks_18 rfl (r_bipushZ hX dX2_withClocks_20 (by decide +kernel) (r_icmp_geZ (tgt := 51) hX dX2_withClocks_22 (by decide) (by decide) (by decide) (fun q => absurd q (by decide)) (fun _ => ?_))))))
  refine r_lload_n hX dX2_withClocks_25 rfl rfl (r_aload_n hX dX2_withClocks_26 rfl rfl (r_get hX kf_X2_24 0 rfl rfl dX2_withClocks_27 (r_iload hX dX2_withClocks_30 rfl (r_callS hX (z_X2_at_ok ad cs _ 4 _ 3 4 rfl (by decide) _ 1 (by first | with_reducible assumption | decide | omega) (by decide)) ks_X2_84 rfl rfl (Nat.le_of_ble_eq_true rfl) ⟨(Nat.le_of_ble_eq_true rfl), (Nat.le_of_ble_eq_true rfl)⟩ ⟨(Nat.le_of_ble_eq_true rfl), (Nat.le_of_ble_eq_true rfl)⟩ dX2_withClocks_32 (fun _ _ z => False.elim z) (fun v9 ws9 h19 => ?_)))))
  obtain ⟨rfl, hw9⟩ := h19
  subst ws9
  dsimp only [mPush]
  refine r_iload hX dX2_withClocks_35 rfl (r_callS hX (z_X2_clockPart _ _ (5 + 5) _ _ _ _ (zWd_loc (d := 5) (by decide)) (zrg hS (by decide)) _ (by decide)) ks_X2_193 rfl rfl (Nat.le_of_ble_eq_true rfl) ⟨(Nat.le_of_ble_eq_true rfl), (Nat.le_of_ble_eq_true rfl)⟩ ⟨(Nat.le_of_ble_eq_true rfl), (Nat.le_of_ble_eq_true rfl)⟩ dX2_withClocks_37 (fun _ _ z => False.elim z) (fun v9 ws9 h20 => ?_))
  obtain ⟨rfl, hw9⟩ := h20
  subst ws9
  dsimp only [mPush]
  refine r_i2lZ hX dX2_withClocks_40 (hbC5 _) (r_callS hX (z_X2_addedG _ _ _ _) ks_X2_247 rfl rfl (Nat.le_of_ble_eq_true rfl) ⟨(Nat.le_of_ble_eq_true rfl), (Nat.le_of_ble_eq_true rfl)⟩ ⟨(Nat.le_of_ble_eq_true rfl), (Nat.le_of_ble_eq_true rfl)⟩ dX2_withClocks_41 (fun _ _ z => False.elim z) (fun v9 ws9 h21 => ?_))
  obtain ⟨g7, hg7, rfl, hw9⟩ := h21
  subst ws9
  dsimp only [mPush]
  refine r_lstore_n hX dX2_withClocks_44 rfl (by decide) rfl (r_iincZ (z := 1) (y := 1) hX dX2_withClocks_45 rfl (by decide) rfl rfl (r_goto (tgt := 18) hX dX2_withClocks_48 (by decide) (r_iload hX dX2_withClocks_18 rfl (r_bipushZ hX dX2_withClocks_20 (by decide +kernel) (r_icmp_geZ (tgt := 51) hX dX2_withClocks_22 (by decide) (by decide) (by decide) (fun q => absurd q (by decide)) (fun _ => ?_))))))
  refine r_lload_n hX dX2_withClocks_25 rfl rfl (r_aload_n hX dX2_withClocks_26 rfl rfl (r_get hX kf_X2_24 0 rfl rfl dX2_withClocks_27 (r_iload hX dX2_withClocks_30 rfl (r_callS hX (z_X2_at_ok ad cs _ 4 _ 3 4 rfl (by decide) _ 1 (by first | with_reducible assumption | decide | omega) (by decide)) ks_X2_84 rfl rfl (Nat.le_of_ble_eq_true rfl) ⟨(Nat.le_of_ble_eq_true rfl), (Nat.le_of_ble_eq_true rfl)⟩ ⟨(Nat.le_of_ble_eq_true rfl), (Nat.le_of_ble_eq_true rfl)⟩ dX2_withClocks_32 (fun _ _ z => False.elim z) (fun v9 ws9 h22 => ?_)))))
  obtain ⟨rfl, hw9⟩ := h22
  subst ws9
  dsimp only [mPush]
  refine r_iload hX dX2_withClocks_35 rfl (r_callS hX (z_X2_clockPart _ _ (5 + 5) _ _ _ _ (zWd_loc (d := 5) (by decide)) (zrg hS (by decide)) _ (by decide)) ks_X2_193 rfl rfl (Nat.le_of_ble_eq_true rfl) ⟨(Nat.le_of_ble_eq_true rfl), (Nat.le_of_ble_eq_true rfl)⟩ ⟨(Nat.le_of_ble_eq_true rfl), (Nat.le_of_ble_eq_true rfl)⟩ dX2_withClocks_37 (fun _ _ z => False.elim z) (fun v9 ws9 h23 => ?_))
  obtain ⟨rfl, hw9⟩ := h23
  subst ws9
  dsimp only [mPush]
  refine r_i2lZ hX dX2_withClocks_40 (hbC5 _) (r_callS hX (z_X2_addedG _ _ _ _) ks_X2_247 rfl rfl (Nat.le_of_ble_eq_true rfl) ⟨(Nat.le_of_ble_eq_true rfl), (Nat.le_of_ble_eq_true rfl)⟩ ⟨(Nat.le_of_ble_eq_true rfl), (Nat.le_of_ble_eq_true rfl)⟩ dX2_withClocks_41 (fun _ _ z => False.elim z) (fun v9 ws9 h24 => ?_))
  obtain ⟨g8, hg8, rfl, hw9⟩ := h24
  subst ws9
  dsimp only [mPush]
  refine r_lstore_n hX dX2_withClocks_44 rfl (by decide) rfl (r_iincZ (z := 1) (y := 2) hX dX2_withClocks_45 rfl (by decide) rfl rfl (r_goto (tgt := 18) hX dX2_withClocks_48 (by decide) (r_iload hX dX2_withClocks_18 rfl (r_bipushZ hX dX2_withClocks_20 (by decide +kernel) (r_icmp_geZ (tgt := 51) hX dX2_withClocks_22 (by decide) (by decide) (by decide) (fun q => absurd q (by decide)) (fun _ => ?_))))))
  refine r_lload_n hX dX2_withClocks_25 rfl rfl (r_aload_n hX dX2_withClocks_26 rfl rfl (r_get hX kf_X2_24 0 rfl rfl dX2_withClocks_27 (r_iload hX dX2_withClocks_30 rfl (r_callS hX (z_X2_at_ok ad cs _ 4 _ 3 4 rfl (by decide) _ 1 (by first | with_reducible assumption | decide | omega) (by decide)) ks_X2_84 rfl rfl (Nat.le_of_ble_eq_true rfl) ⟨(Nat.le_of_ble_eq_true rfl), (Nat.le_of_ble_eq_true rfl)⟩ ⟨(Nat.le_of_ble_eq_true rfl), (Nat.le_of_ble_eq_true rfl)⟩ dX2_withClocks_32 (fun _ _ z => False.elim z) (fun v9 ws9 h25 => ?_)))))
  obtain ⟨rfl, hw9⟩ := h25
  subst ws9
  dsimp only [mPush]
  refine r_iload hX dX2_withClocks_35 rfl (r_callS hX (z_X2_clockPart _ _ (5 + 5) _ _ _ _ (zWd_loc (d := 5) (by decide)) (zrg hS (by decide)) _ (by decide)) ks_X2_193 rfl rfl (Nat.le_of_ble_eq_true rfl) ⟨(Nat.le_of_ble_eq_true rfl), (Nat.le_of_ble_eq_true rfl)⟩ ⟨(Nat.le_of_ble_eq_true rfl), (Nat.le_of_ble_eq_true rfl)⟩ dX2_withClocks_37 (fun _ _ z => False.elim z) (fun v9 ws9 h26 => ?_))
  obtain ⟨rfl, hw9⟩ := h26
  subst ws9
  dsimp only [mPush]
  refine r_i2lZ hX dX2_withClocks_40 (hbC5 _) (r_callS hX (z_X2_addedG _ _ _ _) ks_X2_247 rfl rfl (Nat.le_of_ble_eq_true rfl) ⟨(Nat.le_of_ble_eq_true rfl), (Nat.le_of_ble_eq_true rfl)⟩ ⟨(Nat.le_of_ble_eq_true rfl), (Nat.le_of_ble_eq_true rfl)⟩ dX2_withClocks_41 (fun _ _ z => False.elim z) (fun v9 ws9 h27 => ?_))
  obtain ⟨g9, hg9, rfl, hw9⟩ := h27
  subst ws9
  dsimp only [mPush]
  refine r_lstore_n hX dX2_withClocks_44 rfl (by decide) rfl (r_iincZ (z := 1) (y := 3) hX dX2_withClocks_45 rfl (by decide) rfl rfl (r_goto (tgt := 18) hX dX2_withClocks_48 (by decide) (r_iload hX dX2_withClocks_18 rfl (r_bipushZ hX dX2_withClocks_20 (by decide +kernel) (r_icmp_geZ (tgt := 51) hX dX2_withClocks_22 (by decide) (by decide) (by decide) (fun q => absurd q (by decide)) (fun _ => ?_))))))
  refine r_lload_n hX dX2_withClocks_25 rfl rfl (r_aload_n hX dX2_withClocks_26 rfl rfl (r_get hX kf_X2_24 0 rfl rfl dX2_withClocks_27 (r_iload hX dX2_withClocks_30 rfl (r_callS hX (z_X2_at_ok ad cs _ 4 _ 3 4 rfl (by decide) _ 1 (by first | with_reducible assumption | decide | omega) (by decide)) ks_X2_84 rfl rfl (Nat.le_of_ble_eq_true rfl) ⟨(Nat.le_of_ble_eq_true rfl), (Nat.le_of_ble_eq_true rfl)⟩ ⟨(Nat.le_of_ble_eq_true rfl), (Nat.le_of_ble_eq_true rfl)⟩ dX2_withClocks_32 (fun _ _ z => False.elim z) (fun v9 ws9 h28 => ?_)))))
  obtain ⟨rfl, hw9⟩ := h28
  subst ws9
  dsimp only [mPush]
  refine r_iload hX dX2_withClocks_35 rfl (r_callS hX (z_X2_clockPart _ _ (5 + 5) _ _ _ _ (zWd_loc (d := 5) (by decide)) (zrg hS (by decide)) _ (by decide)) ks_X2_193 rfl rfl (Nat.le_of_ble_eq_true rfl) ⟨(Nat.le_of_ble_eq_true rfl), (Nat.le_of_ble_eq_true rfl)⟩ ⟨(Nat.le_of_ble_eq_true rfl), (Nat.le_of_ble_eq_true rfl)⟩ dX2_withClocks_37 (fun _ _ z => False.elim z) (fun v9 ws9 h29 => ?_))
  obtain ⟨rfl, hw9⟩ := h29
  subst ws9
  dsimp only [mPush]
  refine r_i2lZ hX dX2_withClocks_40 (hbC5 _) (r_callS hX (z_X2_addedG _ _ _ _) ks_X2_247 rfl rfl (Nat.le_of_ble_eq_true rfl) ⟨(Nat.le_of_ble_eq_true rfl), (Nat.le_of_ble_eq_true rfl)⟩ ⟨(Nat.le_of_ble_eq_true rfl), (Nat.le_of_ble_eq_true rfl)⟩ dX2_withClocks_41 (fun _ _ z => False.elim z) (fun v9 ws9 h30 => ?_))
  obtain ⟨g10, hg10, rfl, hw9⟩ := h30
  subst ws9
  dsimp only [mPush]
  refine r_lstore_n hX dX2_withClocks_44 rfl (by decide) rfl (r_iincZ (z := 1) (y := 4) hX dX2_withClocks_45 rfl (by decide) rfl rfl (r_lc5 (i0 := 0) (i1 := 1) (i2 := 3) (i3 := 5) (i4 := 6) rfl rfl rfl rfl rfl (r_goto (tgt := 18) hX dX2_withClocks_48 (by decide) (r_iload hX dX2_withClocks_18 rfl (r_bipushZ hX dX2_withClocks_20 (by decide +kernel) (r_icmp_geZ (tgt := 51) hX dX2_withClocks_22 (by decide) (by decide) (by decide) (fun q => absurd q (by decide)) (fun _ => ?_)))))))
  refine r_lload_n hX dX2_withClocks_25 rfl rfl (r_aload_n hX dX2_withClocks_26 rfl rfl (r_get hX kf_X2_24 0 rfl rfl dX2_withClocks_27 (r_iload hX dX2_withClocks_30 rfl (r_callS hX (z_X2_at_ok ad cs _ 4 _ 3 4 rfl (by decide) _ 1 (by first | with_reducible assumption | decide | omega) (by decide)) ks_X2_84 rfl rfl (Nat.le_of_ble_eq_true rfl) ⟨(Nat.le_of_ble_eq_true rfl), (Nat.le_of_ble_eq_true rfl)⟩ ⟨(Nat.le_of_ble_eq_true rfl), (Nat.le_of_ble_eq_true rfl)⟩ dX2_withClocks_32 (fun _ _ z => False.elim z) (fun v9 ws9 h31 => ?_)))))
  obtain ⟨rfl, hw9⟩ := h31
  subst ws9
  dsimp only [mPush]
  refine r_iload hX dX2_withClocks_35 rfl (r_callS hX (z_X2_clockPart _ _ (5 + 5) _ _ _ _ (zWd_loc (d := 5) (by decide)) (zrg hS (by decide)) _ (by decide)) ks_X2_193 rfl rfl (Nat.le_of_ble_eq_true rfl) ⟨(Nat.le_of_ble_eq_true rfl), (Nat.le_of_ble_eq_true rfl)⟩ ⟨(Nat.le_of_ble_eq_true rfl), (Nat.le_of_ble_eq_true rfl)⟩ dX2_withClocks_37 (fun _ _ z => False.elim z) (fun v9 ws9 h32 => ?_))
  obtain ⟨rfl, hw9⟩ := h32
  subst ws9
  dsimp only [mPush]
  refine r_i2lZ hX dX2_withClocks_40 (hbC5 _) (r_callS hX (z_X2_addedG _ _ _ _) ks_X2_247 rfl rfl (Nat.le_of_ble_eq_true rfl) ⟨(Nat.le_of_ble_eq_true rfl), (Nat.le_of_ble_eq_true rfl)⟩ ⟨(Nat.le_of_ble_eq_true rfl), (Nat.le_of_ble_eq_true rfl)⟩ dX2_withClocks_41 (fun _ _ z => False.elim z) (fun v9 ws9 h33 => ?_))
  obtain ⟨g11, hg11, rfl, hw9⟩ := h33
  subst ws9
  dsimp only [mPush]
  refine r_lstore_n hX dX2_withClocks_44 rfl (by decide) rfl (r_iincZ (z := 1) (y := 5) hX dX2_withClocks_45 rfl (by decide) rfl rfl (r_goto (tgt := 18) hX dX2_withClocks_48 (by decide) (r_iload hX dX2_withClocks_18 rfl (r_bipushZ hX dX2_withClocks_20 (by decide +kernel) (r_icmp_geZ (tgt := 51) hX dX2_withClocks_22 (by decide) (by decide) (by decide) (fun q => absurd q (by decide)) (fun _ => ?_))))))
  refine r_lload_n hX dX2_withClocks_25 rfl rfl (r_aload_n hX dX2_withClocks_26 rfl rfl (r_get hX kf_X2_24 0 rfl rfl dX2_withClocks_27 (r_iload hX dX2_withClocks_30 rfl (r_callS hX (z_X2_at_ok ad cs _ 4 _ 3 4 rfl (by decide) _ 1 (by first | with_reducible assumption | decide | omega) (by decide)) ks_X2_84 rfl rfl (Nat.le_of_ble_eq_true rfl) ⟨(Nat.le_of_ble_eq_true rfl), (Nat.le_of_ble_eq_true rfl)⟩ ⟨(Nat.le_of_ble_eq_true rfl), (Nat.le_of_ble_eq_true rfl)⟩ dX2_withClocks_32 (fun _ _ z => False.elim z) (fun v9 ws9 h34 => ?_)))))
  obtain ⟨rfl, hw9⟩ := h34
  subst ws9
  dsimp only [mPush]
  refine r_iload hX dX2_withClocks_35 rfl (r_callS hX (z_X2_clockPart _ _ (5 + 5) _ _ _ _ (zWd_loc (d := 5) (by decide)) (zrg hS (by decide)) _ (by decide)) ks_X2_193 rfl rfl (Nat.le_of_ble_eq_true rfl) ⟨(Nat.le_of_ble_eq_true rfl), (Nat.le_of_ble_eq_true rfl)⟩ ⟨(Nat.le_of_ble_eq_true rfl), (Nat.le_of_ble_eq_true rfl)⟩ dX2_withClocks_37 (fun _ _ z => False.elim z) (fun v9 ws9 h35 => ?_))
  obtain ⟨rfl, hw9⟩ := h35
  subst ws9
  dsimp only [mPush]
  refine r_i2lZ hX dX2_withClocks_40 (hbC5 _) (r_callS hX (z_X2_addedG _ _ _ _) ks_X2_247 rfl rfl (Nat.le_of_ble_eq_true rfl) ⟨(Nat.le_of_ble_eq_true rfl), (Nat.le_of_ble_eq_true rfl)⟩ ⟨(Nat.le_of_ble_eq_true rfl), (Nat.le_of_ble_eq_true rfl)⟩ dX2_withClocks_41 (fun _ _ z => False.elim z) (fun v9 ws9 h36 => ?_))
  obtain ⟨g12, hg12, rfl, hw9⟩ := h36
  subst ws9
  dsimp only [mPush]
  refine r_lstore_n hX dX2_withClocks_44 rfl (by decide) rfl (r_iincZ (z := 1) (y := 6) hX dX2_withClocks_45 rfl (by decide) rfl rfl (r_goto (tgt := 18) hX dX2_withClocks_48 (by decide) (r_iload hX dX2_withClocks_18 rfl (r_bipushZ hX dX2_withClocks_20 (by decide +kernel) (r_icmp_geZ (tgt := 51) hX dX2_withClocks_22 (by decide) (by decide) (by decide) (fun _ => ?_) (fun q => absurd (by decide) q))))))
  refine r_iincZ (z := 1) (y := 2) hX dX2_withClocks_51 rfl (by decide) rfl rfl (r_goto (tgt := 5) hX dX2_withClocks_54 (by decide) (r_iload hX dX2_withClocks_5 rfl (r_aload_n hX dX2_withClocks_7 rfl rfl (r_get hX kf_X2_24 0 rfl rfl dX2_withClocks_8 (r_alen (v := iZ 3) hX 4 2 rfl rfl rfl dX2_withClocks_11 (r_icmp_geZ (tgt := 57) hX dX2_withClocks_12 (by decide) (by decide) (by decide) (fun q => absurd q (by decide)) (fun _ => ?_)))))))
  refine r_iconstZ hX dX2_withClocks_15 (r_istore hX dX2_withClocks_16 (by decide) rfl (r_iload hX dX2_withClocks_18 rfl (r_bipushZ hX dX2_withClocks_20 (by decide +kernel) (r_icmp_geZ (tgt := 51) hX dX2_withClocks_22 (by decide) (by decide) (by decide) (fun q => absurd q (by decide)) (fun _ => ?_)))))
  refine r_lload_n hX dX2_withClocks_25 rfl rfl (r_aload_n hX dX2_withClocks_26 rfl rfl (r_get hX kf_X2_24 0 rfl rfl dX2_withClocks_27 (r_iload hX dX2_withClocks_30 rfl (r_callS hX (z_X2_at_ok ad cs _ 4 _ 3 4 rfl (by decide) _ 2 (by first | with_reducible assumption | decide | omega) (by decide)) ks_X2_84 rfl rfl (Nat.le_of_ble_eq_true rfl) ⟨(Nat.le_of_ble_eq_true rfl), (Nat.le_of_ble_eq_true rfl)⟩ ⟨(Nat.le_of_ble_eq_true rfl), (Nat.le_of_ble_eq_true rfl)⟩ dX2_withClocks_32 (fun _ _ z => False.elim z) (fun v9 ws9 h37 => ?_)))))
  obtain ⟨rfl, hw9⟩ := h37
  subst ws9
  dsimp only [mPush]
  refine r_iload hX dX2_withClocks_35 rfl (r_callS hX (z_X2_clockPart _ _ (6 + 5) _ _ _ _ (zWd_loc (d := 6) (by decide)) (zrg hS (by decide)) _ (by decide)) ks_X2_193 rfl rfl (Nat.le_of_ble_eq_true rfl) ⟨(Nat.le_of_ble_eq_true rfl), (Nat.le_of_ble_eq_true rfl)⟩ ⟨(Nat.le_of_ble_eq_true rfl), (Nat.le_of_ble_eq_true rfl)⟩ dX2_withClocks_37 (fun _ _ z => False.elim z) (fun v9 ws9 h38 => ?_))
  obtain ⟨rfl, hw9⟩ := h38
  subst ws9
  dsimp only [mPush]
  refine r_i2lZ hX dX2_withClocks_40 (hbC6 _) (r_callS hX (z_X2_addedG _ _ _ _) ks_X2_247 rfl rfl (Nat.le_of_ble_eq_true rfl) ⟨(Nat.le_of_ble_eq_true rfl), (Nat.le_of_ble_eq_true rfl)⟩ ⟨(Nat.le_of_ble_eq_true rfl), (Nat.le_of_ble_eq_true rfl)⟩ dX2_withClocks_41 (fun _ _ z => False.elim z) (fun v9 ws9 h39 => ?_))
  obtain ⟨g13, hg13, rfl, hw9⟩ := h39
  subst ws9
  dsimp only [mPush]
  refine r_lstore_n hX dX2_withClocks_44 rfl (by decide) rfl (r_iincZ (z := 1) (y := 1) hX dX2_withClocks_45 rfl (by decide) rfl rfl (r_goto (tgt := 18) hX dX2_withClocks_48 (by decide) (r_iload hX dX2_withClocks_18 rfl (r_bipushZ hX dX2_withClocks_20 (by decide +kernel) (r_icmp_geZ (tgt := 51) hX dX2_withClocks_22 (by decide) (by decide) (by decide) (fun q => absurd q (by decide)) (fun _ => ?_))))))
  refine r_lload_n hX dX2_withClocks_25 rfl rfl (r_aload_n hX dX2_withClocks_26 rfl rfl (r_get hX kf_X2_24 0 rfl rfl dX2_withClocks_27 (r_iload hX dX2_withClocks_30 rfl (r_callS hX (z_X2_at_ok ad cs _ 4 _ 3 4 rfl (by decide) _ 2 (by first | with_reducible assumption | decide | omega) (by decide)) ks_X2_84 rfl rfl (Nat.le_of_ble_eq_true rfl) ⟨(Nat.le_of_ble_eq_true rfl), (Nat.le_of_ble_eq_true rfl)⟩ ⟨(Nat.le_of_ble_eq_true rfl), (Nat.le_of_ble_eq_true rfl)⟩ dX2_withClocks_32 (fun _ _ z => False.elim z) (fun v9 ws9 h40 => ?_)))))
  obtain ⟨rfl, hw9⟩ := h40
  subst ws9
  dsimp only [mPush]
  refine r_iload hX dX2_withClocks_35 rfl (r_callS hX (z_X2_clockPart _ _ (6 + 5) _ _ _ _ (zWd_loc (d := 6) (by decide)) (zrg hS (by decide)) _ (by decide)) ks_X2_193 rfl rfl (Nat.le_of_ble_eq_true rfl) ⟨(Nat.le_of_ble_eq_true rfl), (Nat.le_of_ble_eq_true rfl)⟩ ⟨(Nat.le_of_ble_eq_true rfl), (Nat.le_of_ble_eq_true rfl)⟩ dX2_withClocks_37 (fun _ _ z => False.elim z) (fun v9 ws9 h41 => ?_))
  obtain ⟨rfl, hw9⟩ := h41
  subst ws9
  dsimp only [mPush]
  refine r_i2lZ hX dX2_withClocks_40 (hbC6 _) (r_callS hX (z_X2_addedG _ _ _ _) ks_X2_247 rfl rfl (Nat.le_of_ble_eq_true rfl) ⟨(Nat.le_of_ble_eq_true rfl), (Nat.le_of_ble_eq_true rfl)⟩ ⟨(Nat.le_of_ble_eq_true rfl), (Nat.le_of_ble_eq_true rfl)⟩ dX2_withClocks_41 (fun _ _ z => False.elim z) (fun v9 ws9 h42 => ?_))
  obtain ⟨g14, hg14, rfl, hw9⟩ := h42
  subst ws9
  dsimp only [mPush]
  refine r_lstore_n hX dX2_withClocks_44 rfl (by decide) rfl (r_lc5 (i0 := 0) (i1 := 1) (i2 := 3) (i3 := 5) (i4 := 6) rfl rfl rfl rfl rfl (r_iincZ (z := 1) (y := 2) hX dX2_withClocks_45 rfl (by decide) rfl rfl (r_goto (tgt := 18) hX dX2_withClocks_48 (by decide) (r_iload hX dX2_withClocks_18 rfl (r_bipushZ hX dX2_withClocks_20 (by decide +kernel) (r_icmp_geZ (tgt := 51) hX dX2_withClocks_22 (by decide) (by decide) (by decide) (fun q => absurd q (by decide)) (fun _ => ?_)))))))
  refine r_lload_n hX dX2_withClocks_25 rfl rfl (r_aload_n hX dX2_withClocks_26 rfl rfl (r_get hX kf_X2_24 0 rfl rfl dX2_withClocks_27 (r_iload hX dX2_withClocks_30 rfl (r_callS hX (z_X2_at_ok ad cs _ 4 _ 3 4 rfl (by decide) _ 2 (by first | with_reducible assumption | decide | omega) (by decide)) ks_X2_84 rfl rfl (Nat.le_of_ble_eq_true rfl) ⟨(Nat.le_of_ble_eq_true rfl), (Nat.le_of_ble_eq_true rfl)⟩ ⟨(Nat.le_of_ble_eq_true rfl), (Nat.le_of_ble_eq_true rfl)⟩ dX2_withClocks_32 (fun _ _ z => False.elim z) (fun v9 ws9 h43 => ?_)))))
  obtain ⟨rfl, hw9⟩ := h43
  subst ws9
  dsimp only [mPush]
  refine r_iload hX dX2_withClocks_35 rfl (r_callS hX (z_X2_clockPart _ _ (6 + 5) _ _ _ _ (zWd_loc (d := 6) (by decide)) (zrg hS (by decide)) _ (by decide)) ks_X2_193 rfl rfl (Nat.le_of_ble_eq_true rfl) ⟨(Nat.le_of_ble_eq_true rfl), (Nat.le_of_ble_eq_true rfl)⟩ ⟨(Nat.le_of_ble_eq_true rfl), (Nat.le_of_ble_eq_true rfl)⟩ dX2_withClocks_37 (fun _ _ z => False.elim z) (fun v9 ws9 h44 => ?_))
  obtain ⟨rfl, hw9⟩ := h44
  subst ws9
  dsimp only [mPush]
  refine r_i2lZ hX dX2_withClocks_40 (hbC6 _) (r_callS hX (z_X2_addedG _ _ _ _) ks_X2_247 rfl rfl (Nat.le_of_ble_eq_true rfl) ⟨(Nat.le_of_ble_eq_true rfl), (Nat.le_of_ble_eq_true rfl)⟩ ⟨(Nat.le_of_ble_eq_true rfl), (Nat.le_of_ble_eq_true rfl)⟩ dX2_withClocks_41 (fun _ _ z => False.elim z) (fun v9 ws9 h45 => ?_))
  obtain ⟨g15, hg15, rfl, hw9⟩ := h45
  subst ws9
  dsimp only [mPush]
  refine r_lstore_n hX dX2_withClocks_44 rfl (by decide) rfl (r_iincZ (z := 1) (y := 3) hX dX2_withClocks_45 rfl (by decide) rfl rfl (r_goto (tgt := 18) hX dX2_withClocks_48 (by decide) (r_iload hX dX2_withClocks_18 rfl (r_bipushZ hX dX2_withClocks_20 (by decide +kernel) (r_icmp_geZ (tgt := 51) hX dX2_withClocks_22 (by decide) (by decide) (by decide) (fun q => absurd q (by decide)) (fun _ => ?_))))))
  refine r_lload_n hX dX2_withClocks_25 rfl rfl (r_aload_n hX dX2_withClocks_26 rfl rfl (r_get hX kf_X2_24 0 rfl rfl dX2_withClocks_27 (r_iload hX dX2_withClocks_30 rfl (r_callS hX (z_X2_at_ok ad cs _ 4 _ 3 4 rfl (by decide) _ 2 (by first | with_reducible assumption | decide | omega) (by decide)) ks_X2_84 rfl rfl (Nat.le_of_ble_eq_true rfl) ⟨(Nat.le_of_ble_eq_true rfl), (Nat.le_of_ble_eq_true rfl)⟩ ⟨(Nat.le_of_ble_eq_true rfl), (Nat.le_of_ble_eq_true rfl)⟩ dX2_withClocks_32 (fun _ _ z => False.elim z) (fun v9 ws9 h46 => ?_)))))
  obtain ⟨rfl, hw9⟩ := h46
  subst ws9
  dsimp only [mPush]
  refine r_iload hX dX2_withClocks_35 rfl (r_callS hX (z_X2_clockPart _ _ (6 + 5) _ _ _ _ (zWd_loc (d := 6) (by decide)) (zrg hS (by decide)) _ (by decide)) ks_X2_193 rfl rfl (Nat.le_of_ble_eq_true rfl) ⟨(Nat.le_of_ble_eq_true rfl), (Nat.le_of_ble_eq_true rfl)⟩ ⟨(Nat.le_of_ble_eq_true rfl), (Nat.le_of_ble_eq_true rfl)⟩ dX2_withClocks_37 (fun _ _ z => False.elim z) (fun v9 ws9 h47 => ?_))
  obtain ⟨rfl, hw9⟩ := h47
  subst ws9
  dsimp only [mPush]
  refine r_i2lZ hX dX2_withClocks_40 (hbC6 _) (r_callS hX (z_X2_addedG _ _ _ _) ks_X2_247 rfl rfl (Nat.le_of_ble_eq_true rfl) ⟨(Nat.le_of_ble_eq_true rfl), (Nat.le_of_ble_eq_true rfl)⟩ ⟨(Nat.le_of_ble_eq_true rfl), (Nat.le_of_ble_eq_true rfl)⟩ dX2_withClocks_41 (fun _ _ z => False.elim z) (fun v9 ws9 h48 => ?_))
  obtain ⟨g16, hg16, rfl, hw9⟩ := h48
  subst ws9
  dsimp only [mPush]
  refine r_lstore_n hX dX2_withClocks_44 rfl (by decide) rfl (r_iincZ (z := 1) (y := 4) hX dX2_withClocks_45 rfl (by decide) rfl rfl (r_goto (tgt := 18) hX dX2_withClocks_48 (by decide) (r_iload hX dX2_withClocks_18 rfl (r_bipushZ hX dX2_withClocks_20 (by decide +kernel) (r_icmp_geZ (tgt := 51) hX dX2_withClocks_22 (by decide) (by decide) (by decide) (fun q => absurd q (by decide)) (fun _ => ?_))))))
  refine r_lload_n hX dX2_withClocks_25 rfl rfl (r_aload_n hX dX2_withClocks_26 rfl rfl (r_get hX kf_X2_24 0 rfl rfl dX2_withClocks_27 (r_iload hX dX2_withClocks_30 rfl (r_callS hX (z_X2_at_ok ad cs _ 4 _ 3 4 rfl (by decide) _ 2 (by first | with_reducible assumption | decide | omega) (by decide)) ks_X2_84 rfl rfl (Nat.le_of_ble_eq_true rfl) ⟨(Nat.le_of_ble_eq_true rfl), (Nat.le_of_ble_eq_true rfl)⟩ ⟨(Nat.le_of_ble_eq_true rfl), (Nat.le_of_ble_eq_true rfl)⟩ dX2_withClocks_32 (fun _ _ z => False.elim z) (fun v9 ws9 h49 => ?_)))))
  obtain ⟨rfl, hw9⟩ := h49
  subst ws9
  dsimp only [mPush]
  refine r_iload hX dX2_withClocks_35 rfl (r_callS hX (z_X2_clockPart _ _ (6 + 5) _ _ _ _ (zWd_loc (d := 6) (by decide)) (zrg hS (by decide)) _ (by decide)) ks_X2_193 rfl rfl (Nat.le_of_ble_eq_true rfl) ⟨(Nat.le_of_ble_eq_true rfl), (Nat.le_of_ble_eq_true rfl)⟩ ⟨(Nat.le_of_ble_eq_true rfl), (Nat.le_of_ble_eq_true rfl)⟩ dX2_withClocks_37 (fun _ _ z => False.elim z) (fun v9 ws9 h50 => ?_))
  obtain ⟨rfl, hw9⟩ := h50
  subst ws9
  dsimp only [mPush]
  refine r_i2lZ hX dX2_withClocks_40 (hbC6 _) (r_callS hX (z_X2_addedG _ _ _ _) ks_X2_247 rfl rfl (Nat.le_of_ble_eq_true rfl) ⟨(Nat.le_of_ble_eq_true rfl), (Nat.le_of_ble_eq_true rfl)⟩ ⟨(Nat.le_of_ble_eq_true rfl), (Nat.le_of_ble_eq_true rfl)⟩ dX2_withClocks_41 (fun _ _ z => False.elim z) (fun v9 ws9 h51 => ?_))
  obtain ⟨g17, hg17, rfl, hw9⟩ := h51
  subst ws9
  dsimp only [mPush]
  refine r_lstore_n hX dX2_withClocks_44 rfl (by decide) rfl (r_iincZ (z := 1) (y := 5) hX dX2_withClocks_45 rfl (by decide) rfl rfl (r_goto (tgt := 18) hX dX2_withClocks_48 (by decide) (r_iload hX dX2_withClocks_18 rfl (r_bipushZ hX dX2_withClocks_20 (by decide +kernel) (r_icmp_geZ (tgt := 51) hX dX2_withClocks_22 (by decide) (by decide) (by decide) (fun q => absurd q (by decide)) (fun _ => ?_))))))
  refine r_lload_n hX dX2_withClocks_25 rfl rfl (r_aload_n hX dX2_withClocks_26 rfl rfl (r_get hX kf_X2_24 0 rfl rfl dX2_withClocks_27 (r_iload hX dX2_withClocks_30 rfl (r_callS hX (z_X2_at_ok ad cs _ 4 _ 3 4 rfl (by decide) _ 2 (by first | with_reducible assumption | decide | omega) (by decide)) ks_X2_84 rfl rfl (Nat.le_of_ble_eq_true rfl) ⟨(Nat.le_of_ble_eq_true rfl), (Nat.le_of_ble_eq_true rfl)⟩ ⟨(Nat.le_of_ble_eq_true rfl), (Nat.le_of_ble_eq_true rfl)⟩ dX2_withClocks_32 (fun _ _ z => False.elim z) (fun v9 ws9 h52 => ?_)))))
  obtain ⟨rfl, hw9⟩ := h52
  subst ws9
  dsimp only [mPush]
  refine r_iload hX dX2_withClocks_35 rfl (r_callS hX (z_X2_clockPart _ _ (6 + 5) _ _ _ _ (zWd_loc (d := 6) (by decide)) (zrg hS (by decide)) _ (by decide)) ks_X2_193 rfl rfl (Nat.le_of_ble_eq_true rfl) ⟨(Nat.le_of_ble_eq_true rfl), (Nat.le_of_ble_eq_true rfl)⟩ ⟨(Nat.le_of_ble_eq_true rfl), (Nat.le_of_ble_eq_true rfl)⟩ dX2_withClocks_37 (fun _ _ z => False.elim z) (fun v9 ws9 h53 => ?_))
  obtain ⟨rfl, hw9⟩ := h53
  subst ws9
  dsimp only [mPush]
  refine r_i2lZ hX dX2_withClocks_40 (hbC6 _) (r_callS hX (z_X2_addedG _ _ _ _) ks_X2_247 rfl rfl (Nat.le_of_ble_eq_true rfl) ⟨(Nat.le_of_ble_eq_true rfl), (Nat.le_of_ble_eq_true rfl)⟩ ⟨(Nat.le_of_ble_eq_true rfl), (Nat.le_of_ble_eq_true rfl)⟩ dX2_withClocks_41 (fun _ _ z => False.elim z) (fun v9 ws9 h54 => ?_))
  obtain ⟨g18, hg18, rfl, hw9⟩ := h54
  subst ws9
  dsimp only [mPush]
  refine r_lstore_n hX dX2_withClocks_44 rfl (by decide) rfl (r_lc5 (i0 := 0) (i1 := 1) (i2 := 3) (i3 := 5) (i4 := 6) rfl rfl rfl rfl rfl (r_iincZ (z := 1) (y := 6) hX dX2_withClocks_45 rfl (by decide) rfl rfl (r_goto (tgt := 18) hX dX2_withClocks_48 (by decide) (r_iload hX dX2_withClocks_18 rfl (r_bipushZ hX dX2_withClocks_20 (by decide +kernel) (r_icmp_geZ (tgt := 51) hX dX2_withClocks_22 (by decide) (by decide) (by decide) (fun _ => ?_) (fun q => absurd (by decide) q)))))))
  refine r_iincZ (z := 1) (y := 3) hX dX2_withClocks_51 rfl (by decide) rfl rfl (r_goto (tgt := 5) hX dX2_withClocks_54 (by decide) (r_iload hX dX2_withClocks_5 rfl (r_aload_n hX dX2_withClocks_7 rfl rfl (r_get hX kf_X2_24 0 rfl rfl dX2_withClocks_8 (r_alen (v := iZ 3) hX 4 2 rfl rfl rfl dX2_withClocks_11 (r_icmp_geZ (tgt := 57) hX dX2_withClocks_12 (by decide) (by decide) (by decide) (fun _ => ?_) (fun q => absurd (by decide) q)))))))
  refine r_lload_n hX dX2_withClocks_57 rfl rfl ?_
  exact r_lret hX hE dX2_withClocks_58 (Nat.le_of_ble_eq_true rfl) (Nat.le_of_ble_eq_true rfl) ⟨zl (((dg_step hg1).trans ((dg_step hg2).trans ((dg_step hg3).trans ((dg_step hg4).trans ((dg_step hg5).trans ((dg_step hg6).trans ((dg_step hg7).trans ((dg_step hg8).trans ((dg_step hg9).trans ((dg_step hg10).trans ((dg_step hg11).trans ((dg_step hg12).trans ((dg_step hg13).trans ((dg_step hg14).trans ((dg_step hg15).trans ((dg_step hg16).trans ((dg_step hg17).trans (dg_step (l := []) hg18))))))))))))))))))).symm, rfl⟩
theorem cond_b (b : Bool) : 0 ≤ cond b (1 : Int) 0 ∧ cond b (1 : Int) 0 ≤ 1 := by cases b <;> simp
section ZR4
variable {X : mC} {own : String} {cc : ByteArray} {nL : Nat} {R : Room} {hh : List (Nat × Nat × Nat × Nat)} {tys : List (ClassId × FieldType)} {pc : Nat} {lv : List (Nat × Option Value)} {st : List Value} {ws : va_W} {k n : Nat}
theorem r_selL {b : Bool} (hX : mOK X own cc nL R hh tys) (d0 : decode cc pc = .ok (.ifCond .eq 7, 3)) (d3 : decode cc (pc + 3) = .ok (.lconst 1, 1)) (d4 : decode cc (pc + 4) = .ok (.goto 4, 3)) (d7 : decode cc (pc + 7) = .ok (.lconst 0, 1)) (kk : mV X (pc + 8) lv (.long (lZ (cond b 1 0)) :: st) ws k n) : mV X pc lv (.int (b2i b) :: st) ws k n := by
  cases b
  · refine r_if_eqB (tgt := pc + 7) hX d0 (by first | with_reducible assumption | decide | omega) (fun _ => ?_) (fun h => by cases h)
    exact r_lconstZ (v := 0) hX d7 rfl kk
  · refine r_if_eqB (tgt := pc + 7) hX d0 (by first | with_reducible assumption | decide | omega) (fun h => by cases h) (fun _ => ?_)
    refine r_lconstZ (v := 1) hX d3 rfl ?_
    exact r_goto (tgt := pc + 8) hX d4 (by first | with_reducible assumption | decide | omega) kk
end ZR4
end
-- 6f zdig2
section
/-! The class, exact (rows by a program of this repository). -/
set_option maxHeartbeats 4000000 in
set_option maxRecDepth 20000 in
theorem z_X2_withDatePairs (ad : Nat → Nat) (cs : ClassId × ClassId × ClassId) (S : mS) (T : mT2) (rest : va_W) (hS : sWF S) (s : Int)  : mCt (mTy cs) yX2_withDatePairs cX2_withDatePairs 7 (some .long) ⟨3, 0, 0, 67⟩ [.ref (ad 0), .long (lZ s)] (mWd ad cs (mKof S T) rest) (fun v ws' => v = some (.long (lZ (dDp S s))) ∧ ws' = (mWd ad cs (mKof S T) rest)) mNo := by
  refine mCt.of (by decide +kernel) (Nat.le_of_ble_eq_true rfl) (fun X hX hE => ?_)
  replace hX : mOK X RX2 cX2_withDatePairs 7 ⟨3, 0, 0, 67⟩ [] (mTy cs) := hX
  refine r_lload_n hX dX2_withDatePairs_0 rfl rfl (r_lstore_n hX dX2_withDatePairs_1 rfl (by decide) rfl (r_iconstZ hX dX2_withDatePairs_2 (r_istore hX dX2_withDatePairs_3 (by decide) rfl (r_iload hX dX2_withDatePairs_5 rfl (r_aload_n hX dX2_withDatePairs_7 rfl rfl (r_get hX kf_X2_20 0 rfl rfl dX2_withDatePairs_8 (r_alen (v := iZ 4) hX 3 2 rfl rfl rfl dX2_withDatePairs_11 ?_)))))))
  refine r_icmp_geZ (tgt := 101) hX dX2_withDatePairs_12 (by decide) (by decide) (by decide) (fun q => absurd q (by decide)) (fun _ => ?_)
  refine r_iconstZ hX dX2_withDatePairs_15 (r_istore hX dX2_withDatePairs_16 (by decide) rfl (r_iload hX dX2_withDatePairs_18 rfl (r_aload_n hX dX2_withDatePairs_20 rfl rfl (r_get hX kf_X2_20 0 rfl rfl dX2_withDatePairs_21 (r_alen (v := iZ 4) hX 3 2 rfl rfl rfl dX2_withDatePairs_24 (r_icmp_geZ (tgt := 95) hX dX2_withDatePairs_25 (by decide) (by decide) (by decide) (fun q => absurd q (by decide)) (fun _ => ?_)))))))
  refine r_lload_n hX dX2_withDatePairs_28 rfl rfl (r_aload_n hX dX2_withDatePairs_29 rfl rfl (r_get hX kf_X2_20 0 rfl rfl dX2_withDatePairs_30 (r_iload hX dX2_withDatePairs_33 rfl (r_callS hX (z_X2_at_ok ad cs _ 3 _ 4 0 rfl (by decide) _ 0 (by first | with_reducible assumption | decide | omega) (by decide)) ks_X2_84 rfl rfl (Nat.le_of_ble_eq_true rfl) ⟨(Nat.le_of_ble_eq_true rfl), (Nat.le_of_ble_eq_true rfl)⟩ ⟨(Nat.le_of_ble_eq_true rfl), (Nat.le_of_ble_eq_true rfl)⟩ dX2_withDatePairs_35 (fun _ _ z => False.elim z) (fun v9 ws9 h1 => ?_)))))
  obtain ⟨rfl, hw9⟩ := h1
  subst ws9
  dsimp only [mPush]
  refine r_aload_n hX dX2_withDatePairs_38 rfl rfl (r_get hX kf_X2_20 0 rfl rfl dX2_withDatePairs_39 (r_iload hX dX2_withDatePairs_42 rfl (r_callS hX (z_X2_at_ok ad cs _ 3 _ 4 0 rfl (by decide) _ 0 (by first | with_reducible assumption | decide | omega) (by decide)) ks_X2_84 rfl rfl (Nat.le_of_ble_eq_true rfl) ⟨(Nat.le_of_ble_eq_true rfl), (Nat.le_of_ble_eq_true rfl)⟩ ⟨(Nat.le_of_ble_eq_true rfl), (Nat.le_of_ble_eq_true rfl)⟩ dX2_withDatePairs_44 (fun _ _ z => False.elim z) (fun v9 ws9 h2 => ?_))))
  obtain ⟨rfl, hw9⟩ := h2
  subst ws9
  dsimp only [mPush]
  refine r_callV hX (z_X1_orderTo _ _ (0 + 5) _ _ _ _ (zWd_loc (d := 0) (by decide)) (zrg hS (by decide)) (0 + 5) _ _ _ _ (zWd_loc (d := 0) (by decide)) (zrg hS (by decide))) kv_X2_179 (0 + 5) (zWd_loc (d := 0) (by decide)) rfl rfl rfl (Nat.le_of_ble_eq_true rfl) ⟨(Nat.le_of_ble_eq_true rfl), (Nat.le_of_ble_eq_true rfl)⟩ ⟨(Nat.le_of_ble_eq_true rfl), (Nat.le_of_ble_eq_true rfl)⟩ dX2_withDatePairs_47 (fun _ _ z => False.elim z) (fun v9 ws9 h3 => ?_)
  obtain ⟨rfl, hw9⟩ := h3
  subst ws9
  dsimp only [mPush]
  have hb3 := zTo_b (sse S 0) (sna S 0) (sow S 0) (sse S 0) (sna S 0) (sow S 0)
  refine r_i2lZ hX dX2_withDatePairs_50 (by first | with_reducible assumption | decide | omega) (r_callS hX (z_X2_addedG _ _ _ _) ks_X2_247 rfl rfl (Nat.le_of_ble_eq_true rfl) ⟨(Nat.le_of_ble_eq_true rfl), (Nat.le_of_ble_eq_true rfl)⟩ ⟨(Nat.le_of_ble_eq_true rfl), (Nat.le_of_ble_eq_true rfl)⟩ dX2_withDatePairs_51 (fun _ _ z => False.elim z) (fun v9 ws9 h4 => ?_))
  obtain ⟨g1, hg1, rfl, hw9⟩ := h4
  subst ws9
  dsimp only [mPush]
  refine r_lstore_n hX dX2_withDatePairs_54 rfl (by decide) rfl (r_lload_n hX dX2_withDatePairs_55 rfl rfl (r_aload_n hX dX2_withDatePairs_56 rfl rfl (r_get hX kf_X2_20 0 rfl rfl dX2_withDatePairs_57 (r_iload hX dX2_withDatePairs_60 rfl (r_callS hX (z_X2_at_ok ad cs _ 3 _ 4 0 rfl (by decide) _ 0 (by first | with_reducible assumption | decide | omega) (by decide)) ks_X2_84 rfl rfl (Nat.le_of_ble_eq_true rfl) ⟨(Nat.le_of_ble_eq_true rfl), (Nat.le_of_ble_eq_true rfl)⟩ ⟨(Nat.le_of_ble_eq_true rfl), (Nat.le_of_ble_eq_true rfl)⟩ dX2_withDatePairs_62 (fun _ _ z => False.elim z) (fun v9 ws9 h5 => ?_))))))
  obtain ⟨rfl, hw9⟩ := h5
  subst ws9
  dsimp only [mPush]
  refine r_aload_n hX dX2_withDatePairs_65 rfl rfl (r_get hX kf_X2_20 0 rfl rfl dX2_withDatePairs_66 (r_iload hX dX2_withDatePairs_69 rfl (r_callS hX (z_X2_at_ok ad cs _ 3 _ 4 0 rfl (by decide) _ 0 (by first | with_reducible assumption | decide | omega) (by decide)) ks_X2_84 rfl rfl (Nat.le_of_ble_eq_true rfl) ⟨(Nat.le_of_ble_eq_true rfl), (Nat.le_of_ble_eq_true rfl)⟩ ⟨(Nat.le_of_ble_eq_true rfl), (Nat.le_of_ble_eq_true rfl)⟩ dX2_withDatePairs_71 (fun _ _ z => False.elim z) (fun v9 ws9 h6 => ?_))))
  obtain ⟨rfl, hw9⟩ := h6
  subst ws9
  dsimp only [mPush]
  refine r_callV hX (z_X1_isAlike _ _ (0 + 5) _ _ _ _ (zWd_loc (d := 0) (by decide)) (zrg hS (by decide)) (0 + 5) _ _ _ _ (zWd_loc (d := 0) (by decide)) (zrg hS (by decide))) kv_X2_360 (0 + 5) (zWd_loc (d := 0) (by decide)) rfl rfl rfl (Nat.le_of_ble_eq_true rfl) ⟨(Nat.le_of_ble_eq_true rfl), (Nat.le_of_ble_eq_true rfl)⟩ ⟨(Nat.le_of_ble_eq_true rfl), (Nat.le_of_ble_eq_true rfl)⟩ dX2_withDatePairs_74 (fun _ _ z => False.elim z) (fun v9 ws9 h7 => ?_)
  obtain ⟨rfl, hw9⟩ := h7
  subst ws9
  dsimp only [mPush]
  refine r_selL hX dX2_withDatePairs_77 dX2_withDatePairs_80 dX2_withDatePairs_81 dX2_withDatePairs_84 (r_callS hX (z_X2_addedG _ _ _ _) ks_X2_247 rfl rfl (Nat.le_of_ble_eq_true rfl) ⟨(Nat.le_of_ble_eq_true rfl), (Nat.le_of_ble_eq_true rfl)⟩ ⟨(Nat.le_of_ble_eq_true rfl), (Nat.le_of_ble_eq_true rfl)⟩ dX2_withDatePairs_85 (fun _ _ z => False.elim z) (fun v9 ws9 h8 => ?_))
  obtain ⟨g2, hg2, rfl, hw9⟩ := h8
  subst ws9
  dsimp only [mPush]
  refine r_lstore_n hX dX2_withDatePairs_88 rfl (by decide) rfl (r_iincZ (z := 1) (y := 1) hX dX2_withDatePairs_89 rfl (by decide) rfl rfl (r_goto (tgt := 18) hX dX2_withDatePairs_92 (by decide) (r_iload hX dX2_withDatePairs_18 rfl (r_aload_n hX dX2_withDatePairs_20 rfl rfl (r_get hX kf_X2_20 0 rfl rfl dX2_withDatePairs_21 (r_alen (v := iZ 4) hX 3 2 rfl rfl rfl dX2_withDatePairs_24 (r_icmp_geZ (tgt := 95) hX dX2_withDatePairs_25 (by decide) (by decide) (by decide) (fun q => absurd q (by decide)) (fun _ => ?_))))))))
  refine r_lload_n hX dX2_withDatePairs_28 rfl rfl (r_aload_n hX dX2_withDatePairs_29 rfl rfl (r_get hX kf_X2_20 0 rfl rfl dX2_withDatePairs_30 (r_iload hX dX2_withDatePairs_33 rfl (r_callS hX (z_X2_at_ok ad cs _ 3 _ 4 0 rfl (by decide) _ 0 (by first | with_reducible assumption | decide | omega) (by decide)) ks_X2_84 rfl rfl (Nat.le_of_ble_eq_true rfl) ⟨(Nat.le_of_ble_eq_true rfl), (Nat.le_of_ble_eq_true rfl)⟩ ⟨(Nat.le_of_ble_eq_true rfl), (Nat.le_of_ble_eq_true rfl)⟩ dX2_withDatePairs_35 (fun _ _ z => False.elim z) (fun v9 ws9 h9 => ?_)))))
  obtain ⟨rfl, hw9⟩ := h9
  subst ws9
  dsimp only [mPush]
  refine r_aload_n hX dX2_withDatePairs_38 rfl rfl (r_get hX kf_X2_20 0 rfl rfl dX2_withDatePairs_39 (r_iload hX dX2_withDatePairs_42 rfl (r_callS hX (z_X2_at_ok ad cs _ 3 _ 4 0 rfl (by decide) _ 1 (by first | with_reducible assumption | decide | omega) (by decide)) ks_X2_84 rfl rfl (Nat.le_of_ble_eq_true rfl) ⟨(Nat.le_of_ble_eq_true rfl), (Nat.le_of_ble_eq_true rfl)⟩ ⟨(Nat.le_of_ble_eq_true rfl), (Nat.le_of_ble_eq_true rfl)⟩ dX2_withDatePairs_44 (fun _ _ z => False.elim z) (fun v9 ws9 h10 => ?_))))
  obtain ⟨rfl, hw9⟩ := h10
  subst ws9
  dsimp only [mPush]
  refine r_callV hX (z_X1_orderTo _ _ (0 + 5) _ _ _ _ (zWd_loc (d := 0) (by decide)) (zrg hS (by decide)) (1 + 5) _ _ _ _ (zWd_loc (d := 1) (by decide)) (zrg hS (by decide))) kv_X2_179 (0 + 5) (zWd_loc (d := 0) (by decide)) rfl rfl rfl (Nat.le_of_ble_eq_true rfl) ⟨(Nat.le_of_ble_eq_true rfl), (Nat.le_of_ble_eq_true rfl)⟩ ⟨(Nat.le_of_ble_eq_true rfl), (Nat.le_of_ble_eq_true rfl)⟩ dX2_withDatePairs_47 (fun _ _ z => False.elim z) (fun v9 ws9 h11 => ?_)
  obtain ⟨rfl, hw9⟩ := h11
  subst ws9
  dsimp only [mPush]
  have hb11 := zTo_b (sse S 0) (sna S 0) (sow S 0) (sse S 1) (sna S 1) (sow S 1)
  refine r_i2lZ hX dX2_withDatePairs_50 (by first | with_reducible assumption | decide | omega) (r_callS hX (z_X2_addedG _ _ _ _) ks_X2_247 rfl rfl (Nat.le_of_ble_eq_true rfl) ⟨(Nat.le_of_ble_eq_true rfl), (Nat.le_of_ble_eq_true rfl)⟩ ⟨(Nat.le_of_ble_eq_true rfl), (Nat.le_of_ble_eq_true rfl)⟩ dX2_withDatePairs_51 (fun _ _ z => False.elim z) (fun v9 ws9 h12 => ?_))
  obtain ⟨g3, hg3, rfl, hw9⟩ := h12
  subst ws9
  dsimp only [mPush]
  refine r_lstore_n hX dX2_withDatePairs_54 rfl (by decide) rfl (r_lload_n hX dX2_withDatePairs_55 rfl rfl (r_aload_n hX dX2_withDatePairs_56 rfl rfl (r_get hX kf_X2_20 0 rfl rfl dX2_withDatePairs_57 (r_iload hX dX2_withDatePairs_60 rfl (r_callS hX (z_X2_at_ok ad cs _ 3 _ 4 0 rfl (by decide) _ 0 (by first | with_reducible assumption | decide | omega) (by decide)) ks_X2_84 rfl rfl (Nat.le_of_ble_eq_true rfl) ⟨(Nat.le_of_ble_eq_true rfl), (Nat.le_of_ble_eq_true rfl)⟩ ⟨(Nat.le_of_ble_eq_true rfl), (Nat.le_of_ble_eq_true rfl)⟩ dX2_withDatePairs_62 (fun _ _ z => False.elim z) (fun v9 ws9 h13 => ?_))))))
  obtain ⟨rfl, hw9⟩ := h13
  subst ws9
  dsimp only [mPush]
  refine r_aload_n hX dX2_withDatePairs_65 rfl rfl (r_get hX kf_X2_20 0 rfl rfl dX2_withDatePairs_66 (r_iload hX dX2_withDatePairs_69 rfl (r_callS hX (z_X2_at_ok ad cs _ 3 _ 4 0 rfl (by decide) _ 1 (by first | with_reducible assumption | decide | omega) (by decide)) ks_X2_84 rfl rfl (Nat.le_of_ble_eq_true rfl) ⟨(Nat.le_of_ble_eq_true rfl), (Nat.le_of_ble_eq_true rfl)⟩ ⟨(Nat.le_of_ble_eq_true rfl), (Nat.le_of_ble_eq_true rfl)⟩ dX2_withDatePairs_71 (fun _ _ z => False.elim z) (fun v9 ws9 h14 => ?_))))
  obtain ⟨rfl, hw9⟩ := h14
  subst ws9
  dsimp only [mPush]
  refine r_callV hX (z_X1_isAlike _ _ (0 + 5) _ _ _ _ (zWd_loc (d := 0) (by decide)) (zrg hS (by decide)) (1 + 5) _ _ _ _ (zWd_loc (d := 1) (by decide)) (zrg hS (by decide))) kv_X2_360 (0 + 5) (zWd_loc (d := 0) (by decide)) rfl rfl rfl (Nat.le_of_ble_eq_true rfl) ⟨(Nat.le_of_ble_eq_true rfl), (Nat.le_of_ble_eq_true rfl)⟩ ⟨(Nat.le_of_ble_eq_true rfl), (Nat.le_of_ble_eq_true rfl)⟩ dX2_withDatePairs_74 (fun _ _ z => False.elim z) (fun v9 ws9 h15 => ?_)
  obtain ⟨rfl, hw9⟩ := h15
  subst ws9
  dsimp only [mPush]
  refine r_selL hX dX2_withDatePairs_77 dX2_withDatePairs_80 dX2_withDatePairs_81 dX2_withDatePairs_84 (r_callS hX (z_X2_addedG _ _ _ _) ks_X2_247 rfl rfl (Nat.le_of_ble_eq_true rfl) ⟨(Nat.le_of_ble_eq_true rfl), (Nat.le_of_ble_eq_true rfl)⟩ ⟨(Nat.le_of_ble_eq_true rfl), (Nat.le_of_ble_eq_true rfl)⟩ dX2_withDatePairs_85 (fun _ _ z => False.elim z) (fun v9 ws9 h16 => ?_))
  obtain ⟨g4, hg4, rfl, hw9⟩ := h16
  subst ws9
  dsimp only [mPush]
  refine r_lstore_n hX dX2_withDatePairs_88 rfl (by decide) rfl (r_lc5 (i0 := 0) (i1 := 1) (i2 := 3) (i3 := 5) (i4 := 6) rfl rfl rfl rfl rfl (r_iincZ (z := 1) (y := 2) hX dX2_withDatePairs_89 rfl (by decide) rfl rfl (r_goto (tgt := 18) hX dX2_withDatePairs_92 (by decide) (r_iload hX dX2_withDatePairs_18 rfl (r_aload_n hX dX2_withDatePairs_20 rfl rfl (r_get hX kf_X2_20 0 rfl rfl dX2_withDatePairs_21 (r_alen (v := iZ 4) hX 3 2 rfl rfl rfl dX2_withDatePairs_24 ?_)))))))
  refine r_icmp_geZ (tgt := 95) hX dX2_withDatePairs_25 (by decide) (by decide) (by decide) (fun q => absurd q (by decide)) (fun _ => ?_)
  refine r_lload_n hX dX2_withDatePairs_28 rfl rfl (r_aload_n hX dX2_withDatePairs_29 rfl rfl (r_get hX kf_X2_20 0 rfl rfl dX2_withDatePairs_30 (r_iload hX dX2_withDatePairs_33 rfl (r_callS hX (z_X2_at_ok ad cs _ 3 _ 4 0 rfl (by decide) _ 0 (by first | with_reducible assumption | decide | omega) (by decide)) ks_X2_84 rfl rfl (Nat.le_of_ble_eq_true rfl) ⟨(Nat.le_of_ble_eq_true rfl), (Nat.le_of_ble_eq_true rfl)⟩ ⟨(Nat.le_of_ble_eq_true rfl), (Nat.le_of_ble_eq_true rfl)⟩ dX2_withDatePairs_35 (fun _ _ z => False.elim z) (fun v9 ws9 h17 => ?_)))))
  obtain ⟨rfl, hw9⟩ := h17
  subst ws9
  dsimp only [mPush]
  refine r_aload_n hX dX2_withDatePairs_38 rfl rfl (r_get hX kf_X2_20 0 rfl rfl dX2_withDatePairs_39 (r_iload hX dX2_withDatePairs_42 rfl (r_callS hX (z_X2_at_ok ad cs _ 3 _ 4 0 rfl (by decide) _ 2 (by first | with_reducible assumption | decide | omega) (by decide)) ks_X2_84 rfl rfl (Nat.le_of_ble_eq_true rfl) ⟨(Nat.le_of_ble_eq_true rfl), (Nat.le_of_ble_eq_true rfl)⟩ ⟨(Nat.le_of_ble_eq_true rfl), (Nat.le_of_ble_eq_true rfl)⟩ dX2_withDatePairs_44 (fun _ _ z => False.elim z) (fun v9 ws9 h18 => ?_))))
  obtain ⟨rfl, hw9⟩ := h18
  subst ws9
  dsimp only [mPush]
  refine r_callV hX (z_X1_orderTo _ _ (0 + 5) _ _ _ _ (zWd_loc (d := 0) (by decide)) (zrg hS (by decide)) (2 + 5) _ _ _ _ (zWd_loc (d := 2) (by decide)) (zrg hS (by decide))) kv_X2_179 (0 + 5) (zWd_loc (d := 0) (by decide)) rfl rfl rfl (Nat.le_of_ble_eq_true rfl) ⟨(Nat.le_of_ble_eq_true rfl), (Nat.le_of_ble_eq_true rfl)⟩ ⟨(Nat.le_of_ble_eq_true rfl), (Nat.le_of_ble_eq_true rfl)⟩ dX2_withDatePairs_47 (fun _ _ z => False.elim z) (fun v9 ws9 h19 => ?_)
  obtain ⟨rfl, hw9⟩ := h19
  subst ws9
  dsimp only [mPush]
  have hb19 := zTo_b (sse S 0) (sna S 0) (sow S 0) (sse S 2) (sna S 2) (sow S 2)
  refine r_i2lZ hX dX2_withDatePairs_50 (by first | with_reducible assumption | decide | omega) (r_callS hX (z_X2_addedG _ _ _ _) ks_X2_247 rfl rfl (Nat.le_of_ble_eq_true rfl) ⟨(Nat.le_of_ble_eq_true rfl), (Nat.le_of_ble_eq_true rfl)⟩ ⟨(Nat.le_of_ble_eq_true rfl), (Nat.le_of_ble_eq_true rfl)⟩ dX2_withDatePairs_51 (fun _ _ z => False.elim z) (fun v9 ws9 h20 => ?_))
  obtain ⟨g5, hg5, rfl, hw9⟩ := h20
  subst ws9
  dsimp only [mPush]
  refine r_lstore_n hX dX2_withDatePairs_54 rfl (by decide) rfl (r_lload_n hX dX2_withDatePairs_55 rfl rfl (r_aload_n hX dX2_withDatePairs_56 rfl rfl (r_get hX kf_X2_20 0 rfl rfl dX2_withDatePairs_57 (r_iload hX dX2_withDatePairs_60 rfl (r_callS hX (z_X2_at_ok ad cs _ 3 _ 4 0 rfl (by decide) _ 0 (by first | with_reducible assumption | decide | omega) (by decide)) ks_X2_84 rfl rfl (Nat.le_of_ble_eq_true rfl) ⟨(Nat.le_of_ble_eq_true rfl), (Nat.le_of_ble_eq_true rfl)⟩ ⟨(Nat.le_of_ble_eq_true rfl), (Nat.le_of_ble_eq_true rfl)⟩ dX2_withDatePairs_62 (fun _ _ z => False.elim z) (fun v9 ws9 h21 => ?_))))))
  obtain ⟨rfl, hw9⟩ := h21
  subst ws9
  dsimp only [mPush]
  refine r_aload_n hX dX2_withDatePairs_65 rfl rfl (r_get hX kf_X2_20 0 rfl rfl dX2_withDatePairs_66 (r_iload hX dX2_withDatePairs_69 rfl (r_callS hX (z_X2_at_ok ad cs _ 3 _ 4 0 rfl (by decide) _ 2 (by first | with_reducible assumption | decide | omega) (by decide)) ks_X2_84 rfl rfl (Nat.le_of_ble_eq_true rfl) ⟨(Nat.le_of_ble_eq_true rfl), (Nat.le_of_ble_eq_true rfl)⟩ ⟨(Nat.le_of_ble_eq_true rfl), (Nat.le_of_ble_eq_true rfl)⟩ dX2_withDatePairs_71 (fun _ _ z => False.elim z) (fun v9 ws9 h22 => ?_))))
  obtain ⟨rfl, hw9⟩ := h22
  subst ws9
  dsimp only [mPush]
  refine r_callV hX (z_X1_isAlike _ _ (0 + 5) _ _ _ _ (zWd_loc (d := 0) (by decide)) (zrg hS (by decide)) (2 + 5) _ _ _ _ (zWd_loc (d := 2) (by decide)) (zrg hS (by decide))) kv_X2_360 (0 + 5) (zWd_loc (d := 0) (by decide)) rfl rfl rfl (Nat.le_of_ble_eq_true rfl) ⟨(Nat.le_of_ble_eq_true rfl), (Nat.le_of_ble_eq_true rfl)⟩ ⟨(Nat.le_of_ble_eq_true rfl), (Nat.le_of_ble_eq_true rfl)⟩ dX2_withDatePairs_74 (fun _ _ z => False.elim z) (fun v9 ws9 h23 => ?_)
  obtain ⟨rfl, hw9⟩ := h23
  subst ws9
  dsimp only [mPush]
  refine r_selL hX dX2_withDatePairs_77 dX2_withDatePairs_80 dX2_withDatePairs_81 dX2_withDatePairs_84 (r_callS hX (z_X2_addedG _ _ _ _) ks_X2_247 rfl rfl (Nat.le_of_ble_eq_true rfl) ⟨(Nat.le_of_ble_eq_true rfl), (Nat.le_of_ble_eq_true rfl)⟩ ⟨(Nat.le_of_ble_eq_true rfl), (Nat.le_of_ble_eq_true rfl)⟩ dX2_withDatePairs_85 (fun _ _ z => False.elim z) (fun v9 ws9 h24 => ?_))
  obtain ⟨g6, hg6, rfl, hw9⟩ := h24
  subst ws9
  dsimp only [mPush]
  refine r_lstore_n hX dX2_withDatePairs_88 rfl (by decide) rfl (r_iincZ (z := 1) (y := 3) hX dX2_withDatePairs_89 rfl (by decide) rfl rfl (r_goto (tgt := 18) hX dX2_withDatePairs_92 (by decide) (r_iload hX dX2_withDatePairs_18 rfl (r_aload_n hX dX2_withDatePairs_20 rfl rfl (r_get hX kf_X2_20 0 rfl rfl dX2_withDatePairs_21 (r_alen (v := iZ 4) hX 3 2 rfl rfl rfl dX2_withDatePairs_24 (r_icmp_geZ (tgt := 95) hX dX2_withDatePairs_25 (by decide) (by decide) (by decide) (fun q => absurd q (by decide)) (fun _ => ?_))))))))
  refine r_lload_n hX dX2_withDatePairs_28 rfl rfl (r_aload_n hX dX2_withDatePairs_29 rfl rfl (r_get hX kf_X2_20 0 rfl rfl dX2_withDatePairs_30 (r_iload hX dX2_withDatePairs_33 rfl (r_callS hX (z_X2_at_ok ad cs _ 3 _ 4 0 rfl (by decide) _ 0 (by first | with_reducible assumption | decide | omega) (by decide)) ks_X2_84 rfl rfl (Nat.le_of_ble_eq_true rfl) ⟨(Nat.le_of_ble_eq_true rfl), (Nat.le_of_ble_eq_true rfl)⟩ ⟨(Nat.le_of_ble_eq_true rfl), (Nat.le_of_ble_eq_true rfl)⟩ dX2_withDatePairs_35 (fun _ _ z => False.elim z) (fun v9 ws9 h25 => ?_)))))
  obtain ⟨rfl, hw9⟩ := h25
  subst ws9
  dsimp only [mPush]
  refine r_aload_n hX dX2_withDatePairs_38 rfl rfl (r_get hX kf_X2_20 0 rfl rfl dX2_withDatePairs_39 (r_iload hX dX2_withDatePairs_42 rfl (r_callS hX (z_X2_at_ok ad cs _ 3 _ 4 0 rfl (by decide) _ 3 (by first | with_reducible assumption | decide | omega) (by decide)) ks_X2_84 rfl rfl (Nat.le_of_ble_eq_true rfl) ⟨(Nat.le_of_ble_eq_true rfl), (Nat.le_of_ble_eq_true rfl)⟩ ⟨(Nat.le_of_ble_eq_true rfl), (Nat.le_of_ble_eq_true rfl)⟩ dX2_withDatePairs_44 (fun _ _ z => False.elim z) (fun v9 ws9 h26 => ?_))))
  obtain ⟨rfl, hw9⟩ := h26
  subst ws9
  dsimp only [mPush]
  refine r_callV hX (z_X1_orderTo _ _ (0 + 5) _ _ _ _ (zWd_loc (d := 0) (by decide)) (zrg hS (by decide)) (3 + 5) _ _ _ _ (zWd_loc (d := 3) (by decide)) (zrg hS (by decide))) kv_X2_179 (0 + 5) (zWd_loc (d := 0) (by decide)) rfl rfl rfl (Nat.le_of_ble_eq_true rfl) ⟨(Nat.le_of_ble_eq_true rfl), (Nat.le_of_ble_eq_true rfl)⟩ ⟨(Nat.le_of_ble_eq_true rfl), (Nat.le_of_ble_eq_true rfl)⟩ dX2_withDatePairs_47 (fun _ _ z => False.elim z) (fun v9 ws9 h27 => ?_)
  obtain ⟨rfl, hw9⟩ := h27
  subst ws9
  dsimp only [mPush]
  have hb27 := zTo_b (sse S 0) (sna S 0) (sow S 0) (sse S 3) (sna S 3) (sow S 3)
  refine r_i2lZ hX dX2_withDatePairs_50 (by first | with_reducible assumption | decide | omega) (r_callS hX (z_X2_addedG _ _ _ _) ks_X2_247 rfl rfl (Nat.le_of_ble_eq_true rfl) ⟨(Nat.le_of_ble_eq_true rfl), (Nat.le_of_ble_eq_true rfl)⟩ ⟨(Nat.le_of_ble_eq_true rfl), (Nat.le_of_ble_eq_true rfl)⟩ dX2_withDatePairs_51 (fun _ _ z => False.elim z) (fun v9 ws9 h28 => ?_))
  obtain ⟨g7, hg7, rfl, hw9⟩ := h28
  subst ws9
  dsimp only [mPush]
  refine r_lstore_n hX dX2_withDatePairs_54 rfl (by decide) rfl (r_lload_n hX dX2_withDatePairs_55 rfl rfl (r_aload_n hX dX2_withDatePairs_56 rfl rfl (r_get hX kf_X2_20 0 rfl rfl dX2_withDatePairs_57 (r_iload hX dX2_withDatePairs_60 rfl (r_callS hX (z_X2_at_ok ad cs _ 3 _ 4 0 rfl (by decide) _ 0 (by first | with_reducible assumption | decide | omega) (by decide)) ks_X2_84 rfl rfl (Nat.le_of_ble_eq_true rfl) ⟨(Nat.le_of_ble_eq_true rfl), (Nat.le_of_ble_eq_true rfl)⟩ ⟨(Nat.le_of_ble_eq_true rfl), (Nat.le_of_ble_eq_true rfl)⟩ dX2_withDatePairs_62 (fun _ _ z => False.elim z) (fun v9 ws9 h29 => ?_))))))
  obtain ⟨rfl, hw9⟩ := h29
  subst ws9
  dsimp only [mPush]
  refine r_aload_n hX dX2_withDatePairs_65 rfl rfl (r_get hX kf_X2_20 0 rfl rfl dX2_withDatePairs_66 (r_iload hX dX2_withDatePairs_69 rfl (r_callS hX (z_X2_at_ok ad cs _ 3 _ 4 0 rfl (by decide) _ 3 (by first | with_reducible assumption | decide | omega) (by decide)) ks_X2_84 rfl rfl (Nat.le_of_ble_eq_true rfl) ⟨(Nat.le_of_ble_eq_true rfl), (Nat.le_of_ble_eq_true rfl)⟩ ⟨(Nat.le_of_ble_eq_true rfl), (Nat.le_of_ble_eq_true rfl)⟩ dX2_withDatePairs_71 (fun _ _ z => False.elim z) (fun v9 ws9 h30 => ?_))))
  obtain ⟨rfl, hw9⟩ := h30
  subst ws9
  dsimp only [mPush]
  refine r_callV hX (z_X1_isAlike _ _ (0 + 5) _ _ _ _ (zWd_loc (d := 0) (by decide)) (zrg hS (by decide)) (3 + 5) _ _ _ _ (zWd_loc (d := 3) (by decide)) (zrg hS (by decide))) kv_X2_360 (0 + 5) (zWd_loc (d := 0) (by decide)) rfl rfl rfl (Nat.le_of_ble_eq_true rfl) ⟨(Nat.le_of_ble_eq_true rfl), (Nat.le_of_ble_eq_true rfl)⟩ ⟨(Nat.le_of_ble_eq_true rfl), (Nat.le_of_ble_eq_true rfl)⟩ dX2_withDatePairs_74 (fun _ _ z => False.elim z) (fun v9 ws9 h31 => ?_)
  obtain ⟨rfl, hw9⟩ := h31
  subst ws9
  dsimp only [mPush]
  refine r_selL hX dX2_withDatePairs_77 dX2_withDatePairs_80 dX2_withDatePairs_81 dX2_withDatePairs_84 (r_callS hX (z_X2_addedG _ _ _ _) ks_X2_247 rfl rfl (Nat.le_of_ble_eq_true rfl) ⟨(Nat.le_of_ble_eq_true rfl), (Nat.le_of_ble_eq_true rfl)⟩ ⟨(Nat.le_of_ble_eq_true rfl), (Nat.le_of_ble_eq_true rfl)⟩ dX2_withDatePairs_85 (fun _ _ z => False.elim z) (fun v9 ws9 h32 => ?_))
  obtain ⟨g8, hg8, rfl, hw9⟩ := h32
  subst ws9
  dsimp only [mPush]
  refine r_lstore_n hX dX2_withDatePairs_88 rfl (by decide) rfl (r_iincZ (z := 1) (y := 4) hX dX2_withDatePairs_89 rfl (by decide) rfl rfl (r_goto (tgt := 18) hX dX2_withDatePairs_92 (by decide) (r_iload hX dX2_withDatePairs_18 rfl (r_aload_n hX dX2_withDatePairs_20 rfl rfl (r_get hX kf_X2_20 0 rfl rfl dX2_withDatePairs_21 (r_alen (v := iZ 4) hX 3 2 rfl rfl rfl dX2_withDatePairs_24 (r_icmp_geZ (tgt := 95) hX dX2_withDatePairs_25 (by decide) (by decide) (by decide) (fun _ => ?_) (fun q => absurd (by decide) q))))))))
  refine r_iincZ (z := 1) (y := 1) hX dX2_withDatePairs_95 rfl (by decide) rfl rfl (r_lc5 (i0 := 0) (i1 := 1) (i2 := 3) (i3 := 5) (i4 := 6) rfl rfl rfl rfl rfl (r_goto (tgt := 5) hX dX2_withDatePairs_98 (by decide) (r_iload hX dX2_withDatePairs_5 rfl (r_aload_n hX dX2_withDatePairs_7 rfl rfl (r_get hX kf_X2_20 0 rfl rfl dX2_withDatePairs_8 (r_alen (v := iZ 4) hX 3 2 rfl rfl rfl dX2_withDatePairs_11 (r_icmp_geZ (tgt := 101) hX dX2_withDatePairs_12 (by decide) (by decide) (by decide) (fun q => absurd q (by decide)) (fun _ => ?_))))))))
  refine r_iconstZ hX dX2_withDatePairs_15 (r_istore hX dX2_withDatePairs_16 (by decide) rfl (r_iload hX dX2_withDatePairs_18 rfl (r_aload_n hX dX2_withDatePairs_20 rfl rfl (r_get hX kf_X2_20 0 rfl rfl dX2_withDatePairs_21 (r_alen (v := iZ 4) hX 3 2 rfl rfl rfl dX2_withDatePairs_24 (r_icmp_geZ (tgt := 95) hX dX2_withDatePairs_25 (by decide) (by decide) (by decide) (fun q => absurd q (by decide)) (fun _ => ?_)))))))
  refine r_lload_n hX dX2_withDatePairs_28 rfl rfl (r_aload_n hX dX2_withDatePairs_29 rfl rfl (r_get hX kf_X2_20 0 rfl rfl dX2_withDatePairs_30 (r_iload hX dX2_withDatePairs_33 rfl (r_callS hX (z_X2_at_ok ad cs _ 3 _ 4 0 rfl (by decide) _ 1 (by first | with_reducible assumption | decide | omega) (by decide)) ks_X2_84 rfl rfl (Nat.le_of_ble_eq_true rfl) ⟨(Nat.le_of_ble_eq_true rfl), (Nat.le_of_ble_eq_true rfl)⟩ ⟨(Nat.le_of_ble_eq_true rfl), (Nat.le_of_ble_eq_true rfl)⟩ dX2_withDatePairs_35 (fun _ _ z => False.elim z) (fun v9 ws9 h33 => ?_)))))
  obtain ⟨rfl, hw9⟩ := h33
  subst ws9
  dsimp only [mPush]
  refine r_aload_n hX dX2_withDatePairs_38 rfl rfl (r_get hX kf_X2_20 0 rfl rfl dX2_withDatePairs_39 (r_iload hX dX2_withDatePairs_42 rfl (r_callS hX (z_X2_at_ok ad cs _ 3 _ 4 0 rfl (by decide) _ 0 (by first | with_reducible assumption | decide | omega) (by decide)) ks_X2_84 rfl rfl (Nat.le_of_ble_eq_true rfl) ⟨(Nat.le_of_ble_eq_true rfl), (Nat.le_of_ble_eq_true rfl)⟩ ⟨(Nat.le_of_ble_eq_true rfl), (Nat.le_of_ble_eq_true rfl)⟩ dX2_withDatePairs_44 (fun _ _ z => False.elim z) (fun v9 ws9 h34 => ?_))))
  obtain ⟨rfl, hw9⟩ := h34
  subst ws9
  dsimp only [mPush]
  refine r_callV hX (z_X1_orderTo _ _ (1 + 5) _ _ _ _ (zWd_loc (d := 1) (by decide)) (zrg hS (by decide)) (0 + 5) _ _ _ _ (zWd_loc (d := 0) (by decide)) (zrg hS (by decide))) kv_X2_179 (1 + 5) (zWd_loc (d := 1) (by decide)) rfl rfl rfl (Nat.le_of_ble_eq_true rfl) ⟨(Nat.le_of_ble_eq_true rfl), (Nat.le_of_ble_eq_true rfl)⟩ ⟨(Nat.le_of_ble_eq_true rfl), (Nat.le_of_ble_eq_true rfl)⟩ dX2_withDatePairs_47 (fun _ _ z => False.elim z) (fun v9 ws9 h35 => ?_)
  obtain ⟨rfl, hw9⟩ := h35
  subst ws9
  dsimp only [mPush]
  have hb35 := zTo_b (sse S 1) (sna S 1) (sow S 1) (sse S 0) (sna S 0) (sow S 0)
  refine r_i2lZ hX dX2_withDatePairs_50 (by first | with_reducible assumption | decide | omega) (r_callS hX (z_X2_addedG _ _ _ _) ks_X2_247 rfl rfl (Nat.le_of_ble_eq_true rfl) ⟨(Nat.le_of_ble_eq_true rfl), (Nat.le_of_ble_eq_true rfl)⟩ ⟨(Nat.le_of_ble_eq_true rfl), (Nat.le_of_ble_eq_true rfl)⟩ dX2_withDatePairs_51 (fun _ _ z => False.elim z) (fun v9 ws9 h36 => ?_))
  obtain ⟨g9, hg9, rfl, hw9⟩ := h36
  subst ws9
  dsimp only [mPush]
  refine r_lstore_n hX dX2_withDatePairs_54 rfl (by decide) rfl (r_lload_n hX dX2_withDatePairs_55 rfl rfl (r_aload_n hX dX2_withDatePairs_56 rfl rfl (r_get hX kf_X2_20 0 rfl rfl dX2_withDatePairs_57 (r_iload hX dX2_withDatePairs_60 rfl (r_callS hX (z_X2_at_ok ad cs _ 3 _ 4 0 rfl (by decide) _ 1 (by first | with_reducible assumption | decide | omega) (by decide)) ks_X2_84 rfl rfl (Nat.le_of_ble_eq_true rfl) ⟨(Nat.le_of_ble_eq_true rfl), (Nat.le_of_ble_eq_true rfl)⟩ ⟨(Nat.le_of_ble_eq_true rfl), (Nat.le_of_ble_eq_true rfl)⟩ dX2_withDatePairs_62 (fun _ _ z => False.elim z) (fun v9 ws9 h37 => ?_))))))
  obtain ⟨rfl, hw9⟩ := h37
  subst ws9
  dsimp only [mPush]
  refine r_aload_n hX dX2_withDatePairs_65 rfl rfl (r_get hX kf_X2_20 0 rfl rfl dX2_withDatePairs_66 (r_iload hX dX2_withDatePairs_69 rfl (r_callS hX (z_X2_at_ok ad cs _ 3 _ 4 0 rfl (by decide) _ 0 (by first | with_reducible assumption | decide | omega) (by decide)) ks_X2_84 rfl rfl (Nat.le_of_ble_eq_true rfl) ⟨(Nat.le_of_ble_eq_true rfl), (Nat.le_of_ble_eq_true rfl)⟩ ⟨(Nat.le_of_ble_eq_true rfl), (Nat.le_of_ble_eq_true rfl)⟩ dX2_withDatePairs_71 (fun _ _ z => False.elim z) (fun v9 ws9 h38 => ?_))))
  obtain ⟨rfl, hw9⟩ := h38
  subst ws9
  dsimp only [mPush]
  refine r_callV hX (z_X1_isAlike _ _ (1 + 5) _ _ _ _ (zWd_loc (d := 1) (by decide)) (zrg hS (by decide)) (0 + 5) _ _ _ _ (zWd_loc (d := 0) (by decide)) (zrg hS (by decide))) kv_X2_360 (1 + 5) (zWd_loc (d := 1) (by decide)) rfl rfl rfl (Nat.le_of_ble_eq_true rfl) ⟨(Nat.le_of_ble_eq_true rfl), (Nat.le_of_ble_eq_true rfl)⟩ ⟨(Nat.le_of_ble_eq_true rfl), (Nat.le_of_ble_eq_true rfl)⟩ dX2_withDatePairs_74 (fun _ _ z => False.elim z) (fun v9 ws9 h39 => ?_)
  obtain ⟨rfl, hw9⟩ := h39
  subst ws9
  dsimp only [mPush]
  refine r_selL hX dX2_withDatePairs_77 dX2_withDatePairs_80 dX2_withDatePairs_81 dX2_withDatePairs_84 (r_callS hX (z_X2_addedG _ _ _ _) ks_X2_247 rfl rfl (Nat.le_of_ble_eq_true rfl) ⟨(Nat.le_of_ble_eq_true rfl), (Nat.le_of_ble_eq_true rfl)⟩ ⟨(Nat.le_of_ble_eq_true rfl), (Nat.le_of_ble_eq_true rfl)⟩ dX2_withDatePairs_85 (fun _ _ z => False.elim z) (fun v9 ws9 h40 => ?_))
  obtain ⟨g10, hg10, rfl, hw9⟩ := h40
  subst ws9
  dsimp only [mPush]
  refine r_lstore_n hX dX2_withDatePairs_88 rfl (by decide) rfl (r_iincZ (z := 1) (y := 1) hX dX2_withDatePairs_89 rfl (by decide) rfl rfl (r_goto (tgt := 18) hX dX2_withDatePairs_92 (by decide) (r_iload hX dX2_withDatePairs_18 rfl (r_aload_n hX dX2_withDatePairs_20 rfl rfl (r_get hX kf_X2_20 0 rfl rfl dX2_withDatePairs_21 (r_alen (v := iZ 4) hX 3 2 rfl rfl rfl dX2_withDatePairs_24 (r_icmp_geZ (tgt := 95) hX dX2_withDatePairs_25 (by decide) (by decide) (by decide) (fun q => absurd q (by decide)) (fun _ => ?_))))))))
  refine r_lload_n hX dX2_withDatePairs_28 rfl rfl (r_aload_n hX dX2_withDatePairs_29 rfl rfl (r_get hX kf_X2_20 0 rfl rfl dX2_withDatePairs_30 (r_iload hX dX2_withDatePairs_33 rfl (r_callS hX (z_X2_at_ok ad cs _ 3 _ 4 0 rfl (by decide) _ 1 (by first | with_reducible assumption | decide | omega) (by decide)) ks_X2_84 rfl rfl (Nat.le_of_ble_eq_true rfl) ⟨(Nat.le_of_ble_eq_true rfl), (Nat.le_of_ble_eq_true rfl)⟩ ⟨(Nat.le_of_ble_eq_true rfl), (Nat.le_of_ble_eq_true rfl)⟩ dX2_withDatePairs_35 (fun _ _ z => False.elim z) (fun v9 ws9 h41 => ?_)))))
  obtain ⟨rfl, hw9⟩ := h41
  subst ws9
  dsimp only [mPush]
  refine r_aload_n hX dX2_withDatePairs_38 rfl rfl (r_get hX kf_X2_20 0 rfl rfl dX2_withDatePairs_39 (r_iload hX dX2_withDatePairs_42 rfl (r_callS hX (z_X2_at_ok ad cs _ 3 _ 4 0 rfl (by decide) _ 1 (by first | with_reducible assumption | decide | omega) (by decide)) ks_X2_84 rfl rfl (Nat.le_of_ble_eq_true rfl) ⟨(Nat.le_of_ble_eq_true rfl), (Nat.le_of_ble_eq_true rfl)⟩ ⟨(Nat.le_of_ble_eq_true rfl), (Nat.le_of_ble_eq_true rfl)⟩ dX2_withDatePairs_44 (fun _ _ z => False.elim z) (fun v9 ws9 h42 => ?_))))
  obtain ⟨rfl, hw9⟩ := h42
  subst ws9
  dsimp only [mPush]
  refine r_callV hX (z_X1_orderTo _ _ (1 + 5) _ _ _ _ (zWd_loc (d := 1) (by decide)) (zrg hS (by decide)) (1 + 5) _ _ _ _ (zWd_loc (d := 1) (by decide)) (zrg hS (by decide))) kv_X2_179 (1 + 5) (zWd_loc (d := 1) (by decide)) rfl rfl rfl (Nat.le_of_ble_eq_true rfl) ⟨(Nat.le_of_ble_eq_true rfl), (Nat.le_of_ble_eq_true rfl)⟩ ⟨(Nat.le_of_ble_eq_true rfl), (Nat.le_of_ble_eq_true rfl)⟩ dX2_withDatePairs_47 (fun _ _ z => False.elim z) (fun v9 ws9 h43 => ?_)
  obtain ⟨rfl, hw9⟩ := h43
  subst ws9
  dsimp only [mPush]
  have hb43 := zTo_b (sse S 1) (sna S 1) (sow S 1) (sse S 1) (sna S 1) (sow S 1)
  refine r_i2lZ hX dX2_withDatePairs_50 (by first | with_reducible assumption | decide | omega) (r_callS hX (z_X2_addedG _ _ _ _) ks_X2_247 rfl rfl (Nat.le_of_ble_eq_true rfl) ⟨(Nat.le_of_ble_eq_true rfl), (Nat.le_of_ble_eq_true rfl)⟩ ⟨(Nat.le_of_ble_eq_true rfl), (Nat.le_of_ble_eq_true rfl)⟩ dX2_withDatePairs_51 (fun _ _ z => False.elim z) (fun v9 ws9 h44 => ?_))
  obtain ⟨g11, hg11, rfl, hw9⟩ := h44
  subst ws9
  dsimp only [mPush]
  refine r_lstore_n hX dX2_withDatePairs_54 rfl (by decide) rfl (r_lload_n hX dX2_withDatePairs_55 rfl rfl (r_aload_n hX dX2_withDatePairs_56 rfl rfl (r_get hX kf_X2_20 0 rfl rfl dX2_withDatePairs_57 (r_iload hX dX2_withDatePairs_60 rfl (r_callS hX (z_X2_at_ok ad cs _ 3 _ 4 0 rfl (by decide) _ 1 (by first | with_reducible assumption | decide | omega) (by decide)) ks_X2_84 rfl rfl (Nat.le_of_ble_eq_true rfl) ⟨(Nat.le_of_ble_eq_true rfl), (Nat.le_of_ble_eq_true rfl)⟩ ⟨(Nat.le_of_ble_eq_true rfl), (Nat.le_of_ble_eq_true rfl)⟩ dX2_withDatePairs_62 (fun _ _ z => False.elim z) (fun v9 ws9 h45 => ?_))))))
  obtain ⟨rfl, hw9⟩ := h45
  subst ws9
  dsimp only [mPush]
  refine r_aload_n hX dX2_withDatePairs_65 rfl rfl (r_get hX kf_X2_20 0 rfl rfl dX2_withDatePairs_66 (r_iload hX dX2_withDatePairs_69 rfl (r_callS hX (z_X2_at_ok ad cs _ 3 _ 4 0 rfl (by decide) _ 1 (by first | with_reducible assumption | decide | omega) (by decide)) ks_X2_84 rfl rfl (Nat.le_of_ble_eq_true rfl) ⟨(Nat.le_of_ble_eq_true rfl), (Nat.le_of_ble_eq_true rfl)⟩ ⟨(Nat.le_of_ble_eq_true rfl), (Nat.le_of_ble_eq_true rfl)⟩ dX2_withDatePairs_71 (fun _ _ z => False.elim z) (fun v9 ws9 h46 => ?_))))
  obtain ⟨rfl, hw9⟩ := h46
  subst ws9
  dsimp only [mPush]
  refine r_callV hX (z_X1_isAlike _ _ (1 + 5) _ _ _ _ (zWd_loc (d := 1) (by decide)) (zrg hS (by decide)) (1 + 5) _ _ _ _ (zWd_loc (d := 1) (by decide)) (zrg hS (by decide))) kv_X2_360 (1 + 5) (zWd_loc (d := 1) (by decide)) rfl rfl rfl (Nat.le_of_ble_eq_true rfl) ⟨(Nat.le_of_ble_eq_true rfl), (Nat.le_of_ble_eq_true rfl)⟩ ⟨(Nat.le_of_ble_eq_true rfl), (Nat.le_of_ble_eq_true rfl)⟩ dX2_withDatePairs_74 (fun _ _ z => False.elim z) (fun v9 ws9 h47 => ?_)
  obtain ⟨rfl, hw9⟩ := h47
  subst ws9
  dsimp only [mPush]
  refine r_selL hX dX2_withDatePairs_77 dX2_withDatePairs_80 dX2_withDatePairs_81 dX2_withDatePairs_84 (r_callS hX (z_X2_addedG _ _ _ _) ks_X2_247 rfl rfl (Nat.le_of_ble_eq_true rfl) ⟨(Nat.le_of_ble_eq_true rfl), (Nat.le_of_ble_eq_true rfl)⟩ ⟨(Nat.le_of_ble_eq_true rfl), (Nat.le_of_ble_eq_true rfl)⟩ dX2_withDatePairs_85 (fun _ _ z => False.elim z) (fun v9 ws9 h48 => ?_))
  obtain ⟨g12, hg12, rfl, hw9⟩ := h48
  subst ws9
  dsimp only [mPush]
  refine r_lstore_n hX dX2_withDatePairs_88 rfl (by decide) rfl (r_iincZ (z := 1) (y := 2) hX dX2_withDatePairs_89 rfl (by decide) rfl rfl (r_goto (tgt := 18) hX dX2_withDatePairs_92 (by decide) (r_iload hX dX2_withDatePairs_18 rfl (r_aload_n hX dX2_withDatePairs_20 rfl rfl (r_get hX kf_X2_20 0 rfl rfl dX2_withDatePairs_21 (r_alen (v := iZ 4) hX 3 2 rfl rfl rfl dX2_withDatePairs_24 (r_icmp_geZ (tgt := 95) hX dX2_withDatePairs_25 (by decide) (by decide) (by decide) (fun q => absurd q (by decide)) (fun _ => ?_))))))))
  refine r_lload_n hX dX2_withDatePairs_28 rfl rfl (r_aload_n hX dX2_withDatePairs_29 rfl rfl (r_get hX kf_X2_20 0 rfl rfl dX2_withDatePairs_30 (r_iload hX dX2_withDatePairs_33 rfl (r_callS hX (z_X2_at_ok ad cs _ 3 _ 4 0 rfl (by decide) _ 1 (by first | with_reducible assumption | decide | omega) (by decide)) ks_X2_84 rfl rfl (Nat.le_of_ble_eq_true rfl) ⟨(Nat.le_of_ble_eq_true rfl), (Nat.le_of_ble_eq_true rfl)⟩ ⟨(Nat.le_of_ble_eq_true rfl), (Nat.le_of_ble_eq_true rfl)⟩ dX2_withDatePairs_35 (fun _ _ z => False.elim z) (fun v9 ws9 h49 => ?_)))))
  obtain ⟨rfl, hw9⟩ := h49
  subst ws9
  dsimp only [mPush]
  refine r_aload_n hX dX2_withDatePairs_38 rfl rfl (r_get hX kf_X2_20 0 rfl rfl dX2_withDatePairs_39 (r_iload hX dX2_withDatePairs_42 rfl (r_callS hX (z_X2_at_ok ad cs _ 3 _ 4 0 rfl (by decide) _ 2 (by first | with_reducible assumption | decide | omega) (by decide)) ks_X2_84 rfl rfl (Nat.le_of_ble_eq_true rfl) ⟨(Nat.le_of_ble_eq_true rfl), (Nat.le_of_ble_eq_true rfl)⟩ ⟨(Nat.le_of_ble_eq_true rfl), (Nat.le_of_ble_eq_true rfl)⟩ dX2_withDatePairs_44 (fun _ _ z => False.elim z) (fun v9 ws9 h50 => ?_))))
  obtain ⟨rfl, hw9⟩ := h50
  subst ws9
  dsimp only [mPush]
  refine r_callV hX (z_X1_orderTo _ _ (1 + 5) _ _ _ _ (zWd_loc (d := 1) (by decide)) (zrg hS (by decide)) (2 + 5) _ _ _ _ (zWd_loc (d := 2) (by decide)) (zrg hS (by decide))) kv_X2_179 (1 + 5) (zWd_loc (d := 1) (by decide)) rfl rfl rfl (Nat.le_of_ble_eq_true rfl) ⟨(Nat.le_of_ble_eq_true rfl), (Nat.le_of_ble_eq_true rfl)⟩ ⟨(Nat.le_of_ble_eq_true rfl), (Nat.le_of_ble_eq_true rfl)⟩ dX2_withDatePairs_47 (fun _ _ z => False.elim z) (fun v9 ws9 h51 => ?_)
  obtain ⟨rfl, hw9⟩ := h51
  subst ws9
  dsimp only [mPush]
  have hb51 := zTo_b (sse S 1) (sna S 1) (sow S 1) (sse S 2) (sna S 2) (sow S 2)
  refine r_i2lZ hX dX2_withDatePairs_50 (by first | with_reducible assumption | decide | omega) (r_callS hX (z_X2_addedG _ _ _ _) ks_X2_247 rfl rfl (Nat.le_of_ble_eq_true rfl) ⟨(Nat.le_of_ble_eq_true rfl), (Nat.le_of_ble_eq_true rfl)⟩ ⟨(Nat.le_of_ble_eq_true rfl), (Nat.le_of_ble_eq_true rfl)⟩ dX2_withDatePairs_51 (fun _ _ z => False.elim z) (fun v9 ws9 h52 => ?_))
  obtain ⟨g13, hg13, rfl, hw9⟩ := h52
  subst ws9
  dsimp only [mPush]
  refine r_lstore_n hX dX2_withDatePairs_54 rfl (by decide) rfl (r_lc5 (i0 := 0) (i1 := 1) (i2 := 3) (i3 := 5) (i4 := 6) rfl rfl rfl rfl rfl (r_lload_n hX dX2_withDatePairs_55 rfl rfl (r_aload_n hX dX2_withDatePairs_56 rfl rfl (r_get hX kf_X2_20 0 rfl rfl dX2_withDatePairs_57 (r_iload hX dX2_withDatePairs_60 rfl (r_callS hX (z_X2_at_ok ad cs _ 3 _ 4 0 rfl (by decide) _ 1 (by first | with_reducible assumption | decide | omega) (by decide)) ks_X2_84 rfl rfl (Nat.le_of_ble_eq_true rfl) ⟨(Nat.le_of_ble_eq_true rfl), (Nat.le_of_ble_eq_true rfl)⟩ ⟨(Nat.le_of_ble_eq_true rfl), (Nat.le_of_ble_eq_true rfl)⟩ dX2_withDatePairs_62 (fun _ _ z => False.elim z) (fun v9 ws9 h53 => ?_)))))))
  obtain ⟨rfl, hw9⟩ := h53
  subst ws9
  dsimp only [mPush]
  refine r_aload_n hX dX2_withDatePairs_65 rfl rfl (r_get hX kf_X2_20 0 rfl rfl dX2_withDatePairs_66 (r_iload hX dX2_withDatePairs_69 rfl (r_callS hX (z_X2_at_ok ad cs _ 3 _ 4 0 rfl (by decide) _ 2 (by first | with_reducible assumption | decide | omega) (by decide)) ks_X2_84 rfl rfl (Nat.le_of_ble_eq_true rfl) ⟨(Nat.le_of_ble_eq_true rfl), (Nat.le_of_ble_eq_true rfl)⟩ ⟨(Nat.le_of_ble_eq_true rfl), (Nat.le_of_ble_eq_true rfl)⟩ dX2_withDatePairs_71 (fun _ _ z => False.elim z) (fun v9 ws9 h54 => ?_))))
  obtain ⟨rfl, hw9⟩ := h54
  subst ws9
  dsimp only [mPush]
  refine r_callV hX (z_X1_isAlike _ _ (1 + 5) _ _ _ _ (zWd_loc (d := 1) (by decide)) (zrg hS (by decide)) (2 + 5) _ _ _ _ (zWd_loc (d := 2) (by decide)) (zrg hS (by decide))) kv_X2_360 (1 + 5) (zWd_loc (d := 1) (by decide)) rfl rfl rfl (Nat.le_of_ble_eq_true rfl) ⟨(Nat.le_of_ble_eq_true rfl), (Nat.le_of_ble_eq_true rfl)⟩ ⟨(Nat.le_of_ble_eq_true rfl), (Nat.le_of_ble_eq_true rfl)⟩ dX2_withDatePairs_74 (fun _ _ z => False.elim z) (fun v9 ws9 h55 => ?_)
  obtain ⟨rfl, hw9⟩ := h55
  subst ws9
  dsimp only [mPush]
  refine r_selL hX dX2_withDatePairs_77 dX2_withDatePairs_80 dX2_withDatePairs_81 dX2_withDatePairs_84 (r_callS hX (z_X2_addedG _ _ _ _) ks_X2_247 rfl rfl (Nat.le_of_ble_eq_true rfl) ⟨(Nat.le_of_ble_eq_true rfl), (Nat.le_of_ble_eq_true rfl)⟩ ⟨(Nat.le_of_ble_eq_true rfl), (Nat.le_of_ble_eq_true rfl)⟩ dX2_withDatePairs_85 (fun _ _ z => False.elim z) (fun v9 ws9 h56 => ?_))
  obtain ⟨g14, hg14, rfl, hw9⟩ := h56
  subst ws9
  dsimp only [mPush]
  refine r_lstore_n hX dX2_withDatePairs_88 rfl (by decide) rfl (r_iincZ (z := 1) (y := 3) hX dX2_withDatePairs_89 rfl (by decide) rfl rfl (r_goto (tgt := 18) hX dX2_withDatePairs_92 (by decide) (r_iload hX dX2_withDatePairs_18 rfl (r_aload_n hX dX2_withDatePairs_20 rfl rfl (r_get hX kf_X2_20 0 rfl rfl dX2_withDatePairs_21 (r_alen (v := iZ 4) hX 3 2 rfl rfl rfl dX2_withDatePairs_24 (r_icmp_geZ (tgt := 95) hX dX2_withDatePairs_25 (by decide) (by decide) (by decide) (fun q => absurd q (by decide)) (fun _ => ?_))))))))
  refine r_lload_n hX dX2_withDatePairs_28 rfl rfl (r_aload_n hX dX2_withDatePairs_29 rfl rfl (r_get hX kf_X2_20 0 rfl rfl dX2_withDatePairs_30 (r_iload hX dX2_withDatePairs_33 rfl (r_callS hX (z_X2_at_ok ad cs _ 3 _ 4 0 rfl (by decide) _ 1 (by first | with_reducible assumption | decide | omega) (by decide)) ks_X2_84 rfl rfl (Nat.le_of_ble_eq_true rfl) ⟨(Nat.le_of_ble_eq_true rfl), (Nat.le_of_ble_eq_true rfl)⟩ ⟨(Nat.le_of_ble_eq_true rfl), (Nat.le_of_ble_eq_true rfl)⟩ dX2_withDatePairs_35 (fun _ _ z => False.elim z) (fun v9 ws9 h57 => ?_)))))
  obtain ⟨rfl, hw9⟩ := h57
  subst ws9
  dsimp only [mPush]
  refine r_aload_n hX dX2_withDatePairs_38 rfl rfl (r_get hX kf_X2_20 0 rfl rfl dX2_withDatePairs_39 (r_iload hX dX2_withDatePairs_42 rfl (r_callS hX (z_X2_at_ok ad cs _ 3 _ 4 0 rfl (by decide) _ 3 (by first | with_reducible assumption | decide | omega) (by decide)) ks_X2_84 rfl rfl (Nat.le_of_ble_eq_true rfl) ⟨(Nat.le_of_ble_eq_true rfl), (Nat.le_of_ble_eq_true rfl)⟩ ⟨(Nat.le_of_ble_eq_true rfl), (Nat.le_of_ble_eq_true rfl)⟩ dX2_withDatePairs_44 (fun _ _ z => False.elim z) (fun v9 ws9 h58 => ?_))))
  obtain ⟨rfl, hw9⟩ := h58
  subst ws9
  dsimp only [mPush]
  refine r_callV hX (z_X1_orderTo _ _ (1 + 5) _ _ _ _ (zWd_loc (d := 1) (by decide)) (zrg hS (by decide)) (3 + 5) _ _ _ _ (zWd_loc (d := 3) (by decide)) (zrg hS (by decide))) kv_X2_179 (1 + 5) (zWd_loc (d := 1) (by decide)) rfl rfl rfl (Nat.le_of_ble_eq_true rfl) ⟨(Nat.le_of_ble_eq_true rfl), (Nat.le_of_ble_eq_true rfl)⟩ ⟨(Nat.le_of_ble_eq_true rfl), (Nat.le_of_ble_eq_true rfl)⟩ dX2_withDatePairs_47 (fun _ _ z => False.elim z) (fun v9 ws9 h59 => ?_)
  obtain ⟨rfl, hw9⟩ := h59
  subst ws9
  dsimp only [mPush]
  have hb59 := zTo_b (sse S 1) (sna S 1) (sow S 1) (sse S 3) (sna S 3) (sow S 3)
  refine r_i2lZ hX dX2_withDatePairs_50 (by first | with_reducible assumption | decide | omega) (r_callS hX (z_X2_addedG _ _ _ _) ks_X2_247 rfl rfl (Nat.le_of_ble_eq_true rfl) ⟨(Nat.le_of_ble_eq_true rfl), (Nat.le_of_ble_eq_true rfl)⟩ ⟨(Nat.le_of_ble_eq_true rfl), (Nat.le_of_ble_eq_true rfl)⟩ dX2_withDatePairs_51 (fun _ _ z => False.elim z) (fun v9 ws9 h60 => ?_))
  obtain ⟨g15, hg15, rfl, hw9⟩ := h60
  subst ws9
  dsimp only [mPush]
  refine r_lstore_n hX dX2_withDatePairs_54 rfl (by decide) rfl (r_lload_n hX dX2_withDatePairs_55 rfl rfl (r_aload_n hX dX2_withDatePairs_56 rfl rfl (r_get hX kf_X2_20 0 rfl rfl dX2_withDatePairs_57 (r_iload hX dX2_withDatePairs_60 rfl (r_callS hX (z_X2_at_ok ad cs _ 3 _ 4 0 rfl (by decide) _ 1 (by first | with_reducible assumption | decide | omega) (by decide)) ks_X2_84 rfl rfl (Nat.le_of_ble_eq_true rfl) ⟨(Nat.le_of_ble_eq_true rfl), (Nat.le_of_ble_eq_true rfl)⟩ ⟨(Nat.le_of_ble_eq_true rfl), (Nat.le_of_ble_eq_true rfl)⟩ dX2_withDatePairs_62 (fun _ _ z => False.elim z) (fun v9 ws9 h61 => ?_))))))
  obtain ⟨rfl, hw9⟩ := h61
  subst ws9
  dsimp only [mPush]
  refine r_aload_n hX dX2_withDatePairs_65 rfl rfl (r_get hX kf_X2_20 0 rfl rfl dX2_withDatePairs_66 (r_iload hX dX2_withDatePairs_69 rfl (r_callS hX (z_X2_at_ok ad cs _ 3 _ 4 0 rfl (by decide) _ 3 (by first | with_reducible assumption | decide | omega) (by decide)) ks_X2_84 rfl rfl (Nat.le_of_ble_eq_true rfl) ⟨(Nat.le_of_ble_eq_true rfl), (Nat.le_of_ble_eq_true rfl)⟩ ⟨(Nat.le_of_ble_eq_true rfl), (Nat.le_of_ble_eq_true rfl)⟩ dX2_withDatePairs_71 (fun _ _ z => False.elim z) (fun v9 ws9 h62 => ?_))))
  obtain ⟨rfl, hw9⟩ := h62
  subst ws9
  dsimp only [mPush]
  refine r_callV hX (z_X1_isAlike _ _ (1 + 5) _ _ _ _ (zWd_loc (d := 1) (by decide)) (zrg hS (by decide)) (3 + 5) _ _ _ _ (zWd_loc (d := 3) (by decide)) (zrg hS (by decide))) kv_X2_360 (1 + 5) (zWd_loc (d := 1) (by decide)) rfl rfl rfl (Nat.le_of_ble_eq_true rfl) ⟨(Nat.le_of_ble_eq_true rfl), (Nat.le_of_ble_eq_true rfl)⟩ ⟨(Nat.le_of_ble_eq_true rfl), (Nat.le_of_ble_eq_true rfl)⟩ dX2_withDatePairs_74 (fun _ _ z => False.elim z) (fun v9 ws9 h63 => ?_)
  obtain ⟨rfl, hw9⟩ := h63
  subst ws9
  dsimp only [mPush]
  refine r_selL hX dX2_withDatePairs_77 dX2_withDatePairs_80 dX2_withDatePairs_81 dX2_withDatePairs_84 (r_callS hX (z_X2_addedG _ _ _ _) ks_X2_247 rfl rfl (Nat.le_of_ble_eq_true rfl) ⟨(Nat.le_of_ble_eq_true rfl), (Nat.le_of_ble_eq_true rfl)⟩ ⟨(Nat.le_of_ble_eq_true rfl), (Nat.le_of_ble_eq_true rfl)⟩ dX2_withDatePairs_85 (fun _ _ z => False.elim z) (fun v9 ws9 h64 => ?_))
  obtain ⟨g16, hg16, rfl, hw9⟩ := h64
  subst ws9
  dsimp only [mPush]
  refine r_lstore_n hX dX2_withDatePairs_88 rfl (by decide) rfl (r_iincZ (z := 1) (y := 4) hX dX2_withDatePairs_89 rfl (by decide) rfl rfl (r_goto (tgt := 18) hX dX2_withDatePairs_92 (by decide) (r_iload hX dX2_withDatePairs_18 rfl (r_aload_n hX dX2_withDatePairs_20 rfl rfl (r_get hX kf_X2_20 0 rfl rfl dX2_withDatePairs_21 (r_alen (v := iZ 4) hX 3 2 rfl rfl rfl dX2_withDatePairs_24 (r_icmp_geZ (tgt := 95) hX dX2_withDatePairs_25 (by decide) (by decide) (by decide) (fun _ => ?_) (fun q => absurd (by decide) q))))))))
  refine r_iincZ (z := 1) (y := 2) hX dX2_withDatePairs_95 rfl (by decide) rfl rfl (r_goto (tgt := 5) hX dX2_withDatePairs_98 (by decide) (r_iload hX dX2_withDatePairs_5 rfl (r_aload_n hX dX2_withDatePairs_7 rfl rfl (r_get hX kf_X2_20 0 rfl rfl dX2_withDatePairs_8 (r_alen (v := iZ 4) hX 3 2 rfl rfl rfl dX2_withDatePairs_11 (r_icmp_geZ (tgt := 101) hX dX2_withDatePairs_12 (by decide) (by decide) (by decide) (fun q => absurd q (by decide)) (fun _ => ?_)))))))
  refine r_iconstZ hX dX2_withDatePairs_15 (r_istore hX dX2_withDatePairs_16 (by decide) rfl (r_iload hX dX2_withDatePairs_18 rfl (r_aload_n hX dX2_withDatePairs_20 rfl rfl (r_get hX kf_X2_20 0 rfl rfl dX2_withDatePairs_21 (r_alen (v := iZ 4) hX 3 2 rfl rfl rfl dX2_withDatePairs_24 (r_icmp_geZ (tgt := 95) hX dX2_withDatePairs_25 (by decide) (by decide) (by decide) (fun q => absurd q (by decide)) (fun _ => ?_)))))))
  refine r_lload_n hX dX2_withDatePairs_28 rfl rfl (r_aload_n hX dX2_withDatePairs_29 rfl rfl (r_get hX kf_X2_20 0 rfl rfl dX2_withDatePairs_30 (r_iload hX dX2_withDatePairs_33 rfl (r_callS hX (z_X2_at_ok ad cs _ 3 _ 4 0 rfl (by decide) _ 2 (by first | with_reducible assumption | decide | omega) (by decide)) ks_X2_84 rfl rfl (Nat.le_of_ble_eq_true rfl) ⟨(Nat.le_of_ble_eq_true rfl), (Nat.le_of_ble_eq_true rfl)⟩ ⟨(Nat.le_of_ble_eq_true rfl), (Nat.le_of_ble_eq_true rfl)⟩ dX2_withDatePairs_35 (fun _ _ z => False.elim z) (fun v9 ws9 h65 => ?_)))))
  obtain ⟨rfl, hw9⟩ := h65
  subst ws9
  dsimp only [mPush]
  refine r_aload_n hX dX2_withDatePairs_38 rfl rfl (r_get hX kf_X2_20 0 rfl rfl dX2_withDatePairs_39 (r_iload hX dX2_withDatePairs_42 rfl (r_callS hX (z_X2_at_ok ad cs _ 3 _ 4 0 rfl (by decide) _ 0 (by first | with_reducible assumption | decide | omega) (by decide)) ks_X2_84 rfl rfl (Nat.le_of_ble_eq_true rfl) ⟨(Nat.le_of_ble_eq_true rfl), (Nat.le_of_ble_eq_true rfl)⟩ ⟨(Nat.le_of_ble_eq_true rfl), (Nat.le_of_ble_eq_true rfl)⟩ dX2_withDatePairs_44 (fun _ _ z => False.elim z) (fun v9 ws9 h66 => ?_))))
  obtain ⟨rfl, hw9⟩ := h66
  subst ws9
  dsimp only [mPush]
  refine r_callV hX (z_X1_orderTo _ _ (2 + 5) _ _ _ _ (zWd_loc (d := 2) (by decide)) (zrg hS (by decide)) (0 + 5) _ _ _ _ (zWd_loc (d := 0) (by decide)) (zrg hS (by decide))) kv_X2_179 (2 + 5) (zWd_loc (d := 2) (by decide)) rfl rfl rfl (Nat.le_of_ble_eq_true rfl) ⟨(Nat.le_of_ble_eq_true rfl), (Nat.le_of_ble_eq_true rfl)⟩ ⟨(Nat.le_of_ble_eq_true rfl), (Nat.le_of_ble_eq_true rfl)⟩ dX2_withDatePairs_47 (fun _ _ z => False.elim z) (fun v9 ws9 h67 => ?_)
  obtain ⟨rfl, hw9⟩ := h67
  subst ws9
  dsimp only [mPush]
  have hb67 := zTo_b (sse S 2) (sna S 2) (sow S 2) (sse S 0) (sna S 0) (sow S 0)
  refine r_i2lZ hX dX2_withDatePairs_50 (by first | with_reducible assumption | decide | omega) (r_callS hX (z_X2_addedG _ _ _ _) ks_X2_247 rfl rfl (Nat.le_of_ble_eq_true rfl) ⟨(Nat.le_of_ble_eq_true rfl), (Nat.le_of_ble_eq_true rfl)⟩ ⟨(Nat.le_of_ble_eq_true rfl), (Nat.le_of_ble_eq_true rfl)⟩ dX2_withDatePairs_51 (fun _ _ z => False.elim z) (fun v9 ws9 h68 => ?_))
  obtain ⟨g17, hg17, rfl, hw9⟩ := h68
  subst ws9
  dsimp only [mPush]
  refine r_lstore_n hX dX2_withDatePairs_54 rfl (by decide) rfl (r_lc5 (i0 := 0) (i1 := 1) (i2 := 3) (i3 := 5) (i4 := 6) rfl rfl rfl rfl rfl (r_lload_n hX dX2_withDatePairs_55 rfl rfl (r_aload_n hX dX2_withDatePairs_56 rfl rfl (r_get hX kf_X2_20 0 rfl rfl dX2_withDatePairs_57 (r_iload hX dX2_withDatePairs_60 rfl (r_callS hX (z_X2_at_ok ad cs _ 3 _ 4 0 rfl (by decide) _ 2 (by first | with_reducible assumption | decide | omega) (by decide)) ks_X2_84 rfl rfl (Nat.le_of_ble_eq_true rfl) ⟨(Nat.le_of_ble_eq_true rfl), (Nat.le_of_ble_eq_true rfl)⟩ ⟨(Nat.le_of_ble_eq_true rfl), (Nat.le_of_ble_eq_true rfl)⟩ dX2_withDatePairs_62 (fun _ _ z => False.elim z) (fun v9 ws9 h69 => ?_)))))))
  obtain ⟨rfl, hw9⟩ := h69
  subst ws9
  dsimp only [mPush]
  refine r_aload_n hX dX2_withDatePairs_65 rfl rfl (r_get hX kf_X2_20 0 rfl rfl dX2_withDatePairs_66 (r_iload hX dX2_withDatePairs_69 rfl (r_callS hX (z_X2_at_ok ad cs _ 3 _ 4 0 rfl (by decide) _ 0 (by first | with_reducible assumption | decide | omega) (by decide)) ks_X2_84 rfl rfl (Nat.le_of_ble_eq_true rfl) ⟨(Nat.le_of_ble_eq_true rfl), (Nat.le_of_ble_eq_true rfl)⟩ ⟨(Nat.le_of_ble_eq_true rfl), (Nat.le_of_ble_eq_true rfl)⟩ dX2_withDatePairs_71 (fun _ _ z => False.elim z) (fun v9 ws9 h70 => ?_))))
  obtain ⟨rfl, hw9⟩ := h70
  subst ws9
  dsimp only [mPush]
  refine r_callV hX (z_X1_isAlike _ _ (2 + 5) _ _ _ _ (zWd_loc (d := 2) (by decide)) (zrg hS (by decide)) (0 + 5) _ _ _ _ (zWd_loc (d := 0) (by decide)) (zrg hS (by decide))) kv_X2_360 (2 + 5) (zWd_loc (d := 2) (by decide)) rfl rfl rfl (Nat.le_of_ble_eq_true rfl) ⟨(Nat.le_of_ble_eq_true rfl), (Nat.le_of_ble_eq_true rfl)⟩ ⟨(Nat.le_of_ble_eq_true rfl), (Nat.le_of_ble_eq_true rfl)⟩ dX2_withDatePairs_74 (fun _ _ z => False.elim z) (fun v9 ws9 h71 => ?_)
  obtain ⟨rfl, hw9⟩ := h71
  subst ws9
  dsimp only [mPush]
  refine r_selL hX dX2_withDatePairs_77 dX2_withDatePairs_80 dX2_withDatePairs_81 dX2_withDatePairs_84 (r_callS hX (z_X2_addedG _ _ _ _) ks_X2_247 rfl rfl (Nat.le_of_ble_eq_true rfl) ⟨(Nat.le_of_ble_eq_true rfl), (Nat.le_of_ble_eq_true rfl)⟩ ⟨(Nat.le_of_ble_eq_true rfl), (Nat.le_of_ble_eq_true rfl)⟩ dX2_withDatePairs_85 (fun _ _ z => False.elim z) (fun v9 ws9 h72 => ?_))
  obtain ⟨g18, hg18, rfl, hw9⟩ := h72
  subst ws9
  dsimp only [mPush]
  refine r_lstore_n hX dX2_withDatePairs_88 rfl (by decide) rfl (r_iincZ (z := 1) (y := 1) hX dX2_withDatePairs_89 rfl (by decide) rfl rfl (r_goto (tgt := 18) hX dX2_withDatePairs_92 (by decide) (r_iload hX dX2_withDatePairs_18 rfl (r_aload_n hX dX2_withDatePairs_20 rfl rfl (r_get hX kf_X2_20 0 rfl rfl dX2_withDatePairs_21 (r_alen (v := iZ 4) hX 3 2 rfl rfl rfl dX2_withDatePairs_24 (r_icmp_geZ (tgt := 95) hX dX2_withDatePairs_25 (by decide) (by decide) (by decide) (fun q => absurd q (by decide)) (fun _ => ?_))))))))
  refine r_lload_n hX dX2_withDatePairs_28 rfl rfl (r_aload_n hX dX2_withDatePairs_29 rfl rfl (r_get hX kf_X2_20 0 rfl rfl dX2_withDatePairs_30 (r_iload hX dX2_withDatePairs_33 rfl (r_callS hX (z_X2_at_ok ad cs _ 3 _ 4 0 rfl (by decide) _ 2 (by first | with_reducible assumption | decide | omega) (by decide)) ks_X2_84 rfl rfl (Nat.le_of_ble_eq_true rfl) ⟨(Nat.le_of_ble_eq_true rfl), (Nat.le_of_ble_eq_true rfl)⟩ ⟨(Nat.le_of_ble_eq_true rfl), (Nat.le_of_ble_eq_true rfl)⟩ dX2_withDatePairs_35 (fun _ _ z => False.elim z) (fun v9 ws9 h73 => ?_)))))
  obtain ⟨rfl, hw9⟩ := h73
  subst ws9
  dsimp only [mPush]
  refine r_aload_n hX dX2_withDatePairs_38 rfl rfl (r_get hX kf_X2_20 0 rfl rfl dX2_withDatePairs_39 (r_iload hX dX2_withDatePairs_42 rfl (r_callS hX (z_X2_at_ok ad cs _ 3 _ 4 0 rfl (by decide) _ 1 (by first | with_reducible assumption | decide | omega) (by decide)) ks_X2_84 rfl rfl (Nat.le_of_ble_eq_true rfl) ⟨(Nat.le_of_ble_eq_true rfl), (Nat.le_of_ble_eq_true rfl)⟩ ⟨(Nat.le_of_ble_eq_true rfl), (Nat.le_of_ble_eq_true rfl)⟩ dX2_withDatePairs_44 (fun _ _ z => False.elim z) (fun v9 ws9 h74 => ?_))))
  obtain ⟨rfl, hw9⟩ := h74
  subst ws9
  dsimp only [mPush]
  refine r_callV hX (z_X1_orderTo _ _ (2 + 5) _ _ _ _ (zWd_loc (d := 2) (by decide)) (zrg hS (by decide)) (1 + 5) _ _ _ _ (zWd_loc (d := 1) (by decide)) (zrg hS (by decide))) kv_X2_179 (2 + 5) (zWd_loc (d := 2) (by decide)) rfl rfl rfl (Nat.le_of_ble_eq_true rfl) ⟨(Nat.le_of_ble_eq_true rfl), (Nat.le_of_ble_eq_true rfl)⟩ ⟨(Nat.le_of_ble_eq_true rfl), (Nat.le_of_ble_eq_true rfl)⟩ dX2_withDatePairs_47 (fun _ _ z => False.elim z) (fun v9 ws9 h75 => ?_)
  obtain ⟨rfl, hw9⟩ := h75
  subst ws9
  dsimp only [mPush]
  have hb75 := zTo_b (sse S 2) (sna S 2) (sow S 2) (sse S 1) (sna S 1) (sow S 1)
  refine r_i2lZ hX dX2_withDatePairs_50 (by first | with_reducible assumption | decide | omega) (r_callS hX (z_X2_addedG _ _ _ _) ks_X2_247 rfl rfl (Nat.le_of_ble_eq_true rfl) ⟨(Nat.le_of_ble_eq_true rfl), (Nat.le_of_ble_eq_true rfl)⟩ ⟨(Nat.le_of_ble_eq_true rfl), (Nat.le_of_ble_eq_true rfl)⟩ dX2_withDatePairs_51 (fun _ _ z => False.elim z) (fun v9 ws9 h76 => ?_))
  obtain ⟨g19, hg19, rfl, hw9⟩ := h76
  subst ws9
  dsimp only [mPush]
  refine r_lstore_n hX dX2_withDatePairs_54 rfl (by decide) rfl (r_lload_n hX dX2_withDatePairs_55 rfl rfl (r_aload_n hX dX2_withDatePairs_56 rfl rfl (r_get hX kf_X2_20 0 rfl rfl dX2_withDatePairs_57 (r_iload hX dX2_withDatePairs_60 rfl (r_callS hX (z_X2_at_ok ad cs _ 3 _ 4 0 rfl (by decide) _ 2 (by first | with_reducible assumption | decide | omega) (by decide)) ks_X2_84 rfl rfl (Nat.le_of_ble_eq_true rfl) ⟨(Nat.le_of_ble_eq_true rfl), (Nat.le_of_ble_eq_true rfl)⟩ ⟨(Nat.le_of_ble_eq_true rfl), (Nat.le_of_ble_eq_true rfl)⟩ dX2_withDatePairs_62 (fun _ _ z => False.elim z) (fun v9 ws9 h77 => ?_))))))
  obtain ⟨rfl, hw9⟩ := h77
  subst ws9
  dsimp only [mPush]
  refine r_aload_n hX dX2_withDatePairs_65 rfl rfl (r_get hX kf_X2_20 0 rfl rfl dX2_withDatePairs_66 (r_iload hX dX2_withDatePairs_69 rfl (r_callS hX (z_X2_at_ok ad cs _ 3 _ 4 0 rfl (by decide) _ 1 (by first | with_reducible assumption | decide | omega) (by decide)) ks_X2_84 rfl rfl (Nat.le_of_ble_eq_true rfl) ⟨(Nat.le_of_ble_eq_true rfl), (Nat.le_of_ble_eq_true rfl)⟩ ⟨(Nat.le_of_ble_eq_true rfl), (Nat.le_of_ble_eq_true rfl)⟩ dX2_withDatePairs_71 (fun _ _ z => False.elim z) (fun v9 ws9 h78 => ?_))))
  obtain ⟨rfl, hw9⟩ := h78
  subst ws9
  dsimp only [mPush]
  refine r_callV hX (z_X1_isAlike _ _ (2 + 5) _ _ _ _ (zWd_loc (d := 2) (by decide)) (zrg hS (by decide)) (1 + 5) _ _ _ _ (zWd_loc (d := 1) (by decide)) (zrg hS (by decide))) kv_X2_360 (2 + 5) (zWd_loc (d := 2) (by decide)) rfl rfl rfl (Nat.le_of_ble_eq_true rfl) ⟨(Nat.le_of_ble_eq_true rfl), (Nat.le_of_ble_eq_true rfl)⟩ ⟨(Nat.le_of_ble_eq_true rfl), (Nat.le_of_ble_eq_true rfl)⟩ dX2_withDatePairs_74 (fun _ _ z => False.elim z) (fun v9 ws9 h79 => ?_)
  obtain ⟨rfl, hw9⟩ := h79
  subst ws9
  dsimp only [mPush]
  refine r_selL hX dX2_withDatePairs_77 dX2_withDatePairs_80 dX2_withDatePairs_81 dX2_withDatePairs_84 (r_callS hX (z_X2_addedG _ _ _ _) ks_X2_247 rfl rfl (Nat.le_of_ble_eq_true rfl) ⟨(Nat.le_of_ble_eq_true rfl), (Nat.le_of_ble_eq_true rfl)⟩ ⟨(Nat.le_of_ble_eq_true rfl), (Nat.le_of_ble_eq_true rfl)⟩ dX2_withDatePairs_85 (fun _ _ z => False.elim z) (fun v9 ws9 h80 => ?_))
  obtain ⟨g20, hg20, rfl, hw9⟩ := h80
  subst ws9
  dsimp only [mPush]
  refine r_lstore_n hX dX2_withDatePairs_88 rfl (by decide) rfl (r_iincZ (z := 1) (y := 2) hX dX2_withDatePairs_89 rfl (by decide) rfl rfl (r_goto (tgt := 18) hX dX2_withDatePairs_92 (by decide) (r_iload hX dX2_withDatePairs_18 rfl (r_aload_n hX dX2_withDatePairs_20 rfl rfl (r_get hX kf_X2_20 0 rfl rfl dX2_withDatePairs_21 (r_alen (v := iZ 4) hX 3 2 rfl rfl rfl dX2_withDatePairs_24 (r_icmp_geZ (tgt := 95) hX dX2_withDatePairs_25 (by decide) (by decide) (by decide) (fun q => absurd q (by decide)) (fun _ => ?_))))))))
  refine r_lload_n hX dX2_withDatePairs_28 rfl rfl (r_aload_n hX dX2_withDatePairs_29 rfl rfl (r_get hX kf_X2_20 0 rfl rfl dX2_withDatePairs_30 (r_iload hX dX2_withDatePairs_33 rfl (r_callS hX (z_X2_at_ok ad cs _ 3 _ 4 0 rfl (by decide) _ 2 (by first | with_reducible assumption | decide | omega) (by decide)) ks_X2_84 rfl rfl (Nat.le_of_ble_eq_true rfl) ⟨(Nat.le_of_ble_eq_true rfl), (Nat.le_of_ble_eq_true rfl)⟩ ⟨(Nat.le_of_ble_eq_true rfl), (Nat.le_of_ble_eq_true rfl)⟩ dX2_withDatePairs_35 (fun _ _ z => False.elim z) (fun v9 ws9 h81 => ?_)))))
  obtain ⟨rfl, hw9⟩ := h81
  subst ws9
  dsimp only [mPush]
  refine r_aload_n hX dX2_withDatePairs_38 rfl rfl (r_get hX kf_X2_20 0 rfl rfl dX2_withDatePairs_39 (r_iload hX dX2_withDatePairs_42 rfl (r_callS hX (z_X2_at_ok ad cs _ 3 _ 4 0 rfl (by decide) _ 2 (by first | with_reducible assumption | decide | omega) (by decide)) ks_X2_84 rfl rfl (Nat.le_of_ble_eq_true rfl) ⟨(Nat.le_of_ble_eq_true rfl), (Nat.le_of_ble_eq_true rfl)⟩ ⟨(Nat.le_of_ble_eq_true rfl), (Nat.le_of_ble_eq_true rfl)⟩ dX2_withDatePairs_44 (fun _ _ z => False.elim z) (fun v9 ws9 h82 => ?_))))
  obtain ⟨rfl, hw9⟩ := h82
  subst ws9
  dsimp only [mPush]
  refine r_callV hX (z_X1_orderTo _ _ (2 + 5) _ _ _ _ (zWd_loc (d := 2) (by decide)) (zrg hS (by decide)) (2 + 5) _ _ _ _ (zWd_loc (d := 2) (by decide)) (zrg hS (by decide))) kv_X2_179 (2 + 5) (zWd_loc (d := 2) (by decide)) rfl rfl rfl (Nat.le_of_ble_eq_true rfl) ⟨(Nat.le_of_ble_eq_true rfl), (Nat.le_of_ble_eq_true rfl)⟩ ⟨(Nat.le_of_ble_eq_true rfl), (Nat.le_of_ble_eq_true rfl)⟩ dX2_withDatePairs_47 (fun _ _ z => False.elim z) (fun v9 ws9 h83 => ?_)
  obtain ⟨rfl, hw9⟩ := h83
  subst ws9
  dsimp only [mPush]
  have hb83 := zTo_b (sse S 2) (sna S 2) (sow S 2) (sse S 2) (sna S 2) (sow S 2)
  refine r_i2lZ hX dX2_withDatePairs_50 (by first | with_reducible assumption | decide | omega) (r_callS hX (z_X2_addedG _ _ _ _) ks_X2_247 rfl rfl (Nat.le_of_ble_eq_true rfl) ⟨(Nat.le_of_ble_eq_true rfl), (Nat.le_of_ble_eq_true rfl)⟩ ⟨(Nat.le_of_ble_eq_true rfl), (Nat.le_of_ble_eq_true rfl)⟩ dX2_withDatePairs_51 (fun _ _ z => False.elim z) (fun v9 ws9 h84 => ?_))
  obtain ⟨g21, hg21, rfl, hw9⟩ := h84
  subst ws9
  dsimp only [mPush]
  refine r_lstore_n hX dX2_withDatePairs_54 rfl (by decide) rfl (r_lload_n hX dX2_withDatePairs_55 rfl rfl (r_aload_n hX dX2_withDatePairs_56 rfl rfl (r_get hX kf_X2_20 0 rfl rfl dX2_withDatePairs_57 (r_iload hX dX2_withDatePairs_60 rfl (r_callS hX (z_X2_at_ok ad cs _ 3 _ 4 0 rfl (by decide) _ 2 (by first | with_reducible assumption | decide | omega) (by decide)) ks_X2_84 rfl rfl (Nat.le_of_ble_eq_true rfl) ⟨(Nat.le_of_ble_eq_true rfl), (Nat.le_of_ble_eq_true rfl)⟩ ⟨(Nat.le_of_ble_eq_true rfl), (Nat.le_of_ble_eq_true rfl)⟩ dX2_withDatePairs_62 (fun _ _ z => False.elim z) (fun v9 ws9 h85 => ?_))))))
  obtain ⟨rfl, hw9⟩ := h85
  subst ws9
  dsimp only [mPush]
  refine r_aload_n hX dX2_withDatePairs_65 rfl rfl (r_get hX kf_X2_20 0 rfl rfl dX2_withDatePairs_66 (r_iload hX dX2_withDatePairs_69 rfl (r_callS hX (z_X2_at_ok ad cs _ 3 _ 4 0 rfl (by decide) _ 2 (by first | with_reducible assumption | decide | omega) (by decide)) ks_X2_84 rfl rfl (Nat.le_of_ble_eq_true rfl) ⟨(Nat.le_of_ble_eq_true rfl), (Nat.le_of_ble_eq_true rfl)⟩ ⟨(Nat.le_of_ble_eq_true rfl), (Nat.le_of_ble_eq_true rfl)⟩ dX2_withDatePairs_71 (fun _ _ z => False.elim z) (fun v9 ws9 h86 => ?_))))
  obtain ⟨rfl, hw9⟩ := h86
  subst ws9
  dsimp only [mPush]
  refine r_callV hX (z_X1_isAlike _ _ (2 + 5) _ _ _ _ (zWd_loc (d := 2) (by decide)) (zrg hS (by decide)) (2 + 5) _ _ _ _ (zWd_loc (d := 2) (by decide)) (zrg hS (by decide))) kv_X2_360 (2 + 5) (zWd_loc (d := 2) (by decide)) rfl rfl rfl (Nat.le_of_ble_eq_true rfl) ⟨(Nat.le_of_ble_eq_true rfl), (Nat.le_of_ble_eq_true rfl)⟩ ⟨(Nat.le_of_ble_eq_true rfl), (Nat.le_of_ble_eq_true rfl)⟩ dX2_withDatePairs_74 (fun _ _ z => False.elim z) (fun v9 ws9 h87 => ?_)
  obtain ⟨rfl, hw9⟩ := h87
  subst ws9
  dsimp only [mPush]
  refine r_selL hX dX2_withDatePairs_77 dX2_withDatePairs_80 dX2_withDatePairs_81 dX2_withDatePairs_84 (r_callS hX (z_X2_addedG _ _ _ _) ks_X2_247 rfl rfl (Nat.le_of_ble_eq_true rfl) ⟨(Nat.le_of_ble_eq_true rfl), (Nat.le_of_ble_eq_true rfl)⟩ ⟨(Nat.le_of_ble_eq_true rfl), (Nat.le_of_ble_eq_true rfl)⟩ dX2_withDatePairs_85 (fun _ _ z => False.elim z) (fun v9 ws9 h88 => ?_))
  obtain ⟨g22, hg22, rfl, hw9⟩ := h88
  subst ws9
  dsimp only [mPush]
  refine r_lstore_n hX dX2_withDatePairs_88 rfl (by decide) rfl (r_lc5 (i0 := 0) (i1 := 1) (i2 := 3) (i3 := 5) (i4 := 6) rfl rfl rfl rfl rfl (r_iincZ (z := 1) (y := 3) hX dX2_withDatePairs_89 rfl (by decide) rfl rfl (r_goto (tgt := 18) hX dX2_withDatePairs_92 (by decide) (r_iload hX dX2_withDatePairs_18 rfl (r_aload_n hX dX2_withDatePairs_20 rfl rfl (r_get hX kf_X2_20 0 rfl rfl dX2_withDatePairs_21 (r_alen (v := iZ 4) hX 3 2 rfl rfl rfl dX2_withDatePairs_24 ?_)))))))
  refine r_icmp_geZ (tgt := 95) hX dX2_withDatePairs_25 (by decide) (by decide) (by decide) (fun q => absurd q (by decide)) (fun _ => ?_)
  refine r_lload_n hX dX2_withDatePairs_28 rfl rfl (r_aload_n hX dX2_withDatePairs_29 rfl rfl (r_get hX kf_X2_20 0 rfl rfl dX2_withDatePairs_30 (r_iload hX dX2_withDatePairs_33 rfl (r_callS hX (z_X2_at_ok ad cs _ 3 _ 4 0 rfl (by decide) _ 2 (by first | with_reducible assumption | decide | omega) (by decide)) ks_X2_84 rfl rfl (Nat.le_of_ble_eq_true rfl) ⟨(Nat.le_of_ble_eq_true rfl), (Nat.le_of_ble_eq_true rfl)⟩ ⟨(Nat.le_of_ble_eq_true rfl), (Nat.le_of_ble_eq_true rfl)⟩ dX2_withDatePairs_35 (fun _ _ z => False.elim z) (fun v9 ws9 h89 => ?_)))))
  obtain ⟨rfl, hw9⟩ := h89
  subst ws9
  dsimp only [mPush]
  refine r_aload_n hX dX2_withDatePairs_38 rfl rfl (r_get hX kf_X2_20 0 rfl rfl dX2_withDatePairs_39 (r_iload hX dX2_withDatePairs_42 rfl (r_callS hX (z_X2_at_ok ad cs _ 3 _ 4 0 rfl (by decide) _ 3 (by first | with_reducible assumption | decide | omega) (by decide)) ks_X2_84 rfl rfl (Nat.le_of_ble_eq_true rfl) ⟨(Nat.le_of_ble_eq_true rfl), (Nat.le_of_ble_eq_true rfl)⟩ ⟨(Nat.le_of_ble_eq_true rfl), (Nat.le_of_ble_eq_true rfl)⟩ dX2_withDatePairs_44 (fun _ _ z => False.elim z) (fun v9 ws9 h90 => ?_))))
  obtain ⟨rfl, hw9⟩ := h90
  subst ws9
  dsimp only [mPush]
  refine r_callV hX (z_X1_orderTo _ _ (2 + 5) _ _ _ _ (zWd_loc (d := 2) (by decide)) (zrg hS (by decide)) (3 + 5) _ _ _ _ (zWd_loc (d := 3) (by decide)) (zrg hS (by decide))) kv_X2_179 (2 + 5) (zWd_loc (d := 2) (by decide)) rfl rfl rfl (Nat.le_of_ble_eq_true rfl) ⟨(Nat.le_of_ble_eq_true rfl), (Nat.le_of_ble_eq_true rfl)⟩ ⟨(Nat.le_of_ble_eq_true rfl), (Nat.le_of_ble_eq_true rfl)⟩ dX2_withDatePairs_47 (fun _ _ z => False.elim z) (fun v9 ws9 h91 => ?_)
  obtain ⟨rfl, hw9⟩ := h91
  subst ws9
  dsimp only [mPush]
  have hb91 := zTo_b (sse S 2) (sna S 2) (sow S 2) (sse S 3) (sna S 3) (sow S 3)
  refine r_i2lZ hX dX2_withDatePairs_50 (by first | with_reducible assumption | decide | omega) (r_callS hX (z_X2_addedG _ _ _ _) ks_X2_247 rfl rfl (Nat.le_of_ble_eq_true rfl) ⟨(Nat.le_of_ble_eq_true rfl), (Nat.le_of_ble_eq_true rfl)⟩ ⟨(Nat.le_of_ble_eq_true rfl), (Nat.le_of_ble_eq_true rfl)⟩ dX2_withDatePairs_51 (fun _ _ z => False.elim z) (fun v9 ws9 h92 => ?_))
  obtain ⟨g23, hg23, rfl, hw9⟩ := h92
  subst ws9
  dsimp only [mPush]
  refine r_lstore_n hX dX2_withDatePairs_54 rfl (by decide) rfl (r_lload_n hX dX2_withDatePairs_55 rfl rfl (r_aload_n hX dX2_withDatePairs_56 rfl rfl (r_get hX kf_X2_20 0 rfl rfl dX2_withDatePairs_57 (r_iload hX dX2_withDatePairs_60 rfl (r_callS hX (z_X2_at_ok ad cs _ 3 _ 4 0 rfl (by decide) _ 2 (by first | with_reducible assumption | decide | omega) (by decide)) ks_X2_84 rfl rfl (Nat.le_of_ble_eq_true rfl) ⟨(Nat.le_of_ble_eq_true rfl), (Nat.le_of_ble_eq_true rfl)⟩ ⟨(Nat.le_of_ble_eq_true rfl), (Nat.le_of_ble_eq_true rfl)⟩ dX2_withDatePairs_62 (fun _ _ z => False.elim z) (fun v9 ws9 h93 => ?_))))))
  obtain ⟨rfl, hw9⟩ := h93
  subst ws9
  dsimp only [mPush]
  refine r_aload_n hX dX2_withDatePairs_65 rfl rfl (r_get hX kf_X2_20 0 rfl rfl dX2_withDatePairs_66 (r_iload hX dX2_withDatePairs_69 rfl (r_callS hX (z_X2_at_ok ad cs _ 3 _ 4 0 rfl (by decide) _ 3 (by first | with_reducible assumption | decide | omega) (by decide)) ks_X2_84 rfl rfl (Nat.le_of_ble_eq_true rfl) ⟨(Nat.le_of_ble_eq_true rfl), (Nat.le_of_ble_eq_true rfl)⟩ ⟨(Nat.le_of_ble_eq_true rfl), (Nat.le_of_ble_eq_true rfl)⟩ dX2_withDatePairs_71 (fun _ _ z => False.elim z) (fun v9 ws9 h94 => ?_))))
  obtain ⟨rfl, hw9⟩ := h94
  subst ws9
  dsimp only [mPush]
  refine r_callV hX (z_X1_isAlike _ _ (2 + 5) _ _ _ _ (zWd_loc (d := 2) (by decide)) (zrg hS (by decide)) (3 + 5) _ _ _ _ (zWd_loc (d := 3) (by decide)) (zrg hS (by decide))) kv_X2_360 (2 + 5) (zWd_loc (d := 2) (by decide)) rfl rfl rfl (Nat.le_of_ble_eq_true rfl) ⟨(Nat.le_of_ble_eq_true rfl), (Nat.le_of_ble_eq_true rfl)⟩ ⟨(Nat.le_of_ble_eq_true rfl), (Nat.le_of_ble_eq_true rfl)⟩ dX2_withDatePairs_74 (fun _ _ z => False.elim z) (fun v9 ws9 h95 => ?_)
  obtain ⟨rfl, hw9⟩ := h95
  subst ws9
  dsimp only [mPush]
  refine r_selL hX dX2_withDatePairs_77 dX2_withDatePairs_80 dX2_withDatePairs_81 dX2_withDatePairs_84 (r_callS hX (z_X2_addedG _ _ _ _) ks_X2_247 rfl rfl (Nat.le_of_ble_eq_true rfl) ⟨(Nat.le_of_ble_eq_true rfl), (Nat.le_of_ble_eq_true rfl)⟩ ⟨(Nat.le_of_ble_eq_true rfl), (Nat.le_of_ble_eq_true rfl)⟩ dX2_withDatePairs_85 (fun _ _ z => False.elim z) (fun v9 ws9 h96 => ?_))
  obtain ⟨g24, hg24, rfl, hw9⟩ := h96
  subst ws9
  dsimp only [mPush]
  refine r_lstore_n hX dX2_withDatePairs_88 rfl (by decide) rfl (r_iincZ (z := 1) (y := 4) hX dX2_withDatePairs_89 rfl (by decide) rfl rfl (r_goto (tgt := 18) hX dX2_withDatePairs_92 (by decide) (r_iload hX dX2_withDatePairs_18 rfl (r_aload_n hX dX2_withDatePairs_20 rfl rfl (r_get hX kf_X2_20 0 rfl rfl dX2_withDatePairs_21 (r_alen (v := iZ 4) hX 3 2 rfl rfl rfl dX2_withDatePairs_24 (r_icmp_geZ (tgt := 95) hX dX2_withDatePairs_25 (by decide) (by decide) (by decide) (fun _ => ?_) (fun q => absurd (by decide) q))))))))
  refine r_iincZ (z := 1) (y := 3) hX dX2_withDatePairs_95 rfl (by decide) rfl rfl (r_goto (tgt := 5) hX dX2_withDatePairs_98 (by decide) (r_iload hX dX2_withDatePairs_5 rfl (r_aload_n hX dX2_withDatePairs_7 rfl rfl (r_get hX kf_X2_20 0 rfl rfl dX2_withDatePairs_8 (r_alen (v := iZ 4) hX 3 2 rfl rfl rfl dX2_withDatePairs_11 (r_icmp_geZ (tgt := 101) hX dX2_withDatePairs_12 (by decide) (by decide) (by decide) (fun q => absurd q (by decide)) (fun _ => ?_)))))))
  refine r_iconstZ hX dX2_withDatePairs_15 (r_istore hX dX2_withDatePairs_16 (by decide) rfl (r_iload hX dX2_withDatePairs_18 rfl (r_aload_n hX dX2_withDatePairs_20 rfl rfl (r_get hX kf_X2_20 0 rfl rfl dX2_withDatePairs_21 (r_alen (v := iZ 4) hX 3 2 rfl rfl rfl dX2_withDatePairs_24 (r_icmp_geZ (tgt := 95) hX dX2_withDatePairs_25 (by decide) (by decide) (by decide) (fun q => absurd q (by decide)) (fun _ => ?_)))))))
  refine r_lload_n hX dX2_withDatePairs_28 rfl rfl (r_aload_n hX dX2_withDatePairs_29 rfl rfl (r_get hX kf_X2_20 0 rfl rfl dX2_withDatePairs_30 (r_iload hX dX2_withDatePairs_33 rfl (r_callS hX (z_X2_at_ok ad cs _ 3 _ 4 0 rfl (by decide) _ 3 (by first | with_reducible assumption | decide | omega) (by decide)) ks_X2_84 rfl rfl (Nat.le_of_ble_eq_true rfl) ⟨(Nat.le_of_ble_eq_true rfl), (Nat.le_of_ble_eq_true rfl)⟩ ⟨(Nat.le_of_ble_eq_true rfl), (Nat.le_of_ble_eq_true rfl)⟩ dX2_withDatePairs_35 (fun _ _ z => False.elim z) (fun v9 ws9 h97 => ?_)))))
  obtain ⟨rfl, hw9⟩ := h97
  subst ws9
  dsimp only [mPush]
  refine r_aload_n hX dX2_withDatePairs_38 rfl rfl (r_get hX kf_X2_20 0 rfl rfl dX2_withDatePairs_39 (r_iload hX dX2_withDatePairs_42 rfl (r_callS hX (z_X2_at_ok ad cs _ 3 _ 4 0 rfl (by decide) _ 0 (by first | with_reducible assumption | decide | omega) (by decide)) ks_X2_84 rfl rfl (Nat.le_of_ble_eq_true rfl) ⟨(Nat.le_of_ble_eq_true rfl), (Nat.le_of_ble_eq_true rfl)⟩ ⟨(Nat.le_of_ble_eq_true rfl), (Nat.le_of_ble_eq_true rfl)⟩ dX2_withDatePairs_44 (fun _ _ z => False.elim z) (fun v9 ws9 h98 => ?_))))
  obtain ⟨rfl, hw9⟩ := h98
  subst ws9
  dsimp only [mPush]
  refine r_callV hX (z_X1_orderTo _ _ (3 + 5) _ _ _ _ (zWd_loc (d := 3) (by decide)) (zrg hS (by decide)) (0 + 5) _ _ _ _ (zWd_loc (d := 0) (by decide)) (zrg hS (by decide))) kv_X2_179 (3 + 5) (zWd_loc (d := 3) (by decide)) rfl rfl rfl (Nat.le_of_ble_eq_true rfl) ⟨(Nat.le_of_ble_eq_true rfl), (Nat.le_of_ble_eq_true rfl)⟩ ⟨(Nat.le_of_ble_eq_true rfl), (Nat.le_of_ble_eq_true rfl)⟩ dX2_withDatePairs_47 (fun _ _ z => False.elim z) (fun v9 ws9 h99 => ?_)
  obtain ⟨rfl, hw9⟩ := h99
  subst ws9
  dsimp only [mPush]
  have hb99 := zTo_b (sse S 3) (sna S 3) (sow S 3) (sse S 0) (sna S 0) (sow S 0)
  refine r_i2lZ hX dX2_withDatePairs_50 (by first | with_reducible assumption | decide | omega) (r_callS hX (z_X2_addedG _ _ _ _) ks_X2_247 rfl rfl (Nat.le_of_ble_eq_true rfl) ⟨(Nat.le_of_ble_eq_true rfl), (Nat.le_of_ble_eq_true rfl)⟩ ⟨(Nat.le_of_ble_eq_true rfl), (Nat.le_of_ble_eq_true rfl)⟩ dX2_withDatePairs_51 (fun _ _ z => False.elim z) (fun v9 ws9 h100 => ?_))
  obtain ⟨g25, hg25, rfl, hw9⟩ := h100
  subst ws9
  dsimp only [mPush]
  refine r_lstore_n hX dX2_withDatePairs_54 rfl (by decide) rfl (r_lload_n hX dX2_withDatePairs_55 rfl rfl (r_aload_n hX dX2_withDatePairs_56 rfl rfl (r_get hX kf_X2_20 0 rfl rfl dX2_withDatePairs_57 (r_iload hX dX2_withDatePairs_60 rfl (r_callS hX (z_X2_at_ok ad cs _ 3 _ 4 0 rfl (by decide) _ 3 (by first | with_reducible assumption | decide | omega) (by decide)) ks_X2_84 rfl rfl (Nat.le_of_ble_eq_true rfl) ⟨(Nat.le_of_ble_eq_true rfl), (Nat.le_of_ble_eq_true rfl)⟩ ⟨(Nat.le_of_ble_eq_true rfl), (Nat.le_of_ble_eq_true rfl)⟩ dX2_withDatePairs_62 (fun _ _ z => False.elim z) (fun v9 ws9 h101 => ?_))))))
  obtain ⟨rfl, hw9⟩ := h101
  subst ws9
  dsimp only [mPush]
  refine r_aload_n hX dX2_withDatePairs_65 rfl rfl (r_get hX kf_X2_20 0 rfl rfl dX2_withDatePairs_66 (r_iload hX dX2_withDatePairs_69 rfl (r_callS hX (z_X2_at_ok ad cs _ 3 _ 4 0 rfl (by decide) _ 0 (by first | with_reducible assumption | decide | omega) (by decide)) ks_X2_84 rfl rfl (Nat.le_of_ble_eq_true rfl) ⟨(Nat.le_of_ble_eq_true rfl), (Nat.le_of_ble_eq_true rfl)⟩ ⟨(Nat.le_of_ble_eq_true rfl), (Nat.le_of_ble_eq_true rfl)⟩ dX2_withDatePairs_71 (fun _ _ z => False.elim z) (fun v9 ws9 h102 => ?_))))
  obtain ⟨rfl, hw9⟩ := h102
  subst ws9
  dsimp only [mPush]
  refine r_callV hX (z_X1_isAlike _ _ (3 + 5) _ _ _ _ (zWd_loc (d := 3) (by decide)) (zrg hS (by decide)) (0 + 5) _ _ _ _ (zWd_loc (d := 0) (by decide)) (zrg hS (by decide))) kv_X2_360 (3 + 5) (zWd_loc (d := 3) (by decide)) rfl rfl rfl (Nat.le_of_ble_eq_true rfl) ⟨(Nat.le_of_ble_eq_true rfl), (Nat.le_of_ble_eq_true rfl)⟩ ⟨(Nat.le_of_ble_eq_true rfl), (Nat.le_of_ble_eq_true rfl)⟩ dX2_withDatePairs_74 (fun _ _ z => False.elim z) (fun v9 ws9 h103 => ?_)
  obtain ⟨rfl, hw9⟩ := h103
  subst ws9
  dsimp only [mPush]
  refine r_selL hX dX2_withDatePairs_77 dX2_withDatePairs_80 dX2_withDatePairs_81 dX2_withDatePairs_84 (r_callS hX (z_X2_addedG _ _ _ _) ks_X2_247 rfl rfl (Nat.le_of_ble_eq_true rfl) ⟨(Nat.le_of_ble_eq_true rfl), (Nat.le_of_ble_eq_true rfl)⟩ ⟨(Nat.le_of_ble_eq_true rfl), (Nat.le_of_ble_eq_true rfl)⟩ dX2_withDatePairs_85 (fun _ _ z => False.elim z) (fun v9 ws9 h104 => ?_))
  obtain ⟨g26, hg26, rfl, hw9⟩ := h104
  subst ws9
  dsimp only [mPush]
  refine r_lstore_n hX dX2_withDatePairs_88 rfl (by decide) rfl (r_lc5 (i0 := 0) (i1 := 1) (i2 := 3) (i3 := 5) (i4 := 6) rfl rfl rfl rfl rfl (r_iincZ (z := 1) (y := 1) hX dX2_withDatePairs_89 rfl (by decide) rfl rfl (r_goto (tgt := 18) hX dX2_withDatePairs_92 (by decide) (r_iload hX dX2_withDatePairs_18 rfl (r_aload_n hX dX2_withDatePairs_20 rfl rfl (r_get hX kf_X2_20 0 rfl rfl dX2_withDatePairs_21 (r_alen (v := iZ 4) hX 3 2 rfl rfl rfl dX2_withDatePairs_24 ?_)))))))
  refine r_icmp_geZ (tgt := 95) hX dX2_withDatePairs_25 (by decide) (by decide) (by decide) (fun q => absurd q (by decide)) (fun _ => ?_)
  refine r_lload_n hX dX2_withDatePairs_28 rfl rfl (r_aload_n hX dX2_withDatePairs_29 rfl rfl (r_get hX kf_X2_20 0 rfl rfl dX2_withDatePairs_30 (r_iload hX dX2_withDatePairs_33 rfl (r_callS hX (z_X2_at_ok ad cs _ 3 _ 4 0 rfl (by decide) _ 3 (by first | with_reducible assumption | decide | omega) (by decide)) ks_X2_84 rfl rfl (Nat.le_of_ble_eq_true rfl) ⟨(Nat.le_of_ble_eq_true rfl), (Nat.le_of_ble_eq_true rfl)⟩ ⟨(Nat.le_of_ble_eq_true rfl), (Nat.le_of_ble_eq_true rfl)⟩ dX2_withDatePairs_35 (fun _ _ z => False.elim z) (fun v9 ws9 h105 => ?_)))))
  obtain ⟨rfl, hw9⟩ := h105
  subst ws9
  dsimp only [mPush]
  refine r_aload_n hX dX2_withDatePairs_38 rfl rfl (r_get hX kf_X2_20 0 rfl rfl dX2_withDatePairs_39 (r_iload hX dX2_withDatePairs_42 rfl (r_callS hX (z_X2_at_ok ad cs _ 3 _ 4 0 rfl (by decide) _ 1 (by first | with_reducible assumption | decide | omega) (by decide)) ks_X2_84 rfl rfl (Nat.le_of_ble_eq_true rfl) ⟨(Nat.le_of_ble_eq_true rfl), (Nat.le_of_ble_eq_true rfl)⟩ ⟨(Nat.le_of_ble_eq_true rfl), (Nat.le_of_ble_eq_true rfl)⟩ dX2_withDatePairs_44 (fun _ _ z => False.elim z) (fun v9 ws9 h106 => ?_))))
  obtain ⟨rfl, hw9⟩ := h106
  subst ws9
  dsimp only [mPush]
  refine r_callV hX (z_X1_orderTo _ _ (3 + 5) _ _ _ _ (zWd_loc (d := 3) (by decide)) (zrg hS (by decide)) (1 + 5) _ _ _ _ (zWd_loc (d := 1) (by decide)) (zrg hS (by decide))) kv_X2_179 (3 + 5) (zWd_loc (d := 3) (by decide)) rfl rfl rfl (Nat.le_of_ble_eq_true rfl) ⟨(Nat.le_of_ble_eq_true rfl), (Nat.le_of_ble_eq_true rfl)⟩ ⟨(Nat.le_of_ble_eq_true rfl), (Nat.le_of_ble_eq_true rfl)⟩ dX2_withDatePairs_47 (fun _ _ z => False.elim z) (fun v9 ws9 h107 => ?_)
  obtain ⟨rfl, hw9⟩ := h107
  subst ws9
  dsimp only [mPush]
  have hb107 := zTo_b (sse S 3) (sna S 3) (sow S 3) (sse S 1) (sna S 1) (sow S 1)
  refine r_i2lZ hX dX2_withDatePairs_50 (by first | with_reducible assumption | decide | omega) (r_callS hX (z_X2_addedG _ _ _ _) ks_X2_247 rfl rfl (Nat.le_of_ble_eq_true rfl) ⟨(Nat.le_of_ble_eq_true rfl), (Nat.le_of_ble_eq_true rfl)⟩ ⟨(Nat.le_of_ble_eq_true rfl), (Nat.le_of_ble_eq_true rfl)⟩ dX2_withDatePairs_51 (fun _ _ z => False.elim z) (fun v9 ws9 h108 => ?_))
  obtain ⟨g27, hg27, rfl, hw9⟩ := h108
  subst ws9
  dsimp only [mPush]
  refine r_lstore_n hX dX2_withDatePairs_54 rfl (by decide) rfl (r_lload_n hX dX2_withDatePairs_55 rfl rfl (r_aload_n hX dX2_withDatePairs_56 rfl rfl (r_get hX kf_X2_20 0 rfl rfl dX2_withDatePairs_57 (r_iload hX dX2_withDatePairs_60 rfl (r_callS hX (z_X2_at_ok ad cs _ 3 _ 4 0 rfl (by decide) _ 3 (by first | with_reducible assumption | decide | omega) (by decide)) ks_X2_84 rfl rfl (Nat.le_of_ble_eq_true rfl) ⟨(Nat.le_of_ble_eq_true rfl), (Nat.le_of_ble_eq_true rfl)⟩ ⟨(Nat.le_of_ble_eq_true rfl), (Nat.le_of_ble_eq_true rfl)⟩ dX2_withDatePairs_62 (fun _ _ z => False.elim z) (fun v9 ws9 h109 => ?_))))))
  obtain ⟨rfl, hw9⟩ := h109
  subst ws9
  dsimp only [mPush]
  refine r_aload_n hX dX2_withDatePairs_65 rfl rfl (r_get hX kf_X2_20 0 rfl rfl dX2_withDatePairs_66 (r_iload hX dX2_withDatePairs_69 rfl (r_callS hX (z_X2_at_ok ad cs _ 3 _ 4 0 rfl (by decide) _ 1 (by first | with_reducible assumption | decide | omega) (by decide)) ks_X2_84 rfl rfl (Nat.le_of_ble_eq_true rfl) ⟨(Nat.le_of_ble_eq_true rfl), (Nat.le_of_ble_eq_true rfl)⟩ ⟨(Nat.le_of_ble_eq_true rfl), (Nat.le_of_ble_eq_true rfl)⟩ dX2_withDatePairs_71 (fun _ _ z => False.elim z) (fun v9 ws9 h110 => ?_))))
  obtain ⟨rfl, hw9⟩ := h110
  subst ws9
  dsimp only [mPush]
  refine r_callV hX (z_X1_isAlike _ _ (3 + 5) _ _ _ _ (zWd_loc (d := 3) (by decide)) (zrg hS (by decide)) (1 + 5) _ _ _ _ (zWd_loc (d := 1) (by decide)) (zrg hS (by decide))) kv_X2_360 (3 + 5) (zWd_loc (d := 3) (by decide)) rfl rfl rfl (Nat.le_of_ble_eq_true rfl) ⟨(Nat.le_of_ble_eq_true rfl), (Nat.le_of_ble_eq_true rfl)⟩ ⟨(Nat.le_of_ble_eq_true rfl), (Nat.le_of_ble_eq_true rfl)⟩ dX2_withDatePairs_74 (fun _ _ z => False.elim z) (fun v9 ws9 h111 => ?_)
  obtain ⟨rfl, hw9⟩ := h111
  subst ws9
  dsimp only [mPush]
  refine r_selL hX dX2_withDatePairs_77 dX2_withDatePairs_80 dX2_withDatePairs_81 dX2_withDatePairs_84 (r_callS hX (z_X2_addedG _ _ _ _) ks_X2_247 rfl rfl (Nat.le_of_ble_eq_true rfl) ⟨(Nat.le_of_ble_eq_true rfl), (Nat.le_of_ble_eq_true rfl)⟩ ⟨(Nat.le_of_ble_eq_true rfl), (Nat.le_of_ble_eq_true rfl)⟩ dX2_withDatePairs_85 (fun _ _ z => False.elim z) (fun v9 ws9 h112 => ?_))
  obtain ⟨g28, hg28, rfl, hw9⟩ := h112
  subst ws9
  dsimp only [mPush]
  refine r_lstore_n hX dX2_withDatePairs_88 rfl (by decide) rfl (r_iincZ (z := 1) (y := 2) hX dX2_withDatePairs_89 rfl (by decide) rfl rfl (r_goto (tgt := 18) hX dX2_withDatePairs_92 (by decide) (r_iload hX dX2_withDatePairs_18 rfl (r_aload_n hX dX2_withDatePairs_20 rfl rfl (r_get hX kf_X2_20 0 rfl rfl dX2_withDatePairs_21 (r_alen (v := iZ 4) hX 3 2 rfl rfl rfl dX2_withDatePairs_24 (r_icmp_geZ (tgt := 95) hX dX2_withDatePairs_25 (by decide) (by decide) (by decide) (fun q => absurd q (by decide)) (fun _ => ?_))))))))
  refine r_lload_n hX dX2_withDatePairs_28 rfl rfl (r_aload_n hX dX2_withDatePairs_29 rfl rfl (r_get hX kf_X2_20 0 rfl rfl dX2_withDatePairs_30 (r_iload hX dX2_withDatePairs_33 rfl (r_callS hX (z_X2_at_ok ad cs _ 3 _ 4 0 rfl (by decide) _ 3 (by first | with_reducible assumption | decide | omega) (by decide)) ks_X2_84 rfl rfl (Nat.le_of_ble_eq_true rfl) ⟨(Nat.le_of_ble_eq_true rfl), (Nat.le_of_ble_eq_true rfl)⟩ ⟨(Nat.le_of_ble_eq_true rfl), (Nat.le_of_ble_eq_true rfl)⟩ dX2_withDatePairs_35 (fun _ _ z => False.elim z) (fun v9 ws9 h113 => ?_)))))
  obtain ⟨rfl, hw9⟩ := h113
  subst ws9
  dsimp only [mPush]
  refine r_aload_n hX dX2_withDatePairs_38 rfl rfl (r_get hX kf_X2_20 0 rfl rfl dX2_withDatePairs_39 (r_iload hX dX2_withDatePairs_42 rfl (r_callS hX (z_X2_at_ok ad cs _ 3 _ 4 0 rfl (by decide) _ 2 (by first | with_reducible assumption | decide | omega) (by decide)) ks_X2_84 rfl rfl (Nat.le_of_ble_eq_true rfl) ⟨(Nat.le_of_ble_eq_true rfl), (Nat.le_of_ble_eq_true rfl)⟩ ⟨(Nat.le_of_ble_eq_true rfl), (Nat.le_of_ble_eq_true rfl)⟩ dX2_withDatePairs_44 (fun _ _ z => False.elim z) (fun v9 ws9 h114 => ?_))))
  obtain ⟨rfl, hw9⟩ := h114
  subst ws9
  dsimp only [mPush]
  refine r_callV hX (z_X1_orderTo _ _ (3 + 5) _ _ _ _ (zWd_loc (d := 3) (by decide)) (zrg hS (by decide)) (2 + 5) _ _ _ _ (zWd_loc (d := 2) (by decide)) (zrg hS (by decide))) kv_X2_179 (3 + 5) (zWd_loc (d := 3) (by decide)) rfl rfl rfl (Nat.le_of_ble_eq_true rfl) ⟨(Nat.le_of_ble_eq_true rfl), (Nat.le_of_ble_eq_true rfl)⟩ ⟨(Nat.le_of_ble_eq_true rfl), (Nat.le_of_ble_eq_true rfl)⟩ dX2_withDatePairs_47 (fun _ _ z => False.elim z) (fun v9 ws9 h115 => ?_)
  obtain ⟨rfl, hw9⟩ := h115
  subst ws9
  dsimp only [mPush]
  have hb115 := zTo_b (sse S 3) (sna S 3) (sow S 3) (sse S 2) (sna S 2) (sow S 2)
  refine r_i2lZ hX dX2_withDatePairs_50 (by first | with_reducible assumption | decide | omega) (r_callS hX (z_X2_addedG _ _ _ _) ks_X2_247 rfl rfl (Nat.le_of_ble_eq_true rfl) ⟨(Nat.le_of_ble_eq_true rfl), (Nat.le_of_ble_eq_true rfl)⟩ ⟨(Nat.le_of_ble_eq_true rfl), (Nat.le_of_ble_eq_true rfl)⟩ dX2_withDatePairs_51 (fun _ _ z => False.elim z) (fun v9 ws9 h116 => ?_))
  obtain ⟨g29, hg29, rfl, hw9⟩ := h116
  subst ws9
  dsimp only [mPush]
  refine r_lstore_n hX dX2_withDatePairs_54 rfl (by decide) rfl (r_lload_n hX dX2_withDatePairs_55 rfl rfl (r_aload_n hX dX2_withDatePairs_56 rfl rfl (r_get hX kf_X2_20 0 rfl rfl dX2_withDatePairs_57 (r_iload hX dX2_withDatePairs_60 rfl (r_callS hX (z_X2_at_ok ad cs _ 3 _ 4 0 rfl (by decide) _ 3 (by first | with_reducible assumption | decide | omega) (by decide)) ks_X2_84 rfl rfl (Nat.le_of_ble_eq_true rfl) ⟨(Nat.le_of_ble_eq_true rfl), (Nat.le_of_ble_eq_true rfl)⟩ ⟨(Nat.le_of_ble_eq_true rfl), (Nat.le_of_ble_eq_true rfl)⟩ dX2_withDatePairs_62 (fun _ _ z => False.elim z) (fun v9 ws9 h117 => ?_))))))
  obtain ⟨rfl, hw9⟩ := h117
  subst ws9
  dsimp only [mPush]
  refine r_aload_n hX dX2_withDatePairs_65 rfl rfl (r_get hX kf_X2_20 0 rfl rfl dX2_withDatePairs_66 (r_iload hX dX2_withDatePairs_69 rfl (r_callS hX (z_X2_at_ok ad cs _ 3 _ 4 0 rfl (by decide) _ 2 (by first | with_reducible assumption | decide | omega) (by decide)) ks_X2_84 rfl rfl (Nat.le_of_ble_eq_true rfl) ⟨(Nat.le_of_ble_eq_true rfl), (Nat.le_of_ble_eq_true rfl)⟩ ⟨(Nat.le_of_ble_eq_true rfl), (Nat.le_of_ble_eq_true rfl)⟩ dX2_withDatePairs_71 (fun _ _ z => False.elim z) (fun v9 ws9 h118 => ?_))))
  obtain ⟨rfl, hw9⟩ := h118
  subst ws9
  dsimp only [mPush]
  refine r_callV hX (z_X1_isAlike _ _ (3 + 5) _ _ _ _ (zWd_loc (d := 3) (by decide)) (zrg hS (by decide)) (2 + 5) _ _ _ _ (zWd_loc (d := 2) (by decide)) (zrg hS (by decide))) kv_X2_360 (3 + 5) (zWd_loc (d := 3) (by decide)) rfl rfl rfl (Nat.le_of_ble_eq_true rfl) ⟨(Nat.le_of_ble_eq_true rfl), (Nat.le_of_ble_eq_true rfl)⟩ ⟨(Nat.le_of_ble_eq_true rfl), (Nat.le_of_ble_eq_true rfl)⟩ dX2_withDatePairs_74 (fun _ _ z => False.elim z) (fun v9 ws9 h119 => ?_)
  obtain ⟨rfl, hw9⟩ := h119
  subst ws9
  dsimp only [mPush]
  refine r_selL hX dX2_withDatePairs_77 dX2_withDatePairs_80 dX2_withDatePairs_81 dX2_withDatePairs_84 (r_callS hX (z_X2_addedG _ _ _ _) ks_X2_247 rfl rfl (Nat.le_of_ble_eq_true rfl) ⟨(Nat.le_of_ble_eq_true rfl), (Nat.le_of_ble_eq_true rfl)⟩ ⟨(Nat.le_of_ble_eq_true rfl), (Nat.le_of_ble_eq_true rfl)⟩ dX2_withDatePairs_85 (fun _ _ z => False.elim z) (fun v9 ws9 h120 => ?_))
  obtain ⟨g30, hg30, rfl, hw9⟩ := h120
  subst ws9
  dsimp only [mPush]
  refine r_lstore_n hX dX2_withDatePairs_88 rfl (by decide) rfl (r_iincZ (z := 1) (y := 3) hX dX2_withDatePairs_89 rfl (by decide) rfl rfl (r_goto (tgt := 18) hX dX2_withDatePairs_92 (by decide) (r_iload hX dX2_withDatePairs_18 rfl (r_aload_n hX dX2_withDatePairs_20 rfl rfl (r_get hX kf_X2_20 0 rfl rfl dX2_withDatePairs_21 (r_alen (v := iZ 4) hX 3 2 rfl rfl rfl dX2_withDatePairs_24 (r_icmp_geZ (tgt := 95) hX dX2_withDatePairs_25 (by decide) (by decide) (by decide) (fun q => absurd q (by decide)) (fun _ => ?_))))))))
  refine r_lload_n hX dX2_withDatePairs_28 rfl rfl (r_aload_n hX dX2_withDatePairs_29 rfl rfl (r_get hX kf_X2_20 0 rfl rfl dX2_withDatePairs_30 (r_iload hX dX2_withDatePairs_33 rfl (r_callS hX (z_X2_at_ok ad cs _ 3 _ 4 0 rfl (by decide) _ 3 (by first | with_reducible assumption | decide | omega) (by decide)) ks_X2_84 rfl rfl (Nat.le_of_ble_eq_true rfl) ⟨(Nat.le_of_ble_eq_true rfl), (Nat.le_of_ble_eq_true rfl)⟩ ⟨(Nat.le_of_ble_eq_true rfl), (Nat.le_of_ble_eq_true rfl)⟩ dX2_withDatePairs_35 (fun _ _ z => False.elim z) (fun v9 ws9 h121 => ?_)))))
  obtain ⟨rfl, hw9⟩ := h121
  subst ws9
  dsimp only [mPush]
  refine r_aload_n hX dX2_withDatePairs_38 rfl rfl (r_get hX kf_X2_20 0 rfl rfl dX2_withDatePairs_39 (r_iload hX dX2_withDatePairs_42 rfl (r_callS hX (z_X2_at_ok ad cs _ 3 _ 4 0 rfl (by decide) _ 3 (by first | with_reducible assumption | decide | omega) (by decide)) ks_X2_84 rfl rfl (Nat.le_of_ble_eq_true rfl) ⟨(Nat.le_of_ble_eq_true rfl), (Nat.le_of_ble_eq_true rfl)⟩ ⟨(Nat.le_of_ble_eq_true rfl), (Nat.le_of_ble_eq_true rfl)⟩ dX2_withDatePairs_44 (fun _ _ z => False.elim z) (fun v9 ws9 h122 => ?_))))
  obtain ⟨rfl, hw9⟩ := h122
  subst ws9
  dsimp only [mPush]
  refine r_callV hX (z_X1_orderTo _ _ (3 + 5) _ _ _ _ (zWd_loc (d := 3) (by decide)) (zrg hS (by decide)) (3 + 5) _ _ _ _ (zWd_loc (d := 3) (by decide)) (zrg hS (by decide))) kv_X2_179 (3 + 5) (zWd_loc (d := 3) (by decide)) rfl rfl rfl (Nat.le_of_ble_eq_true rfl) ⟨(Nat.le_of_ble_eq_true rfl), (Nat.le_of_ble_eq_true rfl)⟩ ⟨(Nat.le_of_ble_eq_true rfl), (Nat.le_of_ble_eq_true rfl)⟩ dX2_withDatePairs_47 (fun _ _ z => False.elim z) (fun v9 ws9 h123 => ?_)
  obtain ⟨rfl, hw9⟩ := h123
  subst ws9
  dsimp only [mPush]
  have hb123 := zTo_b (sse S 3) (sna S 3) (sow S 3) (sse S 3) (sna S 3) (sow S 3)
  refine r_i2lZ hX dX2_withDatePairs_50 (by first | with_reducible assumption | decide | omega) (r_callS hX (z_X2_addedG _ _ _ _) ks_X2_247 rfl rfl (Nat.le_of_ble_eq_true rfl) ⟨(Nat.le_of_ble_eq_true rfl), (Nat.le_of_ble_eq_true rfl)⟩ ⟨(Nat.le_of_ble_eq_true rfl), (Nat.le_of_ble_eq_true rfl)⟩ dX2_withDatePairs_51 (fun _ _ z => False.elim z) (fun v9 ws9 h124 => ?_))
  obtain ⟨g31, hg31, rfl, hw9⟩ := h124
  subst ws9
  dsimp only [mPush]
  refine r_lstore_n hX dX2_withDatePairs_54 rfl (by decide) rfl (r_lc5 (i0 := 0) (i1 := 1) (i2 := 3) (i3 := 5) (i4 := 6) rfl rfl rfl rfl rfl (r_lload_n hX dX2_withDatePairs_55 rfl rfl (r_aload_n hX dX2_withDatePairs_56 rfl rfl (r_get hX kf_X2_20 0 rfl rfl dX2_withDatePairs_57 (r_iload hX dX2_withDatePairs_60 rfl (r_callS hX (z_X2_at_ok ad cs _ 3 _ 4 0 rfl (by decide) _ 3 (by first | with_reducible assumption | decide | omega) (by decide)) ks_X2_84 rfl rfl (Nat.le_of_ble_eq_true rfl) ⟨(Nat.le_of_ble_eq_true rfl), (Nat.le_of_ble_eq_true rfl)⟩ ⟨(Nat.le_of_ble_eq_true rfl), (Nat.le_of_ble_eq_true rfl)⟩ dX2_withDatePairs_62 (fun _ _ z => False.elim z) (fun v9 ws9 h125 => ?_)))))))
  obtain ⟨rfl, hw9⟩ := h125
  subst ws9
  dsimp only [mPush]
  refine r_aload_n hX dX2_withDatePairs_65 rfl rfl (r_get hX kf_X2_20 0 rfl rfl dX2_withDatePairs_66 (r_iload hX dX2_withDatePairs_69 rfl (r_callS hX (z_X2_at_ok ad cs _ 3 _ 4 0 rfl (by decide) _ 3 (by first | with_reducible assumption | decide | omega) (by decide)) ks_X2_84 rfl rfl (Nat.le_of_ble_eq_true rfl) ⟨(Nat.le_of_ble_eq_true rfl), (Nat.le_of_ble_eq_true rfl)⟩ ⟨(Nat.le_of_ble_eq_true rfl), (Nat.le_of_ble_eq_true rfl)⟩ dX2_withDatePairs_71 (fun _ _ z => False.elim z) (fun v9 ws9 h126 => ?_))))
  obtain ⟨rfl, hw9⟩ := h126
  subst ws9
  dsimp only [mPush]
  refine r_callV hX (z_X1_isAlike _ _ (3 + 5) _ _ _ _ (zWd_loc (d := 3) (by decide)) (zrg hS (by decide)) (3 + 5) _ _ _ _ (zWd_loc (d := 3) (by decide)) (zrg hS (by decide))) kv_X2_360 (3 + 5) (zWd_loc (d := 3) (by decide)) rfl rfl rfl (Nat.le_of_ble_eq_true rfl) ⟨(Nat.le_of_ble_eq_true rfl), (Nat.le_of_ble_eq_true rfl)⟩ ⟨(Nat.le_of_ble_eq_true rfl), (Nat.le_of_ble_eq_true rfl)⟩ dX2_withDatePairs_74 (fun _ _ z => False.elim z) (fun v9 ws9 h127 => ?_)
  obtain ⟨rfl, hw9⟩ := h127
  subst ws9
  dsimp only [mPush]
  refine r_selL hX dX2_withDatePairs_77 dX2_withDatePairs_80 dX2_withDatePairs_81 dX2_withDatePairs_84 (r_callS hX (z_X2_addedG _ _ _ _) ks_X2_247 rfl rfl (Nat.le_of_ble_eq_true rfl) ⟨(Nat.le_of_ble_eq_true rfl), (Nat.le_of_ble_eq_true rfl)⟩ ⟨(Nat.le_of_ble_eq_true rfl), (Nat.le_of_ble_eq_true rfl)⟩ dX2_withDatePairs_85 (fun _ _ z => False.elim z) (fun v9 ws9 h128 => ?_))
  obtain ⟨g32, hg32, rfl, hw9⟩ := h128
  subst ws9
  dsimp only [mPush]
  refine r_lstore_n hX dX2_withDatePairs_88 rfl (by decide) rfl (r_iincZ (z := 1) (y := 4) hX dX2_withDatePairs_89 rfl (by decide) rfl rfl (r_goto (tgt := 18) hX dX2_withDatePairs_92 (by decide) (r_iload hX dX2_withDatePairs_18 rfl (r_aload_n hX dX2_withDatePairs_20 rfl rfl (r_get hX kf_X2_20 0 rfl rfl dX2_withDatePairs_21 (r_alen (v := iZ 4) hX 3 2 rfl rfl rfl dX2_withDatePairs_24 (r_icmp_geZ (tgt := 95) hX dX2_withDatePairs_25 (by decide) (by decide) (by decide) (fun _ => ?_) (fun q => absurd (by decide) q))))))))
  refine r_iincZ (z := 1) (y := 4) hX dX2_withDatePairs_95 rfl (by decide) rfl rfl (r_goto (tgt := 5) hX dX2_withDatePairs_98 (by decide) (r_iload hX dX2_withDatePairs_5 rfl (r_aload_n hX dX2_withDatePairs_7 rfl rfl (r_get hX kf_X2_20 0 rfl rfl dX2_withDatePairs_8 (r_alen (v := iZ 4) hX 3 2 rfl rfl rfl dX2_withDatePairs_11 (r_icmp_geZ (tgt := 101) hX dX2_withDatePairs_12 (by decide) (by decide) (by decide) (fun _ => ?_) (fun q => absurd (by decide) q)))))))
  refine r_lload_n hX dX2_withDatePairs_101 rfl rfl ?_
  exact r_lret hX hE dX2_withDatePairs_102 (Nat.le_of_ble_eq_true rfl) (Nat.le_of_ble_eq_true rfl) ⟨zl (((dg_step hg1).trans ((dg_step hg2).trans ((dg_step hg3).trans ((dg_step hg4).trans ((dg_step hg5).trans ((dg_step hg6).trans ((dg_step hg7).trans ((dg_step hg8).trans ((dg_step hg9).trans ((dg_step hg10).trans ((dg_step hg11).trans ((dg_step hg12).trans ((dg_step hg13).trans ((dg_step hg14).trans ((dg_step hg15).trans ((dg_step hg16).trans ((dg_step hg17).trans ((dg_step hg18).trans ((dg_step hg19).trans ((dg_step hg20).trans ((dg_step hg21).trans ((dg_step hg22).trans ((dg_step hg23).trans ((dg_step hg24).trans ((dg_step hg25).trans ((dg_step hg26).trans ((dg_step hg27).trans ((dg_step hg28).trans ((dg_step hg29).trans ((dg_step hg30).trans ((dg_step hg31).trans (dg_step (l := []) hg32))))))))))))))))))))))))))))))))).symm, rfl⟩
set_option maxHeartbeats 4000000 in
set_option maxRecDepth 20000 in
theorem z_X2_withClockPairs (ad : Nat → Nat) (cs : ClassId × ClassId × ClassId) (S : mS) (T : mT2) (rest : va_W) (hS : sWF S) (s : Int)  : mCt (mTy cs) yX2_withClockPairs cX2_withClockPairs 7 (some .long) ⟨3, 0, 0, 67⟩ [.ref (ad 0), .long (lZ s)] (mWd ad cs (mKof S T) rest) (fun v ws' => v = some (.long (lZ (dCp S s))) ∧ ws' = (mWd ad cs (mKof S T) rest)) mNo := by
  refine mCt.of (by decide +kernel) (Nat.le_of_ble_eq_true rfl) (fun X hX hE => ?_)
  replace hX : mOK X RX2 cX2_withClockPairs 7 ⟨3, 0, 0, 67⟩ [] (mTy cs) := hX
  refine r_lload_n hX dX2_withClockPairs_0 rfl rfl (r_lstore_n hX dX2_withClockPairs_1 rfl (by decide) rfl (r_iconstZ hX dX2_withClockPairs_2 (r_istore hX dX2_withClockPairs_3 (by decide) rfl (r_iload hX dX2_withClockPairs_5 rfl (r_aload_n hX dX2_withClockPairs_7 rfl rfl (r_get hX kf_X2_24 0 rfl rfl dX2_withClockPairs_8 (r_alen (v := iZ 3) hX 4 2 rfl rfl rfl dX2_withClockPairs_11 ?_)))))))
  refine r_icmp_geZ (tgt := 67) hX dX2_withClockPairs_12 (by decide) (by decide) (by decide) (fun q => absurd q (by decide)) (fun _ => ?_)
  refine r_iconstZ hX dX2_withClockPairs_15 (r_istore hX dX2_withClockPairs_16 (by decide) rfl (r_iload hX dX2_withClockPairs_18 rfl (r_aload_n hX dX2_withClockPairs_20 rfl rfl (r_get hX kf_X2_24 0 rfl rfl dX2_withClockPairs_21 (r_alen (v := iZ 3) hX 4 2 rfl rfl rfl dX2_withClockPairs_24 (r_icmp_geZ (tgt := 61) hX dX2_withClockPairs_25 (by decide) (by decide) (by decide) (fun q => absurd q (by decide)) (fun _ => ?_)))))))
  refine r_lload_n hX dX2_withClockPairs_28 rfl rfl (r_aload_n hX dX2_withClockPairs_29 rfl rfl (r_get hX kf_X2_24 0 rfl rfl dX2_withClockPairs_30 (r_iload hX dX2_withClockPairs_33 rfl (r_callS hX (z_X2_at_ok ad cs _ 4 _ 3 4 rfl (by decide) _ 0 (by first | with_reducible assumption | decide | omega) (by decide)) ks_X2_84 rfl rfl (Nat.le_of_ble_eq_true rfl) ⟨(Nat.le_of_ble_eq_true rfl), (Nat.le_of_ble_eq_true rfl)⟩ ⟨(Nat.le_of_ble_eq_true rfl), (Nat.le_of_ble_eq_true rfl)⟩ dX2_withClockPairs_35 (fun _ _ z => False.elim z) (fun v9 ws9 h1 => ?_)))))
  obtain ⟨rfl, hw9⟩ := h1
  subst ws9
  dsimp only [mPush]
  refine r_aload_n hX dX2_withClockPairs_38 rfl rfl (r_get hX kf_X2_24 0 rfl rfl dX2_withClockPairs_39 (r_iload hX dX2_withClockPairs_42 rfl (r_callS hX (z_X2_at_ok ad cs _ 4 _ 3 4 rfl (by decide) _ 0 (by first | with_reducible assumption | decide | omega) (by decide)) ks_X2_84 rfl rfl (Nat.le_of_ble_eq_true rfl) ⟨(Nat.le_of_ble_eq_true rfl), (Nat.le_of_ble_eq_true rfl)⟩ ⟨(Nat.le_of_ble_eq_true rfl), (Nat.le_of_ble_eq_true rfl)⟩ dX2_withClockPairs_44 (fun _ _ z => False.elim z) (fun v9 ws9 h2 => ?_))))
  obtain ⟨rfl, hw9⟩ := h2
  subst ws9
  dsimp only [mPush]
  refine r_callV hX (z_X1_orderTo _ _ (4 + 5) _ _ _ _ (zWd_loc (d := 4) (by decide)) (zrg hS (by decide)) (4 + 5) _ _ _ _ (zWd_loc (d := 4) (by decide)) (zrg hS (by decide))) kv_X2_179 (4 + 5) (zWd_loc (d := 4) (by decide)) rfl rfl rfl (Nat.le_of_ble_eq_true rfl) ⟨(Nat.le_of_ble_eq_true rfl), (Nat.le_of_ble_eq_true rfl)⟩ ⟨(Nat.le_of_ble_eq_true rfl), (Nat.le_of_ble_eq_true rfl)⟩ dX2_withClockPairs_47 (fun _ _ z => False.elim z) (fun v9 ws9 h3 => ?_)
  obtain ⟨rfl, hw9⟩ := h3
  subst ws9
  dsimp only [mPush]
  have hb3 := zTo_b (sse S 4) (sna S 4) (sow S 4) (sse S 4) (sna S 4) (sow S 4)
  refine r_i2lZ hX dX2_withClockPairs_50 (by first | with_reducible assumption | decide | omega) (r_callS hX (z_X2_addedG _ _ _ _) ks_X2_247 rfl rfl (Nat.le_of_ble_eq_true rfl) ⟨(Nat.le_of_ble_eq_true rfl), (Nat.le_of_ble_eq_true rfl)⟩ ⟨(Nat.le_of_ble_eq_true rfl), (Nat.le_of_ble_eq_true rfl)⟩ dX2_withClockPairs_51 (fun _ _ z => False.elim z) (fun v9 ws9 h4 => ?_))
  obtain ⟨g1, hg1, rfl, hw9⟩ := h4
  subst ws9
  dsimp only [mPush]
  refine r_lstore_n hX dX2_withClockPairs_54 rfl (by decide) rfl (r_iincZ (z := 1) (y := 1) hX dX2_withClockPairs_55 rfl (by decide) rfl rfl (r_goto (tgt := 18) hX dX2_withClockPairs_58 (by decide) (r_iload hX dX2_withClockPairs_18 rfl (r_aload_n hX dX2_withClockPairs_20 rfl rfl (r_get hX kf_X2_24 0 rfl rfl dX2_withClockPairs_21 (r_alen (v := iZ 3) hX 4 2 rfl rfl rfl dX2_withClockPairs_24 (r_icmp_geZ (tgt := 61) hX dX2_withClockPairs_25 (by decide) (by decide) (by decide) (fun q => absurd q (by decide)) (fun _ => ?_))))))))
  refine r_lload_n hX dX2_withClockPairs_28 rfl rfl (r_aload_n hX dX2_withClockPairs_29 rfl rfl (r_get hX kf_X2_24 0 rfl rfl dX2_withClockPairs_30 (r_iload hX dX2_withClockPairs_33 rfl (r_callS hX (z_X2_at_ok ad cs _ 4 _ 3 4 rfl (by decide) _ 0 (by first | with_reducible assumption | decide | omega) (by decide)) ks_X2_84 rfl rfl (Nat.le_of_ble_eq_true rfl) ⟨(Nat.le_of_ble_eq_true rfl), (Nat.le_of_ble_eq_true rfl)⟩ ⟨(Nat.le_of_ble_eq_true rfl), (Nat.le_of_ble_eq_true rfl)⟩ dX2_withClockPairs_35 (fun _ _ z => False.elim z) (fun v9 ws9 h5 => ?_)))))
  obtain ⟨rfl, hw9⟩ := h5
  subst ws9
  dsimp only [mPush]
  refine r_aload_n hX dX2_withClockPairs_38 rfl rfl (r_get hX kf_X2_24 0 rfl rfl dX2_withClockPairs_39 (r_iload hX dX2_withClockPairs_42 rfl (r_callS hX (z_X2_at_ok ad cs _ 4 _ 3 4 rfl (by decide) _ 1 (by first | with_reducible assumption | decide | omega) (by decide)) ks_X2_84 rfl rfl (Nat.le_of_ble_eq_true rfl) ⟨(Nat.le_of_ble_eq_true rfl), (Nat.le_of_ble_eq_true rfl)⟩ ⟨(Nat.le_of_ble_eq_true rfl), (Nat.le_of_ble_eq_true rfl)⟩ dX2_withClockPairs_44 (fun _ _ z => False.elim z) (fun v9 ws9 h6 => ?_))))
  obtain ⟨rfl, hw9⟩ := h6
  subst ws9
  dsimp only [mPush]
  refine r_callV hX (z_X1_orderTo _ _ (4 + 5) _ _ _ _ (zWd_loc (d := 4) (by decide)) (zrg hS (by decide)) (5 + 5) _ _ _ _ (zWd_loc (d := 5) (by decide)) (zrg hS (by decide))) kv_X2_179 (4 + 5) (zWd_loc (d := 4) (by decide)) rfl rfl rfl (Nat.le_of_ble_eq_true rfl) ⟨(Nat.le_of_ble_eq_true rfl), (Nat.le_of_ble_eq_true rfl)⟩ ⟨(Nat.le_of_ble_eq_true rfl), (Nat.le_of_ble_eq_true rfl)⟩ dX2_withClockPairs_47 (fun _ _ z => False.elim z) (fun v9 ws9 h7 => ?_)
  obtain ⟨rfl, hw9⟩ := h7
  subst ws9
  dsimp only [mPush]
  have hb7 := zTo_b (sse S 4) (sna S 4) (sow S 4) (sse S 5) (sna S 5) (sow S 5)
  refine r_i2lZ hX dX2_withClockPairs_50 (by first | with_reducible assumption | decide | omega) (r_callS hX (z_X2_addedG _ _ _ _) ks_X2_247 rfl rfl (Nat.le_of_ble_eq_true rfl) ⟨(Nat.le_of_ble_eq_true rfl), (Nat.le_of_ble_eq_true rfl)⟩ ⟨(Nat.le_of_ble_eq_true rfl), (Nat.le_of_ble_eq_true rfl)⟩ dX2_withClockPairs_51 (fun _ _ z => False.elim z) (fun v9 ws9 h8 => ?_))
  obtain ⟨g2, hg2, rfl, hw9⟩ := h8
  subst ws9
  dsimp only [mPush]
  refine r_lstore_n hX dX2_withClockPairs_54 rfl (by decide) rfl (r_iincZ (z := 1) (y := 2) hX dX2_withClockPairs_55 rfl (by decide) rfl rfl (r_goto (tgt := 18) hX dX2_withClockPairs_58 (by decide) (r_iload hX dX2_withClockPairs_18 rfl (r_aload_n hX dX2_withClockPairs_20 rfl rfl (r_get hX kf_X2_24 0 rfl rfl dX2_withClockPairs_21 (r_alen (v := iZ 3) hX 4 2 rfl rfl rfl dX2_withClockPairs_24 (r_icmp_geZ (tgt := 61) hX dX2_withClockPairs_25 (by decide) (by decide) (by decide) (fun q => absurd q (by decide)) (fun _ => ?_))))))))
  refine r_lload_n hX dX2_withClockPairs_28 rfl rfl (r_aload_n hX dX2_withClockPairs_29 rfl rfl (r_get hX kf_X2_24 0 rfl rfl dX2_withClockPairs_30 (r_iload hX dX2_withClockPairs_33 rfl (r_callS hX (z_X2_at_ok ad cs _ 4 _ 3 4 rfl (by decide) _ 0 (by first | with_reducible assumption | decide | omega) (by decide)) ks_X2_84 rfl rfl (Nat.le_of_ble_eq_true rfl) ⟨(Nat.le_of_ble_eq_true rfl), (Nat.le_of_ble_eq_true rfl)⟩ ⟨(Nat.le_of_ble_eq_true rfl), (Nat.le_of_ble_eq_true rfl)⟩ dX2_withClockPairs_35 (fun _ _ z => False.elim z) (fun v9 ws9 h9 => ?_)))))
  obtain ⟨rfl, hw9⟩ := h9
  subst ws9
  dsimp only [mPush]
  refine r_aload_n hX dX2_withClockPairs_38 rfl rfl (r_get hX kf_X2_24 0 rfl rfl dX2_withClockPairs_39 (r_iload hX dX2_withClockPairs_42 rfl (r_callS hX (z_X2_at_ok ad cs _ 4 _ 3 4 rfl (by decide) _ 2 (by first | with_reducible assumption | decide | omega) (by decide)) ks_X2_84 rfl rfl (Nat.le_of_ble_eq_true rfl) ⟨(Nat.le_of_ble_eq_true rfl), (Nat.le_of_ble_eq_true rfl)⟩ ⟨(Nat.le_of_ble_eq_true rfl), (Nat.le_of_ble_eq_true rfl)⟩ dX2_withClockPairs_44 (fun _ _ z => False.elim z) (fun v9 ws9 h10 => ?_))))
  obtain ⟨rfl, hw9⟩ := h10
  subst ws9
  dsimp only [mPush]
  refine r_callV hX (z_X1_orderTo _ _ (4 + 5) _ _ _ _ (zWd_loc (d := 4) (by decide)) (zrg hS (by decide)) (6 + 5) _ _ _ _ (zWd_loc (d := 6) (by decide)) (zrg hS (by decide))) kv_X2_179 (4 + 5) (zWd_loc (d := 4) (by decide)) rfl rfl rfl (Nat.le_of_ble_eq_true rfl) ⟨(Nat.le_of_ble_eq_true rfl), (Nat.le_of_ble_eq_true rfl)⟩ ⟨(Nat.le_of_ble_eq_true rfl), (Nat.le_of_ble_eq_true rfl)⟩ dX2_withClockPairs_47 (fun _ _ z => False.elim z) (fun v9 ws9 h11 => ?_)
  obtain ⟨rfl, hw9⟩ := h11
  subst ws9
  dsimp only [mPush]
  have hb11 := zTo_b (sse S 4) (sna S 4) (sow S 4) (sse S 6) (sna S 6) (sow S 6)
  refine r_i2lZ hX dX2_withClockPairs_50 (by first | with_reducible assumption | decide | omega) (r_callS hX (z_X2_addedG _ _ _ _) ks_X2_247 rfl rfl (Nat.le_of_ble_eq_true rfl) ⟨(Nat.le_of_ble_eq_true rfl), (Nat.le_of_ble_eq_true rfl)⟩ ⟨(Nat.le_of_ble_eq_true rfl), (Nat.le_of_ble_eq_true rfl)⟩ dX2_withClockPairs_51 (fun _ _ z => False.elim z) (fun v9 ws9 h12 => ?_))
  obtain ⟨g3, hg3, rfl, hw9⟩ := h12
  subst ws9
  dsimp only [mPush]
  refine r_lstore_n hX dX2_withClockPairs_54 rfl (by decide) rfl (r_lc5 (i0 := 0) (i1 := 1) (i2 := 3) (i3 := 5) (i4 := 6) rfl rfl rfl rfl rfl (r_iincZ (z := 1) (y := 3) hX dX2_withClockPairs_55 rfl (by decide) rfl rfl (r_goto (tgt := 18) hX dX2_withClockPairs_58 (by decide) (r_iload hX dX2_withClockPairs_18 rfl (r_aload_n hX dX2_withClockPairs_20 rfl rfl (r_get hX kf_X2_24 0 rfl rfl dX2_withClockPairs_21 (r_alen (v := iZ 3) hX 4 2 rfl rfl rfl dX2_withClockPairs_24 ?_)))))))
  refine r_icmp_geZ (tgt := 61) hX dX2_withClockPairs_25 (by decide) (by decide) (by decide) (fun _ => ?_) (fun q => absurd (by decide) q)
  refine r_iincZ (z := 1) (y := 1) hX dX2_withClockPairs_61 rfl (by decide) rfl rfl (r_goto (tgt := 5) hX dX2_withClockPairs_64 (by decide) (r_iload hX dX2_withClockPairs_5 rfl (r_aload_n hX dX2_withClockPairs_7 rfl rfl (r_get hX kf_X2_24 0 rfl rfl dX2_withClockPairs_8 (r_alen (v := iZ 3) hX 4 2 rfl rfl rfl dX2_withClockPairs_11 (r_icmp_geZ (tgt := 67) hX dX2_withClockPairs_12 (by decide) (by decide) (by decide) (fun q => absurd q (by decide)) (fun _ => ?_)))))))
  refine r_iconstZ hX dX2_withClockPairs_15 (r_istore hX dX2_withClockPairs_16 (by decide) rfl (r_iload hX dX2_withClockPairs_18 rfl (r_aload_n hX dX2_withClockPairs_20 rfl rfl (r_get hX kf_X2_24 0 rfl rfl dX2_withClockPairs_21 (r_alen (v := iZ 3) hX 4 2 rfl rfl rfl dX2_withClockPairs_24 (r_icmp_geZ (tgt := 61) hX dX2_withClockPairs_25 (by decide) (by decide) (by decide) (fun q => absurd q (by decide)) (fun _ => ?_)))))))
  refine r_lload_n hX dX2_withClockPairs_28 rfl rfl (r_aload_n hX dX2_withClockPairs_29 rfl rfl (r_get hX kf_X2_24 0 rfl rfl dX2_withClockPairs_30 (r_iload hX dX2_withClockPairs_33 rfl (r_callS hX (z_X2_at_ok ad cs _ 4 _ 3 4 rfl (by decide) _ 1 (by first | with_reducible assumption | decide | omega) (by decide)) ks_X2_84 rfl rfl (Nat.le_of_ble_eq_true rfl) ⟨(Nat.le_of_ble_eq_true rfl), (Nat.le_of_ble_eq_true rfl)⟩ ⟨(Nat.le_of_ble_eq_true rfl), (Nat.le_of_ble_eq_true rfl)⟩ dX2_withClockPairs_35 (fun _ _ z => False.elim z) (fun v9 ws9 h13 => ?_)))))
  obtain ⟨rfl, hw9⟩ := h13
  subst ws9
  dsimp only [mPush]
  refine r_aload_n hX dX2_withClockPairs_38 rfl rfl (r_get hX kf_X2_24 0 rfl rfl dX2_withClockPairs_39 (r_iload hX dX2_withClockPairs_42 rfl (r_callS hX (z_X2_at_ok ad cs _ 4 _ 3 4 rfl (by decide) _ 0 (by first | with_reducible assumption | decide | omega) (by decide)) ks_X2_84 rfl rfl (Nat.le_of_ble_eq_true rfl) ⟨(Nat.le_of_ble_eq_true rfl), (Nat.le_of_ble_eq_true rfl)⟩ ⟨(Nat.le_of_ble_eq_true rfl), (Nat.le_of_ble_eq_true rfl)⟩ dX2_withClockPairs_44 (fun _ _ z => False.elim z) (fun v9 ws9 h14 => ?_))))
  obtain ⟨rfl, hw9⟩ := h14
  subst ws9
  dsimp only [mPush]
  refine r_callV hX (z_X1_orderTo _ _ (5 + 5) _ _ _ _ (zWd_loc (d := 5) (by decide)) (zrg hS (by decide)) (4 + 5) _ _ _ _ (zWd_loc (d := 4) (by decide)) (zrg hS (by decide))) kv_X2_179 (5 + 5) (zWd_loc (d := 5) (by decide)) rfl rfl rfl (Nat.le_of_ble_eq_true rfl) ⟨(Nat.le_of_ble_eq_true rfl), (Nat.le_of_ble_eq_true rfl)⟩ ⟨(Nat.le_of_ble_eq_true rfl), (Nat.le_of_ble_eq_true rfl)⟩ dX2_withClockPairs_47 (fun _ _ z => False.elim z) (fun v9 ws9 h15 => ?_)
  obtain ⟨rfl, hw9⟩ := h15
  subst ws9
  dsimp only [mPush]
  have hb15 := zTo_b (sse S 5) (sna S 5) (sow S 5) (sse S 4) (sna S 4) (sow S 4)
  refine r_i2lZ hX dX2_withClockPairs_50 (by first | with_reducible assumption | decide | omega) (r_callS hX (z_X2_addedG _ _ _ _) ks_X2_247 rfl rfl (Nat.le_of_ble_eq_true rfl) ⟨(Nat.le_of_ble_eq_true rfl), (Nat.le_of_ble_eq_true rfl)⟩ ⟨(Nat.le_of_ble_eq_true rfl), (Nat.le_of_ble_eq_true rfl)⟩ dX2_withClockPairs_51 (fun _ _ z => False.elim z) (fun v9 ws9 h16 => ?_))
  obtain ⟨g4, hg4, rfl, hw9⟩ := h16
  subst ws9
  dsimp only [mPush]
  refine r_lstore_n hX dX2_withClockPairs_54 rfl (by decide) rfl (r_iincZ (z := 1) (y := 1) hX dX2_withClockPairs_55 rfl (by decide) rfl rfl (r_goto (tgt := 18) hX dX2_withClockPairs_58 (by decide) (r_iload hX dX2_withClockPairs_18 rfl (r_aload_n hX dX2_withClockPairs_20 rfl rfl (r_get hX kf_X2_24 0 rfl rfl dX2_withClockPairs_21 (r_alen (v := iZ 3) hX 4 2 rfl rfl rfl dX2_withClockPairs_24 (r_icmp_geZ (tgt := 61) hX dX2_withClockPairs_25 (by decide) (by decide) (by decide) (fun q => absurd q (by decide)) (fun _ => ?_))))))))
  refine r_lload_n hX dX2_withClockPairs_28 rfl rfl (r_aload_n hX dX2_withClockPairs_29 rfl rfl (r_get hX kf_X2_24 0 rfl rfl dX2_withClockPairs_30 (r_iload hX dX2_withClockPairs_33 rfl (r_callS hX (z_X2_at_ok ad cs _ 4 _ 3 4 rfl (by decide) _ 1 (by first | with_reducible assumption | decide | omega) (by decide)) ks_X2_84 rfl rfl (Nat.le_of_ble_eq_true rfl) ⟨(Nat.le_of_ble_eq_true rfl), (Nat.le_of_ble_eq_true rfl)⟩ ⟨(Nat.le_of_ble_eq_true rfl), (Nat.le_of_ble_eq_true rfl)⟩ dX2_withClockPairs_35 (fun _ _ z => False.elim z) (fun v9 ws9 h17 => ?_)))))
  obtain ⟨rfl, hw9⟩ := h17
  subst ws9
  dsimp only [mPush]
  refine r_aload_n hX dX2_withClockPairs_38 rfl rfl (r_get hX kf_X2_24 0 rfl rfl dX2_withClockPairs_39 (r_iload hX dX2_withClockPairs_42 rfl (r_callS hX (z_X2_at_ok ad cs _ 4 _ 3 4 rfl (by decide) _ 1 (by first | with_reducible assumption | decide | omega) (by decide)) ks_X2_84 rfl rfl (Nat.le_of_ble_eq_true rfl) ⟨(Nat.le_of_ble_eq_true rfl), (Nat.le_of_ble_eq_true rfl)⟩ ⟨(Nat.le_of_ble_eq_true rfl), (Nat.le_of_ble_eq_true rfl)⟩ dX2_withClockPairs_44 (fun _ _ z => False.elim z) (fun v9 ws9 h18 => ?_))))
  obtain ⟨rfl, hw9⟩ := h18
  subst ws9
  dsimp only [mPush]
  refine r_callV hX (z_X1_orderTo _ _ (5 + 5) _ _ _ _ (zWd_loc (d := 5) (by decide)) (zrg hS (by decide)) (5 + 5) _ _ _ _ (zWd_loc (d := 5) (by decide)) (zrg hS (by decide))) kv_X2_179 (5 + 5) (zWd_loc (d := 5) (by decide)) rfl rfl rfl (Nat.le_of_ble_eq_true rfl) ⟨(Nat.le_of_ble_eq_true rfl), (Nat.le_of_ble_eq_true rfl)⟩ ⟨(Nat.le_of_ble_eq_true rfl), (Nat.le_of_ble_eq_true rfl)⟩ dX2_withClockPairs_47 (fun _ _ z => False.elim z) (fun v9 ws9 h19 => ?_)
  obtain ⟨rfl, hw9⟩ := h19
  subst ws9
  dsimp only [mPush]
  have hb19 := zTo_b (sse S 5) (sna S 5) (sow S 5) (sse S 5) (sna S 5) (sow S 5)
  refine r_i2lZ hX dX2_withClockPairs_50 (by first | with_reducible assumption | decide | omega) (r_callS hX (z_X2_addedG _ _ _ _) ks_X2_247 rfl rfl (Nat.le_of_ble_eq_true rfl) ⟨(Nat.le_of_ble_eq_true rfl), (Nat.le_of_ble_eq_true rfl)⟩ ⟨(Nat.le_of_ble_eq_true rfl), (Nat.le_of_ble_eq_true rfl)⟩ dX2_withClockPairs_51 (fun _ _ z => False.elim z) (fun v9 ws9 h20 => ?_))
  obtain ⟨g5, hg5, rfl, hw9⟩ := h20
  subst ws9
  dsimp only [mPush]
  refine r_lstore_n hX dX2_withClockPairs_54 rfl (by decide) rfl (r_iincZ (z := 1) (y := 2) hX dX2_withClockPairs_55 rfl (by decide) rfl rfl (r_goto (tgt := 18) hX dX2_withClockPairs_58 (by decide) (r_iload hX dX2_withClockPairs_18 rfl (r_aload_n hX dX2_withClockPairs_20 rfl rfl (r_get hX kf_X2_24 0 rfl rfl dX2_withClockPairs_21 (r_alen (v := iZ 3) hX 4 2 rfl rfl rfl dX2_withClockPairs_24 (r_icmp_geZ (tgt := 61) hX dX2_withClockPairs_25 (by decide) (by decide) (by decide) (fun q => absurd q (by decide)) (fun _ => ?_))))))))
  refine r_lload_n hX dX2_withClockPairs_28 rfl rfl (r_aload_n hX dX2_withClockPairs_29 rfl rfl (r_get hX kf_X2_24 0 rfl rfl dX2_withClockPairs_30 (r_iload hX dX2_withClockPairs_33 rfl (r_callS hX (z_X2_at_ok ad cs _ 4 _ 3 4 rfl (by decide) _ 1 (by first | with_reducible assumption | decide | omega) (by decide)) ks_X2_84 rfl rfl (Nat.le_of_ble_eq_true rfl) ⟨(Nat.le_of_ble_eq_true rfl), (Nat.le_of_ble_eq_true rfl)⟩ ⟨(Nat.le_of_ble_eq_true rfl), (Nat.le_of_ble_eq_true rfl)⟩ dX2_withClockPairs_35 (fun _ _ z => False.elim z) (fun v9 ws9 h21 => ?_)))))
  obtain ⟨rfl, hw9⟩ := h21
  subst ws9
  dsimp only [mPush]
  refine r_aload_n hX dX2_withClockPairs_38 rfl rfl (r_get hX kf_X2_24 0 rfl rfl dX2_withClockPairs_39 (r_iload hX dX2_withClockPairs_42 rfl (r_callS hX (z_X2_at_ok ad cs _ 4 _ 3 4 rfl (by decide) _ 2 (by first | with_reducible assumption | decide | omega) (by decide)) ks_X2_84 rfl rfl (Nat.le_of_ble_eq_true rfl) ⟨(Nat.le_of_ble_eq_true rfl), (Nat.le_of_ble_eq_true rfl)⟩ ⟨(Nat.le_of_ble_eq_true rfl), (Nat.le_of_ble_eq_true rfl)⟩ dX2_withClockPairs_44 (fun _ _ z => False.elim z) (fun v9 ws9 h22 => ?_))))
  obtain ⟨rfl, hw9⟩ := h22
  subst ws9
  dsimp only [mPush]
  refine r_callV hX (z_X1_orderTo _ _ (5 + 5) _ _ _ _ (zWd_loc (d := 5) (by decide)) (zrg hS (by decide)) (6 + 5) _ _ _ _ (zWd_loc (d := 6) (by decide)) (zrg hS (by decide))) kv_X2_179 (5 + 5) (zWd_loc (d := 5) (by decide)) rfl rfl rfl (Nat.le_of_ble_eq_true rfl) ⟨(Nat.le_of_ble_eq_true rfl), (Nat.le_of_ble_eq_true rfl)⟩ ⟨(Nat.le_of_ble_eq_true rfl), (Nat.le_of_ble_eq_true rfl)⟩ dX2_withClockPairs_47 (fun _ _ z => False.elim z) (fun v9 ws9 h23 => ?_)
  obtain ⟨rfl, hw9⟩ := h23
  subst ws9
  dsimp only [mPush]
  have hb23 := zTo_b (sse S 5) (sna S 5) (sow S 5) (sse S 6) (sna S 6) (sow S 6)
  refine r_i2lZ hX dX2_withClockPairs_50 (by first | with_reducible assumption | decide | omega) (r_callS hX (z_X2_addedG _ _ _ _) ks_X2_247 rfl rfl (Nat.le_of_ble_eq_true rfl) ⟨(Nat.le_of_ble_eq_true rfl), (Nat.le_of_ble_eq_true rfl)⟩ ⟨(Nat.le_of_ble_eq_true rfl), (Nat.le_of_ble_eq_true rfl)⟩ dX2_withClockPairs_51 (fun _ _ z => False.elim z) (fun v9 ws9 h24 => ?_))
  obtain ⟨g6, hg6, rfl, hw9⟩ := h24
  subst ws9
  dsimp only [mPush]
  refine r_lstore_n hX dX2_withClockPairs_54 rfl (by decide) rfl (r_iincZ (z := 1) (y := 3) hX dX2_withClockPairs_55 rfl (by decide) rfl rfl (r_lc5 (i0 := 0) (i1 := 1) (i2 := 3) (i3 := 5) (i4 := 6) rfl rfl rfl rfl rfl (r_goto (tgt := 18) hX dX2_withClockPairs_58 (by decide) (r_iload hX dX2_withClockPairs_18 rfl (r_aload_n hX dX2_withClockPairs_20 rfl rfl (r_get hX kf_X2_24 0 rfl rfl dX2_withClockPairs_21 (r_alen (v := iZ 3) hX 4 2 rfl rfl rfl dX2_withClockPairs_24 ?_)))))))
  refine r_icmp_geZ (tgt := 61) hX dX2_withClockPairs_25 (by decide) (by decide) (by decide) (fun _ => ?_) (fun q => absurd (by decide) q)
  refine r_iincZ (z := 1) (y := 2) hX dX2_withClockPairs_61 rfl (by decide) rfl rfl (r_goto (tgt := 5) hX dX2_withClockPairs_64 (by decide) (r_iload hX dX2_withClockPairs_5 rfl (r_aload_n hX dX2_withClockPairs_7 rfl rfl (r_get hX kf_X2_24 0 rfl rfl dX2_withClockPairs_8 (r_alen (v := iZ 3) hX 4 2 rfl rfl rfl dX2_withClockPairs_11 (r_icmp_geZ (tgt := 67) hX dX2_withClockPairs_12 (by decide) (by decide) (by decide) (fun q => absurd q (by decide)) (fun _ => ?_)))))))
  refine r_iconstZ hX dX2_withClockPairs_15 (r_istore hX dX2_withClockPairs_16 (by decide) rfl (r_iload hX dX2_withClockPairs_18 rfl (r_aload_n hX dX2_withClockPairs_20 rfl rfl (r_get hX kf_X2_24 0 rfl rfl dX2_withClockPairs_21 (r_alen (v := iZ 3) hX 4 2 rfl rfl rfl dX2_withClockPairs_24 (r_icmp_geZ (tgt := 61) hX dX2_withClockPairs_25 (by decide) (by decide) (by decide) (fun q => absurd q (by decide)) (fun _ => ?_)))))))
  refine r_lload_n hX dX2_withClockPairs_28 rfl rfl (r_aload_n hX dX2_withClockPairs_29 rfl rfl (r_get hX kf_X2_24 0 rfl rfl dX2_withClockPairs_30 (r_iload hX dX2_withClockPairs_33 rfl (r_callS hX (z_X2_at_ok ad cs _ 4 _ 3 4 rfl (by decide) _ 2 (by first | with_reducible assumption | decide | omega) (by decide)) ks_X2_84 rfl rfl (Nat.le_of_ble_eq_true rfl) ⟨(Nat.le_of_ble_eq_true rfl), (Nat.le_of_ble_eq_true rfl)⟩ ⟨(Nat.le_of_ble_eq_true rfl), (Nat.le_of_ble_eq_true rfl)⟩ dX2_withClockPairs_35 (fun _ _ z => False.elim z) (fun v9 ws9 h25 => ?_)))))
  obtain ⟨rfl, hw9⟩ := h25
  subst ws9
  dsimp only [mPush]
  refine r_aload_n hX dX2_withClockPairs_38 rfl rfl (r_get hX kf_X2_24 0 rfl rfl dX2_withClockPairs_39 (r_iload hX dX2_withClockPairs_42 rfl (r_callS hX (z_X2_at_ok ad cs _ 4 _ 3 4 rfl (by decide) _ 0 (by first | with_reducible assumption | decide | omega) (by decide)) ks_X2_84 rfl rfl (Nat.le_of_ble_eq_true rfl) ⟨(Nat.le_of_ble_eq_true rfl), (Nat.le_of_ble_eq_true rfl)⟩ ⟨(Nat.le_of_ble_eq_true rfl), (Nat.le_of_ble_eq_true rfl)⟩ dX2_withClockPairs_44 (fun _ _ z => False.elim z) (fun v9 ws9 h26 => ?_))))
  obtain ⟨rfl, hw9⟩ := h26
  subst ws9
  dsimp only [mPush]
  refine r_callV hX (z_X1_orderTo _ _ (6 + 5) _ _ _ _ (zWd_loc (d := 6) (by decide)) (zrg hS (by decide)) (4 + 5) _ _ _ _ (zWd_loc (d := 4) (by decide)) (zrg hS (by decide))) kv_X2_179 (6 + 5) (zWd_loc (d := 6) (by decide)) rfl rfl rfl (Nat.le_of_ble_eq_true rfl) ⟨(Nat.le_of_ble_eq_true rfl), (Nat.le_of_ble_eq_true rfl)⟩ ⟨(Nat.le_of_ble_eq_true rfl), (Nat.le_of_ble_eq_true rfl)⟩ dX2_withClockPairs_47 (fun _ _ z => False.elim z) (fun v9 ws9 h27 => ?_)
  obtain ⟨rfl, hw9⟩ := h27
  subst ws9
  dsimp only [mPush]
  have hb27 := zTo_b (sse S 6) (sna S 6) (sow S 6) (sse S 4) (sna S 4) (sow S 4)
  refine r_i2lZ hX dX2_withClockPairs_50 (by first | with_reducible assumption | decide | omega) (r_callS hX (z_X2_addedG _ _ _ _) ks_X2_247 rfl rfl (Nat.le_of_ble_eq_true rfl) ⟨(Nat.le_of_ble_eq_true rfl), (Nat.le_of_ble_eq_true rfl)⟩ ⟨(Nat.le_of_ble_eq_true rfl), (Nat.le_of_ble_eq_true rfl)⟩ dX2_withClockPairs_51 (fun _ _ z => False.elim z) (fun v9 ws9 h28 => ?_))
  obtain ⟨g7, hg7, rfl, hw9⟩ := h28
  subst ws9
  dsimp only [mPush]
  refine r_lstore_n hX dX2_withClockPairs_54 rfl (by decide) rfl (r_iincZ (z := 1) (y := 1) hX dX2_withClockPairs_55 rfl (by decide) rfl rfl (r_goto (tgt := 18) hX dX2_withClockPairs_58 (by decide) (r_iload hX dX2_withClockPairs_18 rfl (r_aload_n hX dX2_withClockPairs_20 rfl rfl (r_get hX kf_X2_24 0 rfl rfl dX2_withClockPairs_21 (r_alen (v := iZ 3) hX 4 2 rfl rfl rfl dX2_withClockPairs_24 (r_icmp_geZ (tgt := 61) hX dX2_withClockPairs_25 (by decide) (by decide) (by decide) (fun q => absurd q (by decide)) (fun _ => ?_))))))))
  refine r_lload_n hX dX2_withClockPairs_28 rfl rfl (r_aload_n hX dX2_withClockPairs_29 rfl rfl (r_get hX kf_X2_24 0 rfl rfl dX2_withClockPairs_30 (r_iload hX dX2_withClockPairs_33 rfl (r_callS hX (z_X2_at_ok ad cs _ 4 _ 3 4 rfl (by decide) _ 2 (by first | with_reducible assumption | decide | omega) (by decide)) ks_X2_84 rfl rfl (Nat.le_of_ble_eq_true rfl) ⟨(Nat.le_of_ble_eq_true rfl), (Nat.le_of_ble_eq_true rfl)⟩ ⟨(Nat.le_of_ble_eq_true rfl), (Nat.le_of_ble_eq_true rfl)⟩ dX2_withClockPairs_35 (fun _ _ z => False.elim z) (fun v9 ws9 h29 => ?_)))))
  obtain ⟨rfl, hw9⟩ := h29
  subst ws9
  dsimp only [mPush]
  refine r_aload_n hX dX2_withClockPairs_38 rfl rfl (r_get hX kf_X2_24 0 rfl rfl dX2_withClockPairs_39 (r_iload hX dX2_withClockPairs_42 rfl (r_callS hX (z_X2_at_ok ad cs _ 4 _ 3 4 rfl (by decide) _ 1 (by first | with_reducible assumption | decide | omega) (by decide)) ks_X2_84 rfl rfl (Nat.le_of_ble_eq_true rfl) ⟨(Nat.le_of_ble_eq_true rfl), (Nat.le_of_ble_eq_true rfl)⟩ ⟨(Nat.le_of_ble_eq_true rfl), (Nat.le_of_ble_eq_true rfl)⟩ dX2_withClockPairs_44 (fun _ _ z => False.elim z) (fun v9 ws9 h30 => ?_))))
  obtain ⟨rfl, hw9⟩ := h30
  subst ws9
  dsimp only [mPush]
  refine r_callV hX (z_X1_orderTo _ _ (6 + 5) _ _ _ _ (zWd_loc (d := 6) (by decide)) (zrg hS (by decide)) (5 + 5) _ _ _ _ (zWd_loc (d := 5) (by decide)) (zrg hS (by decide))) kv_X2_179 (6 + 5) (zWd_loc (d := 6) (by decide)) rfl rfl rfl (Nat.le_of_ble_eq_true rfl) ⟨(Nat.le_of_ble_eq_true rfl), (Nat.le_of_ble_eq_true rfl)⟩ ⟨(Nat.le_of_ble_eq_true rfl), (Nat.le_of_ble_eq_true rfl)⟩ dX2_withClockPairs_47 (fun _ _ z => False.elim z) (fun v9 ws9 h31 => ?_)
  obtain ⟨rfl, hw9⟩ := h31
  subst ws9
  dsimp only [mPush]
  have hb31 := zTo_b (sse S 6) (sna S 6) (sow S 6) (sse S 5) (sna S 5) (sow S 5)
  refine r_i2lZ hX dX2_withClockPairs_50 (by first | with_reducible assumption | decide | omega) (r_callS hX (z_X2_addedG _ _ _ _) ks_X2_247 rfl rfl (Nat.le_of_ble_eq_true rfl) ⟨(Nat.le_of_ble_eq_true rfl), (Nat.le_of_ble_eq_true rfl)⟩ ⟨(Nat.le_of_ble_eq_true rfl), (Nat.le_of_ble_eq_true rfl)⟩ dX2_withClockPairs_51 (fun _ _ z => False.elim z) (fun v9 ws9 h32 => ?_))
  obtain ⟨g8, hg8, rfl, hw9⟩ := h32
  subst ws9
  dsimp only [mPush]
  refine r_lstore_n hX dX2_withClockPairs_54 rfl (by decide) rfl (r_iincZ (z := 1) (y := 2) hX dX2_withClockPairs_55 rfl (by decide) rfl rfl (r_goto (tgt := 18) hX dX2_withClockPairs_58 (by decide) (r_iload hX dX2_withClockPairs_18 rfl (r_aload_n hX dX2_withClockPairs_20 rfl rfl (r_get hX kf_X2_24 0 rfl rfl dX2_withClockPairs_21 (r_alen (v := iZ 3) hX 4 2 rfl rfl rfl dX2_withClockPairs_24 (r_icmp_geZ (tgt := 61) hX dX2_withClockPairs_25 (by decide) (by decide) (by decide) (fun q => absurd q (by decide)) (fun _ => ?_))))))))
  refine r_lload_n hX dX2_withClockPairs_28 rfl rfl (r_aload_n hX dX2_withClockPairs_29 rfl rfl (r_get hX kf_X2_24 0 rfl rfl dX2_withClockPairs_30 (r_iload hX dX2_withClockPairs_33 rfl (r_callS hX (z_X2_at_ok ad cs _ 4 _ 3 4 rfl (by decide) _ 2 (by first | with_reducible assumption | decide | omega) (by decide)) ks_X2_84 rfl rfl (Nat.le_of_ble_eq_true rfl) ⟨(Nat.le_of_ble_eq_true rfl), (Nat.le_of_ble_eq_true rfl)⟩ ⟨(Nat.le_of_ble_eq_true rfl), (Nat.le_of_ble_eq_true rfl)⟩ dX2_withClockPairs_35 (fun _ _ z => False.elim z) (fun v9 ws9 h33 => ?_)))))
  obtain ⟨rfl, hw9⟩ := h33
  subst ws9
  dsimp only [mPush]
  refine r_aload_n hX dX2_withClockPairs_38 rfl rfl (r_get hX kf_X2_24 0 rfl rfl dX2_withClockPairs_39 (r_iload hX dX2_withClockPairs_42 rfl (r_callS hX (z_X2_at_ok ad cs _ 4 _ 3 4 rfl (by decide) _ 2 (by first | with_reducible assumption | decide | omega) (by decide)) ks_X2_84 rfl rfl (Nat.le_of_ble_eq_true rfl) ⟨(Nat.le_of_ble_eq_true rfl), (Nat.le_of_ble_eq_true rfl)⟩ ⟨(Nat.le_of_ble_eq_true rfl), (Nat.le_of_ble_eq_true rfl)⟩ dX2_withClockPairs_44 (fun _ _ z => False.elim z) (fun v9 ws9 h34 => ?_))))
  obtain ⟨rfl, hw9⟩ := h34
  subst ws9
  dsimp only [mPush]
  refine r_callV hX (z_X1_orderTo _ _ (6 + 5) _ _ _ _ (zWd_loc (d := 6) (by decide)) (zrg hS (by decide)) (6 + 5) _ _ _ _ (zWd_loc (d := 6) (by decide)) (zrg hS (by decide))) kv_X2_179 (6 + 5) (zWd_loc (d := 6) (by decide)) rfl rfl rfl (Nat.le_of_ble_eq_true rfl) ⟨(Nat.le_of_ble_eq_true rfl), (Nat.le_of_ble_eq_true rfl)⟩ ⟨(Nat.le_of_ble_eq_true rfl), (Nat.le_of_ble_eq_true rfl)⟩ dX2_withClockPairs_47 (fun _ _ z => False.elim z) (fun v9 ws9 h35 => ?_)
  obtain ⟨rfl, hw9⟩ := h35
  subst ws9
  dsimp only [mPush]
  have hb35 := zTo_b (sse S 6) (sna S 6) (sow S 6) (sse S 6) (sna S 6) (sow S 6)
  refine r_i2lZ hX dX2_withClockPairs_50 (by first | with_reducible assumption | decide | omega) (r_callS hX (z_X2_addedG _ _ _ _) ks_X2_247 rfl rfl (Nat.le_of_ble_eq_true rfl) ⟨(Nat.le_of_ble_eq_true rfl), (Nat.le_of_ble_eq_true rfl)⟩ ⟨(Nat.le_of_ble_eq_true rfl), (Nat.le_of_ble_eq_true rfl)⟩ dX2_withClockPairs_51 (fun _ _ z => False.elim z) (fun v9 ws9 h36 => ?_))
  obtain ⟨g9, hg9, rfl, hw9⟩ := h36
  subst ws9
  dsimp only [mPush]
  refine r_lstore_n hX dX2_withClockPairs_54 rfl (by decide) rfl (r_iincZ (z := 1) (y := 3) hX dX2_withClockPairs_55 rfl (by decide) rfl rfl (r_goto (tgt := 18) hX dX2_withClockPairs_58 (by decide) (r_iload hX dX2_withClockPairs_18 rfl (r_aload_n hX dX2_withClockPairs_20 rfl rfl (r_get hX kf_X2_24 0 rfl rfl dX2_withClockPairs_21 (r_alen (v := iZ 3) hX 4 2 rfl rfl rfl dX2_withClockPairs_24 (r_icmp_geZ (tgt := 61) hX dX2_withClockPairs_25 (by decide) (by decide) (by decide) (fun _ => ?_) (fun q => absurd (by decide) q))))))))
  refine r_iincZ (z := 1) (y := 3) hX dX2_withClockPairs_61 rfl (by decide) rfl rfl (r_lc5 (i0 := 0) (i1 := 1) (i2 := 3) (i3 := 5) (i4 := 6) rfl rfl rfl rfl rfl (r_goto (tgt := 5) hX dX2_withClockPairs_64 (by decide) (r_iload hX dX2_withClockPairs_5 rfl (r_aload_n hX dX2_withClockPairs_7 rfl rfl (r_get hX kf_X2_24 0 rfl rfl dX2_withClockPairs_8 (r_alen (v := iZ 3) hX 4 2 rfl rfl rfl dX2_withClockPairs_11 (r_icmp_geZ (tgt := 67) hX dX2_withClockPairs_12 (by decide) (by decide) (by decide) (fun _ => ?_) (fun q => absurd (by decide) q))))))))
  refine r_lload_n hX dX2_withClockPairs_67 rfl rfl ?_
  exact r_lret hX hE dX2_withClockPairs_68 (Nat.le_of_ble_eq_true rfl) (Nat.le_of_ble_eq_true rfl) ⟨zl (((dg_step hg1).trans ((dg_step hg2).trans ((dg_step hg3).trans ((dg_step hg4).trans ((dg_step hg5).trans ((dg_step hg6).trans ((dg_step hg7).trans ((dg_step hg8).trans (dg_step (l := []) hg9)))))))))).symm, rfl⟩
set_option maxHeartbeats 4000000 in
set_option maxRecDepth 20000 in
theorem z_X2_withHouse (ad : Nat → Nat) (cs : ClassId × ClassId × ClassId) (S : mS) (T : mT2) (rest : va_W) (hS : sWF S) (s : Int)  : mCt (mTy cs) yX2_withHouse cX2_withHouse 6 (some .long) ⟨8, 4, 24, 125⟩ [.ref (ad 0), .long (lZ s)] (mWd ad cs (mKof S T) rest) (fun v ws' => v = some (.long (lZ (dHo S s))) ∧ ws' = (mWd ad cs (mKof S T) rest)) mNo := by
  refine mCt.of (by decide +kernel) (Nat.le_of_ble_eq_true rfl) (fun X hX hE => ?_)
  replace hX : mOK X RX2 cX2_withHouse 6 ⟨8, 4, 24, 125⟩ [] (mTy cs) := hX
  refine r_lload_n hX dX2_withHouse_0 rfl rfl (r_lstore_n hX dX2_withHouse_1 rfl (by decide) rfl (r_iconstZ hX dX2_withHouse_2 (r_istore hX dX2_withHouse_3 (by decide) rfl (r_iload hX dX2_withHouse_5 rfl (r_iconstZ hX dX2_withHouse_7 (r_icmp_geZ (tgt := 29) hX dX2_withHouse_8 (by decide) (by decide) (by decide) (fun q => absurd q (by decide)) (fun _ => ?_)))))))
  refine r_lload_n hX dX2_withHouse_11 rfl rfl (r_aload_n hX dX2_withHouse_12 rfl rfl (r_iload hX dX2_withHouse_13 rfl (r_callV hX (z_X2_house_ok ad cs S T rest hS _ (by first | with_reducible assumption | decide | omega)) kv_X2_380 0 rfl rfl rfl rfl (Nat.le_of_ble_eq_true rfl) ⟨(Nat.le_of_ble_eq_true rfl), (Nat.le_of_ble_eq_true rfl)⟩ ⟨(Nat.le_of_ble_eq_true rfl), (Nat.le_of_ble_eq_true rfl)⟩ dX2_withHouse_15 (fun _ _ z => False.elim z) (fun v9 ws9 h1 => ?_))))
  obtain ⟨rfl, hw9⟩ := h1
  subst ws9
  dsimp only [mPush]
  try clear hho
  have hho := iZ_rng (zHo S 0)
  refine r_i2lZ hX dX2_withHouse_18 (by first | with_reducible assumption | decide | omega) (r_callS hX (z_X2_addedG _ _ _ _) ks_X2_247 rfl rfl (Nat.le_of_ble_eq_true rfl) ⟨(Nat.le_of_ble_eq_true rfl), (Nat.le_of_ble_eq_true rfl)⟩ ⟨(Nat.le_of_ble_eq_true rfl), (Nat.le_of_ble_eq_true rfl)⟩ dX2_withHouse_19 (fun _ _ z => False.elim z) (fun v9 ws9 h2 => ?_))
  obtain ⟨g1, hg1, rfl, hw9⟩ := h2
  subst ws9
  dsimp only [mPush]
  refine r_lstore_n hX dX2_withHouse_22 rfl (by decide) rfl (r_iincZ (z := 1) (y := 1) hX dX2_withHouse_23 rfl (by decide) rfl rfl (r_goto (tgt := 5) hX dX2_withHouse_26 (by decide) (r_iload hX dX2_withHouse_5 rfl (r_iconstZ hX dX2_withHouse_7 (r_icmp_geZ (tgt := 29) hX dX2_withHouse_8 (by decide) (by decide) (by decide) (fun q => absurd q (by decide)) (fun _ => ?_))))))
  refine r_lload_n hX dX2_withHouse_11 rfl rfl (r_aload_n hX dX2_withHouse_12 rfl rfl (r_iload hX dX2_withHouse_13 rfl (r_callV hX (z_X2_house_ok ad cs S T rest hS _ (by first | with_reducible assumption | decide | omega)) kv_X2_380 0 rfl rfl rfl rfl (Nat.le_of_ble_eq_true rfl) ⟨(Nat.le_of_ble_eq_true rfl), (Nat.le_of_ble_eq_true rfl)⟩ ⟨(Nat.le_of_ble_eq_true rfl), (Nat.le_of_ble_eq_true rfl)⟩ dX2_withHouse_15 (fun _ _ z => False.elim z) (fun v9 ws9 h3 => ?_))))
  obtain ⟨rfl, hw9⟩ := h3
  subst ws9
  dsimp only [mPush]
  try clear hho
  have hho := iZ_rng (zHo S 1)
  refine r_i2lZ hX dX2_withHouse_18 (by first | with_reducible assumption | decide | omega) (r_callS hX (z_X2_addedG _ _ _ _) ks_X2_247 rfl rfl (Nat.le_of_ble_eq_true rfl) ⟨(Nat.le_of_ble_eq_true rfl), (Nat.le_of_ble_eq_true rfl)⟩ ⟨(Nat.le_of_ble_eq_true rfl), (Nat.le_of_ble_eq_true rfl)⟩ dX2_withHouse_19 (fun _ _ z => False.elim z) (fun v9 ws9 h4 => ?_))
  obtain ⟨g2, hg2, rfl, hw9⟩ := h4
  subst ws9
  dsimp only [mPush]
  refine r_lstore_n hX dX2_withHouse_22 rfl (by decide) rfl (r_iincZ (z := 1) (y := 2) hX dX2_withHouse_23 rfl (by decide) rfl rfl (r_goto (tgt := 5) hX dX2_withHouse_26 (by decide) (r_iload hX dX2_withHouse_5 rfl (r_iconstZ hX dX2_withHouse_7 (r_icmp_geZ (tgt := 29) hX dX2_withHouse_8 (by decide) (by decide) (by decide) (fun q => absurd q (by decide)) (fun _ => ?_))))))
  refine r_lload_n hX dX2_withHouse_11 rfl rfl (r_aload_n hX dX2_withHouse_12 rfl rfl (r_iload hX dX2_withHouse_13 rfl (r_callV hX (z_X2_house_ok ad cs S T rest hS _ (by first | with_reducible assumption | decide | omega)) kv_X2_380 0 rfl rfl rfl rfl (Nat.le_of_ble_eq_true rfl) ⟨(Nat.le_of_ble_eq_true rfl), (Nat.le_of_ble_eq_true rfl)⟩ ⟨(Nat.le_of_ble_eq_true rfl), (Nat.le_of_ble_eq_true rfl)⟩ dX2_withHouse_15 (fun _ _ z => False.elim z) (fun v9 ws9 h5 => ?_))))
  obtain ⟨rfl, hw9⟩ := h5
  subst ws9
  dsimp only [mPush]
  try clear hho
  have hho := iZ_rng (zHo S 2)
  refine r_i2lZ hX dX2_withHouse_18 (by first | with_reducible assumption | decide | omega) (r_callS hX (z_X2_addedG _ _ _ _) ks_X2_247 rfl rfl (Nat.le_of_ble_eq_true rfl) ⟨(Nat.le_of_ble_eq_true rfl), (Nat.le_of_ble_eq_true rfl)⟩ ⟨(Nat.le_of_ble_eq_true rfl), (Nat.le_of_ble_eq_true rfl)⟩ dX2_withHouse_19 (fun _ _ z => False.elim z) (fun v9 ws9 h6 => ?_))
  obtain ⟨g3, hg3, rfl, hw9⟩ := h6
  subst ws9
  dsimp only [mPush]
  refine r_lstore_n hX dX2_withHouse_22 rfl (by decide) rfl (r_iincZ (z := 1) (y := 3) hX dX2_withHouse_23 rfl (by decide) rfl rfl (r_lc4 (i0 := 0) (i1 := 1) (i2 := 3) (i3 := 5) rfl rfl rfl rfl (r_goto (tgt := 5) hX dX2_withHouse_26 (by decide) (r_iload hX dX2_withHouse_5 rfl (r_iconstZ hX dX2_withHouse_7 (r_icmp_geZ (tgt := 29) hX dX2_withHouse_8 (by decide) (by decide) (by decide) (fun q => absurd q (by decide)) (fun _ => ?_)))))))
  refine r_lload_n hX dX2_withHouse_11 rfl rfl (r_aload_n hX dX2_withHouse_12 rfl rfl (r_iload hX dX2_withHouse_13 rfl (r_callV hX (z_X2_house_ok ad cs S T rest hS _ (by first | with_reducible assumption | decide | omega)) kv_X2_380 0 rfl rfl rfl rfl (Nat.le_of_ble_eq_true rfl) ⟨(Nat.le_of_ble_eq_true rfl), (Nat.le_of_ble_eq_true rfl)⟩ ⟨(Nat.le_of_ble_eq_true rfl), (Nat.le_of_ble_eq_true rfl)⟩ dX2_withHouse_15 (fun _ _ z => False.elim z) (fun v9 ws9 h7 => ?_))))
  obtain ⟨rfl, hw9⟩ := h7
  subst ws9
  dsimp only [mPush]
  try clear hho
  have hho := iZ_rng (zHo S 3)
  refine r_i2lZ hX dX2_withHouse_18 (by first | with_reducible assumption | decide | omega) (r_callS hX (z_X2_addedG _ _ _ _) ks_X2_247 rfl rfl (Nat.le_of_ble_eq_true rfl) ⟨(Nat.le_of_ble_eq_true rfl), (Nat.le_of_ble_eq_true rfl)⟩ ⟨(Nat.le_of_ble_eq_true rfl), (Nat.le_of_ble_eq_true rfl)⟩ dX2_withHouse_19 (fun _ _ z => False.elim z) (fun v9 ws9 h8 => ?_))
  obtain ⟨g4, hg4, rfl, hw9⟩ := h8
  subst ws9
  dsimp only [mPush]
  refine r_lstore_n hX dX2_withHouse_22 rfl (by decide) rfl (r_iincZ (z := 1) (y := 4) hX dX2_withHouse_23 rfl (by decide) rfl rfl (r_goto (tgt := 5) hX dX2_withHouse_26 (by decide) (r_iload hX dX2_withHouse_5 rfl (r_iconstZ hX dX2_withHouse_7 (r_icmp_geZ (tgt := 29) hX dX2_withHouse_8 (by decide) (by decide) (by decide) (fun _ => ?_) (fun q => absurd (by decide) q))))))
  refine r_lload_n hX dX2_withHouse_29 rfl rfl ?_
  exact r_lret hX hE dX2_withHouse_30 (Nat.le_of_ble_eq_true rfl) (Nat.le_of_ble_eq_true rfl) ⟨zl (((dg_step hg1).trans ((dg_step hg2).trans ((dg_step hg3).trans (dg_step (l := []) hg4))))).symm, rfl⟩
set_option maxHeartbeats 4000000 in
set_option maxRecDepth 20000 in
theorem z_X2_digest (ad : Nat → Nat) (cs : ClassId × ClassId × ClassId) (S : mS) (T : mT2) (rest : va_W) (hS : sWF S)  : mCt (mTy cs) yX2_digest cX2_digest 3 (some .long) ⟨9, 12, 72, 150⟩ [.ref (ad 0)] (mWd ad cs (mKof S T) rest) (fun v ws' => v = some (.long (lZ (zDig S))) ∧ ∃ T' : mT2, ws' = mWd ad cs (mKof S T') rest) mNo := by
  refine mCt.of (by decide +kernel) (Nat.le_of_ble_eq_true rfl) (fun X hX hE => ?_)
  replace hX : mOK X RX2 cX2_digest 3 ⟨9, 12, 72, 150⟩ [] (mTy cs) := hX
  refine r_ldc2Z (z := 6199) hX kc_X2_221 (by decide +kernel) dX2_digest_0 (r_lstore_n hX dX2_digest_3 rfl (by decide) rfl (r_aload_n hX dX2_digest_4 rfl rfl (r_lload_n hX dX2_digest_5 rfl rfl (r_callV hX (z_X2_withOffsets ad cs S T rest hS _) kv_X2_223 0 rfl rfl rfl rfl (Nat.le_of_ble_eq_true rfl) ⟨(Nat.le_of_ble_eq_true rfl), (Nat.le_of_ble_eq_true rfl)⟩ ⟨(Nat.le_of_ble_eq_true rfl), (Nat.le_of_ble_eq_true rfl)⟩ dX2_digest_6 (fun _ _ z => False.elim z) (fun v9 ws9 h1 => ?_)))))
  obtain ⟨rfl, hw9⟩ := h1
  subst ws9
  dsimp only [mPush]
  refine r_lstore_n hX dX2_digest_9 rfl (by decide) rfl (r_aload_n hX dX2_digest_10 rfl rfl (r_lload_n hX dX2_digest_11 rfl rfl (r_callV hX (z_X2_withMoments ad cs S T rest hS _) kv_X2_226 0 rfl rfl rfl rfl (Nat.le_of_ble_eq_true rfl) ⟨(Nat.le_of_ble_eq_true rfl), (Nat.le_of_ble_eq_true rfl)⟩ ⟨(Nat.le_of_ble_eq_true rfl), (Nat.le_of_ble_eq_true rfl)⟩ dX2_digest_12 (fun _ _ z => False.elim z) (fun v9 ws9 h2 => ?_))))
  obtain ⟨rfl, hw9⟩ := h2
  subst ws9
  dsimp only [mPush]
  refine r_lstore_n hX dX2_digest_15 rfl (by decide) rfl (r_aload_n hX dX2_digest_16 rfl rfl (r_lload_n hX dX2_digest_17 rfl rfl (r_callV hX (z_X2_withDates ad cs S T rest hS _) kv_X2_229 0 rfl rfl rfl rfl (Nat.le_of_ble_eq_true rfl) ⟨(Nat.le_of_ble_eq_true rfl), (Nat.le_of_ble_eq_true rfl)⟩ ⟨(Nat.le_of_ble_eq_true rfl), (Nat.le_of_ble_eq_true rfl)⟩ dX2_digest_18 (fun _ _ z => False.elim z) (fun v9 ws9 h3 => ?_))))
  obtain ⟨rfl, hw9⟩ := h3
  subst ws9
  dsimp only [mPush]
  refine r_lstore_n hX dX2_digest_21 rfl (by decide) rfl (r_aload_n hX dX2_digest_22 rfl rfl (r_lload_n hX dX2_digest_23 rfl rfl (r_callV hX (z_X2_withClocks ad cs S T rest hS _) kv_X2_232 0 rfl rfl rfl rfl (Nat.le_of_ble_eq_true rfl) ⟨(Nat.le_of_ble_eq_true rfl), (Nat.le_of_ble_eq_true rfl)⟩ ⟨(Nat.le_of_ble_eq_true rfl), (Nat.le_of_ble_eq_true rfl)⟩ dX2_digest_24 (fun _ _ z => False.elim z) (fun v9 ws9 h4 => ?_))))
  obtain ⟨rfl, hw9⟩ := h4
  subst ws9
  dsimp only [mPush]
  refine r_lstore_n hX dX2_digest_27 rfl (by decide) rfl (r_aload_n hX dX2_digest_28 rfl rfl (r_lload_n hX dX2_digest_29 rfl rfl (r_callV hX (z_X2_withDatePairs ad cs S T rest hS _) kv_X2_235 0 rfl rfl rfl rfl (Nat.le_of_ble_eq_true rfl) ⟨(Nat.le_of_ble_eq_true rfl), (Nat.le_of_ble_eq_true rfl)⟩ ⟨(Nat.le_of_ble_eq_true rfl), (Nat.le_of_ble_eq_true rfl)⟩ dX2_digest_30 (fun _ _ z => False.elim z) (fun v9 ws9 h5 => ?_))))
  obtain ⟨rfl, hw9⟩ := h5
  subst ws9
  dsimp only [mPush]
  refine r_lstore_n hX dX2_digest_33 rfl (by decide) rfl (r_lc2 (i0 := 0) (i1 := 1) rfl rfl (r_aload_n hX dX2_digest_34 rfl rfl (r_lload_n hX dX2_digest_35 rfl rfl (r_callV hX (z_X2_withClockPairs ad cs S T rest hS _) kv_X2_238 0 rfl rfl rfl rfl (Nat.le_of_ble_eq_true rfl) ⟨(Nat.le_of_ble_eq_true rfl), (Nat.le_of_ble_eq_true rfl)⟩ ⟨(Nat.le_of_ble_eq_true rfl), (Nat.le_of_ble_eq_true rfl)⟩ dX2_digest_36 (fun _ _ z => False.elim z) (fun v9 ws9 h6 => ?_)))))
  obtain ⟨rfl, hw9⟩ := h6
  subst ws9
  dsimp only [mPush]
  refine r_lstore_n hX dX2_digest_39 rfl (by decide) rfl (r_aload_n hX dX2_digest_40 rfl rfl (r_lload_n hX dX2_digest_41 rfl rfl (r_callV hX (z_X2_withHouse ad cs S T rest hS _) kv_X2_241 0 rfl rfl rfl rfl (Nat.le_of_ble_eq_true rfl) ⟨(Nat.le_of_ble_eq_true rfl), (Nat.le_of_ble_eq_true rfl)⟩ ⟨(Nat.le_of_ble_eq_true rfl), (Nat.le_of_ble_eq_true rfl)⟩ dX2_digest_42 (fun _ _ z => False.elim z) (fun v9 ws9 h7 => ?_))))
  obtain ⟨rfl, hw9⟩ := h7
  subst ws9
  dsimp only [mPush]
  refine r_lstore_n hX dX2_digest_45 rfl (by decide) rfl (r_lload_n hX dX2_digest_46 rfl rfl (r_aload_n hX dX2_digest_47 rfl rfl (r_callV hX (z_X2_isSound ad cs S T rest hS) kv_X2_244 0 rfl rfl rfl rfl (Nat.le_of_ble_eq_true rfl) ⟨(Nat.le_of_ble_eq_true rfl), (Nat.le_of_ble_eq_true rfl)⟩ ⟨(Nat.le_of_ble_eq_true rfl), (Nat.le_of_ble_eq_true rfl)⟩ dX2_digest_48 (fun _ _ z => False.elim z) (fun v9 ws9 h8 => ?_))))
  obtain ⟨rfl, T9, hw9⟩ := h8
  subst ws9
  dsimp only [mPush]
  refine r_if_eqB (tgt := 58) hX dX2_digest_51 (by decide) (fun q => absurd q (by decide)) (fun _ => ?_)
  refine r_lconstZ (v := 1) hX dX2_digest_54 rfl (r_goto (tgt := 59) hX dX2_digest_55 (by decide) (r_callS hX (z_X2_addedG _ _ _ _) ks_X2_247 rfl rfl (Nat.le_of_ble_eq_true rfl) ⟨(Nat.le_of_ble_eq_true rfl), (Nat.le_of_ble_eq_true rfl)⟩ ⟨(Nat.le_of_ble_eq_true rfl), (Nat.le_of_ble_eq_true rfl)⟩ dX2_digest_59 (fun _ _ z => False.elim z) (fun v9 ws9 h10 => ?_)))
  obtain ⟨g1, hg1, rfl, hw9⟩ := h10
  subst ws9
  dsimp only [mPush]
  exact r_lret hX hE dX2_digest_62 (Nat.le_of_ble_eq_true rfl) (Nat.le_of_ble_eq_true rfl) ⟨zl (Eq.symm (show zDig S = g1 from hg1)), _, rfl⟩
end
-- 70 zrcal
section
/-! The reference, exact (rows by a program of this repository). -/
theorem MO_u {y m : Nat} {r : Int} (h1 : 1 ≤ m) (h2 : m ≤ 12) (h3 : DB y m ≤ r) (h4 : r < DB y (m + 1)) : MOy y r = m := by
  have hd : ∀ m : Nat, 1 ≤ m → DB y (m + 1) = DB y m + (dm y m : Int) := fun m h => DB_s h
  have e1 := DB_1 y
  have d1 := hd 1 (by omega)
  have d2 := hd 2 (by omega)
  have d3 := hd 3 (by omega)
  have d4 := hd 4 (by omega)
  have d5 := hd 5 (by omega)
  have d6 := hd 6 (by omega)
  have d7 := hd 7 (by omega)
  have d8 := hd 8 (by omega)
  have d9 := hd 9 (by omega)
  have d10 := hd 10 (by omega)
  have d11 := hd 11 (by omega)
  have d12 := hd 12 (by omega)
  simp only [Nat.reduceAdd] at d1 d2 d3 d4 d5 d6 d7 d8 d9 d10 d11 d12
  have b1 := dm_b y 1
  have b2 := dm_b y 2
  have b3 := dm_b y 3
  have b4 := dm_b y 4
  have b5 := dm_b y 5
  have b6 := dm_b y 6
  have b7 := dm_b y 7
  have b8 := dm_b y 8
  have b9 := dm_b y 9
  have b10 := dm_b y 10
  have b11 := dm_b y 11
  have b12 := dm_b y 12
  rcases (show m = 1 ∨ m = 2 ∨ m = 3 ∨ m = 4 ∨ m = 5 ∨ m = 6 ∨ m = 7 ∨ m = 8 ∨ m = 9 ∨ m = 10 ∨ m = 11 ∨ m = 12 by omega) with rfl | rfl | rfl | rfl | rfl | rfl | rfl | rfl | rfl | rfl | rfl | rfl
  · simp only [Nat.reduceAdd] at h4
    unfold MOy
    rw [if_pos (by omega)]
  · simp only [Nat.reduceAdd] at h4
    unfold MOy
    rw [if_neg (by omega)]
    rw [if_pos (by omega)]
  · simp only [Nat.reduceAdd] at h4
    unfold MOy
    rw [if_neg (by omega)]
    rw [if_neg (by omega)]
    rw [if_pos (by omega)]
  · simp only [Nat.reduceAdd] at h4
    unfold MOy
    rw [if_neg (by omega)]
    rw [if_neg (by omega)]
    rw [if_neg (by omega)]
    rw [if_pos (by omega)]
  · simp only [Nat.reduceAdd] at h4
    unfold MOy
    rw [if_neg (by omega)]
    rw [if_neg (by omega)]
    rw [if_neg (by omega)]
    rw [if_neg (by omega)]
    rw [if_pos (by omega)]
  · simp only [Nat.reduceAdd] at h4
    unfold MOy
    rw [if_neg (by omega)]
    rw [if_neg (by omega)]
    rw [if_neg (by omega)]
    rw [if_neg (by omega)]
    rw [if_neg (by omega)]
    rw [if_pos (by omega)]
  · simp only [Nat.reduceAdd] at h4
    unfold MOy
    rw [if_neg (by omega)]
    rw [if_neg (by omega)]
    rw [if_neg (by omega)]
    rw [if_neg (by omega)]
    rw [if_neg (by omega)]
    rw [if_neg (by omega)]
    rw [if_pos (by omega)]
  · simp only [Nat.reduceAdd] at h4
    unfold MOy
    rw [if_neg (by omega)]
    rw [if_neg (by omega)]
    rw [if_neg (by omega)]
    rw [if_neg (by omega)]
    rw [if_neg (by omega)]
    rw [if_neg (by omega)]
    rw [if_neg (by omega)]
    rw [if_pos (by omega)]
  · simp only [Nat.reduceAdd] at h4
    unfold MOy
    rw [if_neg (by omega)]
    rw [if_neg (by omega)]
    rw [if_neg (by omega)]
    rw [if_neg (by omega)]
    rw [if_neg (by omega)]
    rw [if_neg (by omega)]
    rw [if_neg (by omega)]
    rw [if_neg (by omega)]
    rw [if_pos (by omega)]
  · simp only [Nat.reduceAdd] at h4
    unfold MOy
    rw [if_neg (by omega)]
    rw [if_neg (by omega)]
    rw [if_neg (by omega)]
    rw [if_neg (by omega)]
    rw [if_neg (by omega)]
    rw [if_neg (by omega)]
    rw [if_neg (by omega)]
    rw [if_neg (by omega)]
    rw [if_neg (by omega)]
    rw [if_pos (by omega)]
  · simp only [Nat.reduceAdd] at h4
    unfold MOy
    rw [if_neg (by omega)]
    rw [if_neg (by omega)]
    rw [if_neg (by omega)]
    rw [if_neg (by omega)]
    rw [if_neg (by omega)]
    rw [if_neg (by omega)]
    rw [if_neg (by omega)]
    rw [if_neg (by omega)]
    rw [if_neg (by omega)]
    rw [if_neg (by omega)]
    rw [if_pos (by omega)]
  · simp only [Nat.reduceAdd] at h4
    unfold MOy
    rw [if_neg (by omega)]
    rw [if_neg (by omega)]
    rw [if_neg (by omega)]
    rw [if_neg (by omega)]
    rw [if_neg (by omega)]
    rw [if_neg (by omega)]
    rw [if_neg (by omega)]
    rw [if_neg (by omega)]
    rw [if_neg (by omega)]
    rw [if_neg (by omega)]
    rw [if_neg (by omega)]
theorem z_X4_firstOf (tys : List (ClassId × FieldType)) (ws : va_W) (Y : Int) (y : Nat) (hY : Y = (y : Int)) (hy : 1900 ≤ y ∧ y < 2100) : mCt tys yX4_firstOf cX4_firstOf 3 (some .int) ⟨2, 0, 0, 48⟩ [.int (iZ Y)] ws (fun v ws' => v = some (.int (iZ (FO y))) ∧ ws' = ws) mNo := by
  rw [hY, ← iZ_nI]
  exact c_X4_firstOf _ _ y hy.2 hy.1
theorem z_X4_daysOf_ (tys : List (ClassId × FieldType)) (ws : va_W) (Y : Int) (y : Nat) (hY : Y = (y : Int)) (hy : y < 2100) : mCt tys yX4_daysOf_ cX4_daysOf_ 1 (some .int) ⟨1, 0, 0, 20⟩ [.int (iZ Y)] ws (fun v ws' => v = some (.int (iZ (yl y : Nat))) ∧ ws' = ws) mNo := by
  rw [hY, ← iZ_nI, ← iZ_nI]
  exact c_X4_daysOf_ _ _ y hy
theorem z_X4_daysOf (tys : List (ClassId × FieldType)) (ws : va_W) (Y : Int) (y : Nat) (hY : Y = (y : Int)) (hy : y < 2100) (M : Int) (m : Nat) (hM : M = (m : Int)) (hm : m < 14) : mCt tys yX4_daysOf cX4_daysOf 2 (some .int) ⟨1, 0, 0, 20⟩ [.int (iZ Y), .int (iZ M)] ws (fun v ws' => v = some (.int (iZ (dm y m : Nat))) ∧ ws' = ws) mNo := by
  rw [hY, hM, ← iZ_nI, ← iZ_nI, ← iZ_nI]
  exact c_X4_daysOf _ _ y hy m hm
theorem z_X4_dayOf (tys : List (ClassId × FieldType)) (ws : va_W) (Y : Int) (y : Nat) (hY : Y = (y : Int)) (hy : 1900 ≤ y ∧ y < 2100) (M : Int) (m : Nat) (hM : M = (m : Int)) (hm : 1 ≤ m ∧ m ≤ 12) (E : Int) (hE : 0 ≤ E ∧ E < 1000) : mCt tys yX4_dayOf cX4_dayOf 5 (some .int) ⟨3, 0, 0, 70⟩ [.int (iZ Y), .int (iZ M), .int (iZ E)] ws (fun v ws' => v = some (.int (iZ (FO y + DB y m + E - 1))) ∧ ws' = ws) mNo := by
  have e : E = ((E.toNat : Nat) : Int) := by omega
  rw [e, hY, hM, ← iZ_nI, ← iZ_nI, ← iZ_nI]
  exact c_X4_dayOf _ _ y hy.2 hy.1 m hm.2 hm.1 E.toNat (by omega)
set_option maxHeartbeats 4000000 in
set_option maxRecDepth 20000 in
theorem c_X4_parts_f (cs : ClassId × ClassId × ClassId) (ws : va_W) (d : Int) (hd1 : -21915 ≤ d) (hd2 : d ≤ 22279) : mCt (mTy cs) yX4_parts cX4_parts 5 (some (.array .int)) ⟨4, 1, 4, 95⟩ [.int (iZ d)] ws (fun v ws' => ∃ (y m dd : Nat) (f : Nat → Int32) (q : Nat), 1910 ≤ y ∧ y ≤ 2030 ∧ 1 ≤ m ∧ m ≤ 12 ∧ 1 ≤ dd ∧ dd ≤ dm y m ∧ FO y + DB y m + (dd : Int) - 1 = d ∧ f 0 = nI y ∧ f 1 = nI m ∧ f 2 = nI dd ∧ f 3 = iZ (d - FO y + 1) ∧ v = some (.ref q) ∧ ws' = ws ++ [(q, .inl (cs.1, 4, .inl f))]) mNo := by
  refine mCt.of (by decide +kernel) (Nat.le_of_ble_eq_true rfl) (fun X hX hE => ?_)
  replace hX : mOK X RX4 cX4_parts 5 ⟨4, 1, 4, 95⟩ [] (mTy cs) := hX
  refine r_iload_n hX dX4_parts_0 rfl rfl (r_callS hX (c_X4_yearOf _ _ d hd1 hd2) ks_X4_58 rfl rfl (Nat.le_of_ble_eq_true rfl) ⟨(Nat.le_of_ble_eq_true rfl), (Nat.le_of_ble_eq_true rfl)⟩ ⟨(Nat.le_of_ble_eq_true rfl), (Nat.le_of_ble_eq_true rfl)⟩ dX4_parts_1 (fun _ _ z => False.elim z) (fun v9 ws9 h => ?_))
  obtain ⟨y, hy1, hy2, hF1, hF2, rfl, hw9⟩ := h
  subst ws9
  dsimp only [mPush]
  have hs := FO_s (y := y) (by omega)
  have hb := FO_b (y := y) (by omega)
  have hyl := yl_b y
  refine r_istore_n hX dX4_parts_4 rfl (by decide) rfl (r_iload_n hX dX4_parts_5 rfl rfl (r_iload_n hX dX4_parts_6 rfl rfl (r_callS hX (c_X4_firstOf _ _ y (by first | with_reducible assumption | decide | omega) (by first | with_reducible assumption | decide | omega)) ks_X4_52 rfl rfl (Nat.le_of_ble_eq_true rfl) ⟨(Nat.le_of_ble_eq_true rfl), (Nat.le_of_ble_eq_true rfl)⟩ ⟨(Nat.le_of_ble_eq_true rfl), (Nat.le_of_ble_eq_true rfl)⟩ dX4_parts_7 (fun _ _ z => False.elim z) (fun v9 ws9 h => ?_))))
  obtain ⟨rfl, hw9⟩ := h
  subst ws9
  dsimp only [mPush]
  refine r_isub hX dX4_parts_10 (r_istore_n hX dX4_parts_11 rfl (by decide) rfl (r_iload_n hX dX4_parts_12 rfl rfl (r_iconst (v := 1) hX dX4_parts_13 (by decide) (r_iadd hX dX4_parts_14 (r_istore_n hX dX4_parts_15 rfl (by decide) rfl (r_iconst (v := 1) hX dX4_parts_16 (by decide) (r_istore hX dX4_parts_17 (by decide) rfl ?_)))))))
  have L19 : ∀ (N m : Nat), 13 - m < N → 1 ≤ m → m ≤ 12 → 0 ≤ d - FO y - DB y m → mV X 19 [(1, some (.int (nI y))), (2, some (.int (iZ (d - FO y - DB y m)))), (3, some (.int (iZ (d - FO y + 1)))), (4, some (.int (nI m)))] [] ws 0 0 := by
    intro N
    induction N with
    | zero => intro m h; omega
    | succ N ih =>
      intro m h1 h2 h3 h4
      have hdm := dm_b y m
      have hDB := DB_b (y := y) (m := m) (by omega)
      have hDt := DB_t (y := y) h2 h3
      refine r_iload_n hX dX4_parts_19 rfl rfl (r_iload_n hX dX4_parts_20 rfl rfl (r_iload hX dX4_parts_21 rfl (r_callS hX (c_X4_daysOf _ _ y (by first | with_reducible assumption | decide | omega) m (by first | with_reducible assumption | decide | omega)) ks_X4_55 rfl rfl (Nat.le_of_ble_eq_true rfl) ⟨(Nat.le_of_ble_eq_true rfl), (Nat.le_of_ble_eq_true rfl)⟩ ⟨(Nat.le_of_ble_eq_true rfl), (Nat.le_of_ble_eq_true rfl)⟩ dX4_parts_23 (fun _ _ z => False.elim z) (fun v9 ws9 h => ?_))))
      obtain ⟨rfl, hw9⟩ := h
      subst ws9
      dsimp only [mPush]
      rw [iZ_nI (dm y m)]
      refine r_icmp_lt (tgt := 44) hX dX4_parts_26 (by decide) (fun c => ?_) (fun c => ?_)
      · have hlt := (iZ_lt (a := d - FO y - DB y m) (b := (dm y m : Int)) (by omega) (by omega) (by omega) (by omega)).mp c
        obtain ⟨w, hw⟩ : ∃ w : Nat, d - FO y - DB y m = (w : Int) := ⟨(d - FO y - DB y m).toNat, by omega⟩
        refine r_iconst (v := nI 4) hX dX4_parts_44 (by decide) (r_newai (N := 4) hX 0 rfl (by decide) dX4_parts_45 (Nat.le_of_ble_eq_true rfl) (Nat.le_of_ble_eq_true rfl) (fun q => ?_))
        have t0 : (nI 0).toNatClampNeg = 0 := by decide
        have t1 : (nI 1).toNatClampNeg = 1 := by decide
        have t2 : (nI 2).toNatClampNeg = 2 := by decide
        have t3 : (nI 3).toNatClampNeg = 3 := by decide
        refine r_dup hX dX4_parts_47 rfl (r_iconst (v := nI 0) hX dX4_parts_48 (by decide) (r_iload_n hX dX4_parts_49 rfl rfl (r_iast hX ws.length 0 mLast rfl (vp_in_nI (by decide) (by decide)) dX4_parts_50 ?_)))
        rw [mSetLast]
        refine r_dup hX dX4_parts_51 rfl (r_iconst (v := nI 1) hX dX4_parts_52 (by decide) (r_iload hX dX4_parts_53 rfl (r_iast hX ws.length 0 mLast rfl (vp_in_nI (by decide) (by decide)) dX4_parts_55 ?_)))
        rw [mSetLast]
        refine r_dup hX dX4_parts_56 rfl (r_iconst (v := nI 2) hX dX4_parts_57 (by decide) (r_iload_n hX dX4_parts_58 rfl rfl (r_iconst (v := 1) hX dX4_parts_59 (by decide) (r_iadd hX dX4_parts_60 (r_iast hX ws.length 0 mLast rfl (vp_in_nI (by decide) (by decide)) dX4_parts_61 ?_)))))
        rw [mSetLast]
        refine r_dup hX dX4_parts_62 rfl (r_iconst (v := nI 3) hX dX4_parts_63 (by decide) (r_iload_n hX dX4_parts_64 rfl rfl (r_iast hX ws.length 0 mLast rfl (vp_in_nI (by decide) (by decide)) dX4_parts_65 ?_)))
        rw [mSetLast]
        refine r_aret hX hE dX4_parts_66 (Or.inr ⟨_, rfl⟩) (Or.inr ⟨_, rfl⟩) (Nat.le_of_ble_eq_true rfl) (Nat.le_of_ble_eq_true rfl) ⟨y, m, w + 1, _, q, hy1, hy2, h2, h3, by omega, by omega, by omega, ?_, ?_, ?_, ?_, rfl, rfl⟩
        · simp [upd, t0, t1, t2, t3]
        · simp [upd, t0, t1, t2, t3]
        · simp only [upd, t0, t1, t2, t3]
          rw [hw, ← nI_1, iZ_nI w]
          rfl
        · simp [upd, t0, t1, t2, t3]
      · have hge : (dm y m : Int) ≤ d - FO y - DB y m := by
          by_cases q : d - FO y - DB y m < (dm y m : Int)
          · exact absurd ((iZ_lt (a := d - FO y - DB y m) (b := (dm y m : Int)) (by omega) (by omega) (by omega) (by omega)).mpr q) c
          · omega
        have hm12 : m < 12 := by
          rcases Nat.lt_or_ge m 12 with q | q
          · exact q
          · have : m = 12 := by omega
            subst this
            have h5 := DB_12 y
            have h6 := dm_12 y
            omega
        have hsm := DB_s (y := y) h2
        refine r_iload_n hX dX4_parts_29 rfl rfl (r_iload_n hX dX4_parts_30 rfl rfl (r_iload hX dX4_parts_31 rfl (r_callS hX (c_X4_daysOf _ _ y (by first | with_reducible assumption | decide | omega) m (by first | with_reducible assumption | decide | omega)) ks_X4_55 rfl rfl (Nat.le_of_ble_eq_true rfl) ⟨(Nat.le_of_ble_eq_true rfl), (Nat.le_of_ble_eq_true rfl)⟩ ⟨(Nat.le_of_ble_eq_true rfl), (Nat.le_of_ble_eq_true rfl)⟩ dX4_parts_33 (fun _ _ z => False.elim z) (fun v9 ws9 h => ?_))))
        obtain ⟨rfl, hw9⟩ := h
        subst ws9
        dsimp only [mPush]
        refine r_isub hX dX4_parts_36 (r_istore_n hX dX4_parts_37 rfl (by decide) rfl (r_iinc hX dX4_parts_38 rfl (by decide) rfl (r_goto (tgt := 19) hX dX4_parts_41 (by decide) (r_loc (k' := 0) (n' := 0) ?_ (by decide) (by decide) (ih (m + 1) (by first | with_reducible assumption | decide | omega) (by first | with_reducible assumption | decide | omega) (by first | with_reducible assumption | decide | omega) (by first | with_reducible assumption | decide | omega))))))
        refine ⟨rfl, ?_, rfl, nI_inc' _, trivial⟩
        rw [iZ_nI (dm y m), iZ_sub, hsm]
        exact congrArg (fun z : Int => some (Value.int (iZ z))) (by omega)
  refine r_loc (k' := 0) (n' := 0) ?_ (by decide) (by decide) (L19 13 1 (by decide) (by decide) (by decide) (by rw [DB_1]; omega))
  refine ⟨rfl, ?_, ?_, rfl, trivial⟩
  · rw [DB_1, iZ_sub]
    exact congrArg (fun z : Int => some (Value.int (iZ z))) (by omega)
  · rw [iZ_sub, show (1 : Int32) = iZ 1 from rfl, iZ_add]
    rfl
theorem z_X4_parts (cs : ClassId × ClassId × ClassId) (ws : va_W) (d : Int) (hd : -21915 ≤ d ∧ d ≤ 22279) : mCt (mTy cs) yX4_parts cX4_parts 5 (some (.array .int)) ⟨4, 1, 4, 95⟩ [.int (iZ d)] ws (fun v ws' => ∃ (f : Nat → Int32) (q : Nat), (f 0 = iZ (YR d : Nat) ∧ f 1 = iZ (MO d : Nat) ∧ f 2 = iZ (DOM d) ∧ f 3 = iZ (d - FO (YR d) + 1)) ∧ v = some (.ref q) ∧ ws' = ws ++ [(q, .inl (cs.1, 4, .inl f))]) mNo := by
  refine (c_X4_parts_f cs ws d hd.1 hd.2).to (fun v w h => ?_)
  obtain ⟨y, m, dd, f, q, h1, h2, h3, h4, h5, h6, h7, f0, f1, f2, f3, hv, hw⟩ := h
  have hs := YR_spec hd.1 hd.2
  have hDB := DB_s (y := y) h3
  have hDt := DB_t (y := y) h3 h4
  have hDb := DB_b (y := y) (m := m) (by omega)
  have hFs := FO_s (y := y) (by omega)
  have ey : YR d = y := FO_u (by omega) (by omega) hs.2.2.1 hs.2.2.2 (by omega) (by omega)
  have em : MO d = m := by
    unfold MO
    rw [ey]
    exact MO_u h3 h4 (by omega) (by omega)
  have ed : DOM d = (dd : Int) := by
    unfold DOM
    rw [ey, em]
    omega
  rw [ey, em, ed]
  exact ⟨f, q, ⟨by rw [f0, iZ_nI], by rw [f1, iZ_nI], by rw [f2, iZ_nI], f3⟩, hv, hw⟩
end
-- 71 zrin
section
/-! The reference, exact (rows by a program of this repository). -/
theorem zRw_num {ad ae : Nat → Nat} {cs : ClassId × ClassId × ClassId} {K : mK} {S : mS} {th : Int32} {rest : va_W} {j : Nat} {z : Int} : (mRw ad ae cs K (mJof S th) rest).set 16 (ae 2, .inl (cs.2.1, 4, .inr (.inl (vp_updL (mJof S th).2.2.1 j (lZ z))))) = mRw ad ae cs K (mJof (sNu S j z) th) rest := by
  have e : vp_updL (mJof S th).2.2.1 j (lZ z) = (mJof (sNu S j z) th).2.2.1 := zup_updL
  rw [e]
  rfl
theorem zRw_off {ad ae : Nat → Nat} {cs : ClassId × ClassId × ClassId} {K : mK} {S : mS} {th : Int32} {rest : va_W} {j : Nat} {z : Int} : (mRw ad ae cs K (mJof S th) rest).set 15 (ae 1, .inl (cs.1, 4, .inl (upd (mJof S th).2.1 j (iZ z)))) = mRw ad ae cs K (mJof (sOf S j z) th) rest := by
  have e : upd (mJof S th).2.1 j (iZ z) = (mJof (sOf S j z) th).2.1 := zup_upd
  rw [e]
  rfl
theorem zJ_put {S : mS} {th : Int32} {k : Nat} {day sec n o : Int} (hs : 0 ≤ sec ∧ sec ≤ 86399) : (((mJof S th).1, (mJof S th).2.1, (mJof S th).2.2.1, upd (mJof S th).2.2.2.1 k (iZ day), upd (mJof S th).2.2.2.2.1 k (iZ sec), upd (mJof S th).2.2.2.2.2.1 k (iZ n), upd (mJof S th).2.2.2.2.2.2 k (iZ o)) : mJ) = mJof (sLo S k (day * 86400 + sec, n, o)) th := by
  have h1 : upd (mJof S th).2.2.2.1 k (iZ day) = (mJof (sLo S k (day * 86400 + sec, n, o)) th).2.2.2.1 := by
    funext j
    show (if j = k then iZ day else iZ (sse S j / 86400)) = iZ ((zup S.2.2.1 k (day * 86400 + sec, n, o) j).1 / 86400)
    by_cases h : j = k
    · subst h; rw [if_pos rfl, zup_eq]; congr 1; show day = (day * 86400 + sec) / 86400; omega
    · rw [if_neg h, zup_ne h]; rfl
  have h2 : upd (mJof S th).2.2.2.2.1 k (iZ sec) = (mJof (sLo S k (day * 86400 + sec, n, o)) th).2.2.2.2.1 := by
    funext j
    show (if j = k then iZ sec else iZ (sse S j % 86400)) = iZ ((zup S.2.2.1 k (day * 86400 + sec, n, o) j).1 % 86400)
    by_cases h : j = k
    · subst h; rw [if_pos rfl, zup_eq]; congr 1; show sec = (day * 86400 + sec) % 86400; omega
    · rw [if_neg h, zup_ne h]; rfl
  have h3 : upd (mJof S th).2.2.2.2.2.1 k (iZ n) = (mJof (sLo S k (day * 86400 + sec, n, o)) th).2.2.2.2.2.1 := by
    funext j
    show (if j = k then iZ n else iZ (sna S j)) = iZ (zup S.2.2.1 k (day * 86400 + sec, n, o) j).2.1
    by_cases h : j = k
    · subst h; rw [if_pos rfl, zup_eq]
    · rw [if_neg h, zup_ne h]; rfl
  have h4 : upd (mJof S th).2.2.2.2.2.2 k (iZ o) = (mJof (sLo S k (day * 86400 + sec, n, o)) th).2.2.2.2.2.2 := by
    funext j
    show (if j = k then iZ o else iZ (sow S j)) = iZ (zup S.2.2.1 k (day * 86400 + sec, n, o) j).2.2
    by_cases h : j = k
    · subst h; rw [if_pos rfl, zup_eq]
    · rw [if_neg h, zup_ne h]; rfl
  rw [h1, h2, h3, h4]
  rfl
theorem z_X4_no (ad ae : Nat → Nat) (cs : ClassId × ClassId × ClassId) (K : mK) (S : mS) (th : Int32) (rest : va_W) : mCt (mTy cs) yX4_no cX4_no 1 (some .int) ⟨0, 0, 0, 0⟩ [.ref (ae 0)] (mRw ad ae cs K (mJof S th) rest) (fun v ws' => v = some (.int (iZ (-9))) ∧ ws' = mRw ad ae cs K (mJof (sRf S) th) rest) mNo := by
  refine (c_X4_no ad ae cs K (mJof S th) rest).to (fun v w h => ?_)
  obtain ⟨J', h1, h2, hv, hw⟩ := h
  have e : J' = mJof (sRf S) th := Prod.ext (h1.trans rfl) (h2.trans rfl)
  exact ⟨hv, by rw [hw, e]⟩
/-- what stops a call -/
def zth (x y : Bool) : Int32 := cond x 1 (cond y 2 0)
theorem f_stop_Z (x y : Bool) : f_stop (b2i x) (b2i y) = zth x y := by cases x <;> cases y <;> rfl
theorem z_X4_isStopped (ad ae : Nat → Nat) (cs : ClassId × ClassId × ClassId) (K : mK) (S : mS) (th : Int32) (rest : va_W) (x y : Bool) : mCt (mTy cs) yX4_isStopped cX4_isStopped 3 (some .boolean) ⟨0, 0, 0, 0⟩ [.ref (ae 0), .int (b2i x), .int (b2i y)] (mRw ad ae cs K (mJof S th) rest) (fun v ws' => v = some (.int (b2i (x || y))) ∧ ws' = mRw ad ae cs K (mJof S (zth x y)) rest) mNo := by
  refine (c_X4_isStopped ad ae cs K (mJof S th) rest (b2i x) (b2i y)).to (fun v w h => ?_)
  obtain ⟨r, J', h1, h2, h3, h4, hv, hw⟩ := h
  rw [f_stop_Z] at h2
  have e : J' = mJof S (zth x y) := Prod.ext (Prod.ext h2 h3) h4
  have er : r = b2i (x || y) := by
    rcases h1 with ⟨a, b, c⟩ | ⟨a, b⟩
    · rw [a, (b2i_0 x).mp b, (b2i_0 y).mp c]; rfl
    · rw [a]
      cases x <;> cases y
      · exact absurd ⟨rfl, rfl⟩ b
      · rfl
      · rfl
      · rfl
  exact ⟨by rw [hv, er], by rw [hw, e]⟩
theorem zst0 {x y : Bool} (h : (x || y) = false) : (x = false ∧ y = false) ∧ zth x y = 0 := by cases x <;> cases y <;> simp_all [zth]
theorem zst1 {x y : Bool} (h : (x || y) = true) : (x = true ∧ zth x y = 1) ∨ (x = false ∧ y = true ∧ zth x y = 2) := by cases x <;> cases y <;> simp_all [zth]
theorem z_X4_isNone (tys : List (ClassId × FieldType)) (ws : va_W) (a : Int) (ha : rJ a) : mCt tys yX4_isNone cX4_isNone 1 (some .boolean) ⟨1, 0, 0, 25⟩ [.int (iZ a)] ws (fun v ws' => v = some (.int (b2i (decide (¬ (0 ≤ a ∧ a < 4))))) ∧ ws' = ws) mNo := by
  refine (c_X4_isNone tys ws (iZ a)).to (fun v w h => ?_)
  obtain ⟨r, h1, hv, hw⟩ := h
  refine ⟨?_, hw⟩
  rcases h1 with ⟨e, j, hj, ej⟩ | ⟨e, hn⟩
  · have := (iZ_in (N := 4) ha (by decide)).mpr ⟨j, hj, ej⟩
    rw [hv, e, decide_eq_false (by omega)]; rfl
  · have h2 : ¬ (0 ≤ a ∧ a < 4) := fun q => hn ((vp_in_Zi (N := 4) ha).mpr q)
    rw [hv, e, decide_eq_true h2]; rfl
theorem z_X4_isNoClock (tys : List (ClassId × FieldType)) (ws : va_W) (a : Int) (ha : rJ a) : mCt tys yX4_isNoClock cX4_isNoClock 1 (some .boolean) ⟨1, 0, 0, 25⟩ [.int (iZ a)] ws (fun v ws' => v = some (.int (b2i (decide (¬ (0 ≤ a ∧ a < 3))))) ∧ ws' = ws) mNo := by
  refine (c_X4_isNoClock tys ws (iZ a)).to (fun v w h => ?_)
  obtain ⟨r, h1, hv, hw⟩ := h
  refine ⟨?_, hw⟩
  rcases h1 with ⟨e, j, hj, ej⟩ | ⟨e, hn⟩
  · have := (iZ_in (N := 3) ha (by decide)).mpr ⟨j, hj, ej⟩
    rw [hv, e, decide_eq_false (by omega)]; rfl
  · have h2 : ¬ (0 ≤ a ∧ a < 3) := fun q => hn ((vp_in_Zi (N := 3) ha).mpr q)
    rw [hv, e, decide_eq_true h2]; rfl
set_option maxHeartbeats 4000000 in
set_option maxRecDepth 20000 in
theorem z_X4_one (tys : List (ClassId × FieldType)) (ws : va_W) (a : Int) (ha : 0 ≤ a ∧ a ≤ 1)  : mCt tys yX4_one cX4_one 1 (some .int) ⟨0, 0, 0, 0⟩ [.int (iZ a)] ws (fun v ws' => v = some (.int (iZ a)) ∧ ws' = ws) mNo := by
  refine mCt.of (by decide +kernel) (Nat.le_of_ble_eq_true rfl) (fun X hX hE => ?_)
  replace hX : mOK X RX4 cX4_one 1 ⟨0, 0, 0, 0⟩ [] tys := hX
  refine r_iload_n hX dX4_one_0 rfl rfl (r_if_eqZ (tgt := 8) hX dX4_one_1 (by decide) (by first | with_reducible assumption | decide | omega) (fun c1 => ?_) (fun c1 => ?_))
  · refine r_iconstZ hX dX4_one_8 (r_iret hX hE dX4_one_9 (Nat.le_of_ble_eq_true rfl) (Nat.le_of_ble_eq_true rfl) ⟨zi ?_, rfl⟩)
    omega
  · refine r_iconstZ hX dX4_one_4 (r_goto (tgt := 9) hX dX4_one_5 (by decide) (r_iret hX hE dX4_one_9 (Nat.le_of_ble_eq_true rfl) (Nat.le_of_ble_eq_true rfl) ⟨zi ?_, rfl⟩))
    omega
set_option maxHeartbeats 4000000 in
set_option maxRecDepth 20000 in
theorem z_X4_order (tys : List (ClassId × FieldType)) (ws : va_W) (a b : Int) (ha : rL a) (hb : rL b)  : mCt tys yX4_order cX4_order 4 (some .int) ⟨1, 0, 0, 20⟩ [.long (lZ a), .long (lZ b)] ws (fun v ws' => v = some (.int (iZ (cmpZ a b))) ∧ ws' = ws) mNo := by
  refine mCt.of (by decide +kernel) (Nat.le_of_ble_eq_true rfl) (fun X hX hE => ?_)
  replace hX : mOK X RX4 cX4_order 4 ⟨1, 0, 0, 20⟩ [] tys := hX
  refine r_lload_n hX dX4_order_0 rfl rfl (r_lload_n hX dX4_order_1 rfl rfl (r_lif_geZ (tgt := 10) hX dX4_order_2 dX4_order_3 (by decide) (by first | with_reducible assumption | decide | omega) (by first | with_reducible assumption | decide | omega) (fun c1 => ?_) (fun c1 => ?_)))
  · refine r_lload_n hX dX4_order_10 rfl rfl (r_lload_n hX dX4_order_11 rfl rfl (r_lif_leZ (tgt := 20) hX dX4_order_12 dX4_order_13 (by decide) (by first | with_reducible assumption | decide | omega) (by first | with_reducible assumption | decide | omega) (fun c2 => ?_) (fun c2 => ?_)))
    · refine r_iconstZ hX dX4_order_20 (r_callS hX (z_X4_one _ _ _ (by first | with_reducible assumption | decide | omega)) ks_X4_84 rfl rfl (Nat.le_of_ble_eq_true rfl) ⟨(Nat.le_of_ble_eq_true rfl), (Nat.le_of_ble_eq_true rfl)⟩ ⟨(Nat.le_of_ble_eq_true rfl), (Nat.le_of_ble_eq_true rfl)⟩ dX4_order_21 (fun _ _ z => False.elim z) (fun v9 ws9 h3 => ?_))
      obtain ⟨rfl, hw9⟩ := h3
      subst ws9
      dsimp only [mPush]
      refine r_iret hX hE dX4_order_24 (Nat.le_of_ble_eq_true rfl) (Nat.le_of_ble_eq_true rfl) ⟨zi ?_, rfl⟩
      unfold cmpZ
      repeat' split
      all_goals omega
    · refine r_iconstZ hX dX4_order_16 (r_goto (tgt := 21) hX dX4_order_17 (by decide) (r_callS hX (z_X4_one _ _ _ (by first | with_reducible assumption | decide | omega)) ks_X4_84 rfl rfl (Nat.le_of_ble_eq_true rfl) ⟨(Nat.le_of_ble_eq_true rfl), (Nat.le_of_ble_eq_true rfl)⟩ ⟨(Nat.le_of_ble_eq_true rfl), (Nat.le_of_ble_eq_true rfl)⟩ dX4_order_21 (fun _ _ z => False.elim z) (fun v9 ws9 h4 => ?_)))
      obtain ⟨rfl, hw9⟩ := h4
      subst ws9
      dsimp only [mPush]
      refine r_iret hX hE dX4_order_24 (Nat.le_of_ble_eq_true rfl) (Nat.le_of_ble_eq_true rfl) ⟨zi ?_, rfl⟩
      unfold cmpZ
      repeat' split
      all_goals omega
  · refine r_iconstZ hX dX4_order_6 (r_goto (tgt := 24) hX dX4_order_7 (by decide) (r_iret hX hE dX4_order_24 (Nat.le_of_ble_eq_true rfl) (Nat.le_of_ble_eq_true rfl) ⟨zi ?_, rfl⟩))
    unfold cmpZ
    repeat' split
    all_goals omega
set_option maxHeartbeats 4000000 in
set_option maxRecDepth 20000 in
theorem z_X4_number (ad ae : Nat → Nat) (cs : ClassId × ClassId × ClassId) (K : mK) (S : mS) (th : Int32) (rest : va_W) (hS : sWF S) (i : Int) (j : Nat) (hij : i = (j : Int)) (hj : j < 7)  : mCt (mTy cs) yX4_number cX4_number 2 (some .long) ⟨0, 0, 0, 0⟩ [.ref (ae 0), .int (iZ i)] (mRw ad ae cs K (mJof S th) rest) (fun v ws' => v = some (.long (lZ ((sse S j - sow S j) * 1000000000 + sna S j))) ∧ ws' = (mRw ad ae cs K (mJof S th) rest)) mNo := by
  refine mCt.of (by decide +kernel) (Nat.le_of_ble_eq_true rfl) (fun X hX hE => ?_)
  replace hX : mOK X RX4 cX4_number 2 ⟨0, 0, 0, 0⟩ [] (mTy cs) := hX
  have hr := zrg hS hj
  refine r_ldc2Z (z := 86400) hX kc_X4_113 (by decide +kernel) dX4_number_0 (r_aload_n hX dX4_number_3 rfl rfl (r_get hX kf_X4_17 14 rfl rfl dX4_number_4 (r_iload_n hX dX4_number_7 rfl rfl (r_ialdZ hX 17 0 rfl rfl j (by first | with_reducible assumption | decide | omega) (by first | with_reducible assumption | decide | omega) (by decide) dX4_number_8 (r_i2lZ hX dX4_number_9 (by first | with_reducible assumption | decide | omega) (r_lmulZ hX dX4_number_10 (r_aload_n hX dX4_number_11 rfl rfl ?_)))))))
  refine r_get hX kf_X4_20 14 rfl rfl dX4_number_12 (r_iload_n hX dX4_number_15 rfl rfl (r_ialdZ hX 18 0 rfl rfl j (by first | with_reducible assumption | decide | omega) (by first | with_reducible assumption | decide | omega) (by decide) dX4_number_16 (r_i2lZ hX dX4_number_17 (by first | with_reducible assumption | decide | omega) (r_laddZ hX dX4_number_18 (r_aload_n hX dX4_number_19 rfl rfl (r_get hX kf_X4_26 14 rfl rfl dX4_number_20 (r_iload_n hX dX4_number_23 rfl rfl ?_)))))))
  refine r_ialdZ hX 20 0 rfl rfl j (by first | with_reducible assumption | decide | omega) (by first | with_reducible assumption | decide | omega) (by decide) dX4_number_24 (r_i2lZ hX dX4_number_25 (by first | with_reducible assumption | decide | omega) (r_lsubZ hX dX4_number_26 (r_ldc2Z (z := 1000000000) hX kc_X4_96 (by decide +kernel) dX4_number_27 (r_lmulZ hX dX4_number_30 (r_aload_n hX dX4_number_31 rfl rfl (r_get hX kf_X4_23 14 rfl rfl dX4_number_32 (r_iload_n hX dX4_number_35 rfl rfl ?_)))))))
  refine r_ialdZ hX 19 0 rfl rfl j (by first | with_reducible assumption | decide | omega) (by first | with_reducible assumption | decide | omega) (by decide) dX4_number_36 (r_i2lZ hX dX4_number_37 (by first | with_reducible assumption | decide | omega) (r_laddZ hX dX4_number_38 (r_lret hX hE dX4_number_39 (Nat.le_of_ble_eq_true rfl) (Nat.le_of_ble_eq_true rfl) ⟨zl ?_, rfl⟩)))
  omega
set_option maxHeartbeats 4000000 in
set_option maxRecDepth 20000 in
theorem z_X4_become (ad ae : Nat → Nat) (cs : ClassId × ClassId × ClassId) (K : mK) (S : mS) (th : Int32) (rest : va_W) (hS : sWF S) (i : Int) (j : Nat) (hij : i = (j : Int)) (hj : j < 4) (z : Int) (hz : -4000000000000000000 ≤ z ∧ z ≤ 4000000000000000000)  : mCt (mTy cs) yX4_become cX4_become 4 (some .int) ⟨2, 0, 0, 46⟩ [.ref (ae 0), .int (iZ i), .long (lZ z)] (mRw ad ae cs K (mJof S th) rest) (fun v ws' => v = some (.int (iZ (oNum S j z).1)) ∧ ws' = mRw ad ae cs K (mJof (oNum S j z).2 th) rest) mNo := by
  refine mCt.of (by decide +kernel) (Nat.le_of_ble_eq_true rfl) (fun X hX hE => ?_)
  replace hX : mOK X RX4 cX4_become 4 ⟨2, 0, 0, 46⟩ [] (mTy cs) := hX
  refine r_lload_n hX dX4_become_0 rfl rfl (r_ldc2Z (z := 1000000000) hX kc_X4_96 (by decide +kernel) dX4_become_1 (r_callS hX (c_X4_whole_x _ _ _ _ (by first | with_reducible assumption | decide | omega) (by first | with_reducible assumption | decide | omega) (by first | with_reducible assumption | decide | omega) (by first | with_reducible assumption | decide | omega)) ks_X4_92 rfl rfl (Nat.le_of_ble_eq_true rfl) ⟨(Nat.le_of_ble_eq_true rfl), (Nat.le_of_ble_eq_true rfl)⟩ ⟨(Nat.le_of_ble_eq_true rfl), (Nat.le_of_ble_eq_true rfl)⟩ dX4_become_4 (fun _ _ z => False.elim z) (fun v9 ws9 h1 => ?_)))
  obtain ⟨rfl, hw9⟩ := h1
  subst ws9
  dsimp only [mPush]
  refine r_ldc2Z (z := -1800000000) hX kc_X4_98 (by decide +kernel) dX4_become_7 (r_ldc2Z (z := 1800000000) hX kc_X4_100 (by decide +kernel) dX4_become_10 (r_callS hX (z_X4_isIn _ _ _ _ _ (by first | with_reducible assumption | decide | omega) (by first | with_reducible assumption | decide | omega) (by first | with_reducible assumption | decide | omega)) ks_X4_38 rfl rfl (Nat.le_of_ble_eq_true rfl) ⟨(Nat.le_of_ble_eq_true rfl), (Nat.le_of_ble_eq_true rfl)⟩ ⟨(Nat.le_of_ble_eq_true rfl), (Nat.le_of_ble_eq_true rfl)⟩ dX4_become_13 (fun _ _ z => False.elim z) (fun v9 ws9 h2 => ?_)))
  obtain ⟨rfl, hw9⟩ := h2
  subst ws9
  dsimp only [mPush]
  refine r_if_neB (tgt := 24) hX dX4_become_16 (by decide) (fun c3 => ?_) (fun c3 => ?_)
  · have c3 := of_decide_eq_true c3
    refine r_aload_n hX dX4_become_24 rfl rfl (r_get hX kf_X4_13 14 rfl rfl dX4_become_25 (r_iload_n hX dX4_become_28 rfl rfl (r_lload_n hX dX4_become_29 rfl rfl (r_lastZ hX 16 1 rfl rfl j (by first | with_reducible assumption | decide | omega) (by first | with_reducible assumption | decide | omega) (by decide) dX4_become_30 (r_eqw (zRw_num (j := j) (z := z)) (r_lload_n hX dX4_become_31 rfl rfl (r_ldc2Z (z := 1000000000) hX kc_X4_96 (by decide +kernel) dX4_become_32 ?_)))))))
    refine r_callS hX (c_X4_rest_x _ _ _ _ (by first | with_reducible assumption | decide | omega) (by first | with_reducible assumption | decide | omega) (by first | with_reducible assumption | decide | omega) (by first | with_reducible assumption | decide | omega)) ks_X4_102 rfl rfl (Nat.le_of_ble_eq_true rfl) ⟨(Nat.le_of_ble_eq_true rfl), (Nat.le_of_ble_eq_true rfl)⟩ ⟨(Nat.le_of_ble_eq_true rfl), (Nat.le_of_ble_eq_true rfl)⟩ dX4_become_35 (fun _ _ z => False.elim z) (fun v9 ws9 h4 => ?_)
    obtain ⟨rfl, hw9⟩ := h4
    subst ws9
    dsimp only [mPush]
    refine r_iret hX hE dX4_become_38 (Nat.le_of_ble_eq_true rfl) (Nat.le_of_ble_eq_true rfl) ?_
    rw [oNum_y (by omega)]
    exact ⟨rfl, rfl⟩
  · have c3 := of_decide_eq_false c3
    refine r_aload_n hX dX4_become_19 rfl rfl (r_callV hX (z_X4_no ad ae cs K S th rest) kv_X4_80 14 rfl rfl rfl rfl (Nat.le_of_ble_eq_true rfl) ⟨(Nat.le_of_ble_eq_true rfl), (Nat.le_of_ble_eq_true rfl)⟩ ⟨(Nat.le_of_ble_eq_true rfl), (Nat.le_of_ble_eq_true rfl)⟩ dX4_become_20 (fun _ _ z => False.elim z) (fun v9 ws9 h5 => ?_))
    obtain ⟨rfl, hw9⟩ := h5
    subst ws9
    dsimp only [mPush]
    refine r_iret hX hE dX4_become_23 (Nat.le_of_ble_eq_true rfl) (Nat.le_of_ble_eq_true rfl) ?_
    rw [oNum_n (by omega)]
    exact ⟨rfl, rfl⟩
end
