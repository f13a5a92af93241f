/-! The class, exact (rows by a program of this repository). -/
def zFst (lt : Nat → Nat → Bool) : Nat := cond (lt 3 (cond (lt 2 (cond (lt 1 0) 1 0)) 2 (cond (lt 1 0) 1 0))) 3 (cond (lt 2 (cond (lt 1 0) 1 0)) 2 (cond (lt 1 0) 1 0))
def zFM (S : mS) : Nat := zFst (fun i j => decide (snu S i < snu S j))
def zFD (S : mS) : Nat := zFst (fun i j => decide (zTo (sse S i) (sna S i) (sow S i) (sse S j) (sna S j) (sow S j) < 0))
theorem zFst_1 {lt : Nat → Nat → Bool} {a b c : Nat} {x y z : Bool} (h1 : lt 1 0 = x) (ha : cond x 1 0 = a) (h2 : lt 2 a = y) (hb : cond y 2 a = b) (h3 : lt 3 b = z) (hc : cond z 3 b = c) : zFst lt = c := by
  unfold zFst
  rw [h1, ha, h2, hb, h3, hc]
def zHo (S : mS) (w : Int) : Int32 := if w = 0 then S.2.2.2.1 else if w = 1 then S.2.2.2.2 else if w = 2 then iZ (zFD S : Nat) else iZ (zFM S : Nat)
set_option maxHeartbeats 4000000 in
set_option maxRecDepth 20000 in
theorem z_X2_firstMoment (ad : Nat → Nat) (cs : ClassId × ClassId × ClassId) (S : mS) (T : mT2) (rest : va_W) (hS : sWF S)  : mCt (mTy cs) yX2_firstMoment cX2_firstMoment 3 (some .int) ⟨0, 0, 0, 0⟩ [.ref (ad 0)] (mWd ad cs (mKof S T) rest) (fun v ws' => v = some (.int (iZ (zFM S : Nat))) ∧ ws' = (mWd ad cs (mKof S T) rest)) mNo := by
  refine mCt.of (by decide +kernel) (Nat.le_of_ble_eq_true rfl) (fun X hX hE => ?_)
  replace hX : mOK X RX2 cX2_firstMoment 3 ⟨0, 0, 0, 0⟩ [] (mTy cs) := hX
  have hn0 := hS.2.1 0 (by decide)
  have hn1 := hS.2.1 1 (by decide)
  have hn2 := hS.2.1 2 (by decide)
  have hn3 := hS.2.1 3 (by decide)
  refine r_iconstZ hX dX2_firstMoment_0 ?_
  refine r_istore_n hX dX2_firstMoment_1 rfl (by decide) rfl ?_
  refine r_iconstZ hX dX2_firstMoment_2 ?_
  refine r_istore_n hX dX2_firstMoment_3 rfl (by decide) rfl ?_
  refine r_iload_n hX dX2_firstMoment_4 rfl rfl ?_
  refine r_aload_n hX dX2_firstMoment_5 rfl rfl ?_
  refine r_get hX kf_X2_13 0 rfl rfl dX2_firstMoment_6 ?_
  refine r_alen (v := iZ 4) hX 2 1 rfl rfl rfl dX2_firstMoment_9 ?_
  refine r_icmp_geZ (tgt := 37) hX dX2_firstMoment_10 (by decide) (by decide) (by decide) (fun q => absurd q (by decide)) (fun _ => ?_)
  refine r_aload_n hX dX2_firstMoment_13 rfl rfl ?_
  refine r_get hX kf_X2_13 0 rfl rfl dX2_firstMoment_14 ?_
  refine r_iload_n hX dX2_firstMoment_17 rfl rfl ?_
  refine r_laldZ hX 2 1 rfl rfl 1 (by decide) (by decide) (by decide) dX2_firstMoment_18 ?_
  refine r_aload_n hX dX2_firstMoment_19 rfl rfl ?_
  refine r_get hX kf_X2_13 0 rfl rfl dX2_firstMoment_20 ?_
  refine r_iload_n hX dX2_firstMoment_23 rfl rfl ?_
  refine r_laldZ hX 2 1 rfl rfl 0 (by decide) (by decide) (by decide) dX2_firstMoment_24 ?_
  refine r_lif_geZ (tgt := 31) hX dX2_firstMoment_25 dX2_firstMoment_26 (by decide) (by omega) (by omega) (fun c1 => ?_) (fun c1 => ?_)
  · refine r_iincZ (z := 1) (y := 2) hX dX2_firstMoment_31 rfl (by decide) rfl rfl ?_
    refine r_goto (tgt := 4) hX dX2_firstMoment_34 (by decide) ?_
    refine r_iload_n hX dX2_firstMoment_4 rfl rfl ?_
    refine r_aload_n hX dX2_firstMoment_5 rfl rfl ?_
    refine r_get hX kf_X2_13 0 rfl rfl dX2_firstMoment_6 ?_
    refine r_alen (v := iZ 4) hX 2 1 rfl rfl rfl dX2_firstMoment_9 ?_
    refine r_icmp_geZ (tgt := 37) hX dX2_firstMoment_10 (by decide) (by decide) (by decide) (fun q => absurd q (by decide)) (fun _ => ?_)
    refine r_aload_n hX dX2_firstMoment_13 rfl rfl ?_
    refine r_get hX kf_X2_13 0 rfl rfl dX2_firstMoment_14 ?_
    refine r_iload_n hX dX2_firstMoment_17 rfl rfl ?_
    refine r_laldZ hX 2 1 rfl rfl 2 (by decide) (by decide) (by decide) dX2_firstMoment_18 ?_
    refine r_aload_n hX dX2_firstMoment_19 rfl rfl ?_
    refine r_get hX kf_X2_13 0 rfl rfl dX2_firstMoment_20 ?_
    refine r_iload_n hX dX2_firstMoment_23 rfl rfl ?_
    refine r_laldZ hX 2 1 rfl rfl 0 (by decide) (by decide) (by decide) dX2_firstMoment_24 ?_
    refine r_lif_geZ (tgt := 31) hX dX2_firstMoment_25 dX2_firstMoment_26 (by decide) (by omega) (by omega) (fun c2 => ?_) (fun c2 => ?_)
    · refine r_iincZ (z := 1) (y := 3) hX dX2_firstMoment_31 rfl (by decide) rfl rfl ?_
      refine r_goto (tgt := 4) hX dX2_firstMoment_34 (by decide) ?_
      refine r_iload_n hX dX2_firstMoment_4 rfl rfl ?_
      refine r_aload_n hX dX2_firstMoment_5 rfl rfl ?_
      refine r_get hX kf_X2_13 0 rfl rfl dX2_firstMoment_6 ?_
      refine r_alen (v := iZ 4) hX 2 1 rfl rfl rfl dX2_firstMoment_9 ?_
      refine r_icmp_geZ (tgt := 37) hX dX2_firstMoment_10 (by decide) (by decide) (by decide) (fun q => absurd q (by decide)) (fun _ => ?_)
      refine r_aload_n hX dX2_firstMoment_13 rfl rfl ?_
      refine r_get hX kf_X2_13 0 rfl rfl dX2_firstMoment_14 ?_
      refine r_iload_n hX dX2_firstMoment_17 rfl rfl ?_
      refine r_laldZ hX 2 1 rfl rfl 3 (by decide) (by decide) (by decide) dX2_firstMoment_18 ?_
      refine r_aload_n hX dX2_firstMoment_19 rfl rfl ?_
      refine r_get hX kf_X2_13 0 rfl rfl dX2_firstMoment_20 ?_
      refine r_iload_n hX dX2_firstMoment_23 rfl rfl ?_
      refine r_laldZ hX 2 1 rfl rfl 0 (by decide) (by decide) (by decide) dX2_firstMoment_24 ?_
      refine r_lif_geZ (tgt := 31) hX dX2_firstMoment_25 dX2_firstMoment_26 (by decide) (by omega) (by omega) (fun c3 => ?_) (fun c3 => ?_)
      · refine r_iincZ (z := 1) (y := 4) hX dX2_firstMoment_31 rfl (by decide) rfl rfl ?_
        refine r_goto (tgt := 4) hX dX2_firstMoment_34 (by decide) ?_
        refine r_iload_n hX dX2_firstMoment_4 rfl rfl ?_
        refine r_aload_n hX dX2_firstMoment_5 rfl rfl ?_
        refine r_get hX kf_X2_13 0 rfl rfl dX2_firstMoment_6 ?_
        refine r_alen (v := iZ 4) hX 2 1 rfl rfl rfl dX2_firstMoment_9 ?_
        refine r_icmp_geZ (tgt := 37) hX dX2_firstMoment_10 (by decide) (by decide) (by decide) (fun _ => ?_) (fun q => absurd (by decide) q)
        refine r_iload_n hX dX2_firstMoment_37 rfl rfl ?_
        refine r_iret hX hE dX2_firstMoment_38 (Nat.le_of_ble_eq_true rfl) (Nat.le_of_ble_eq_true rfl) ⟨zi ?_, rfl⟩
        have e : zFM S = 0 := zFst_1 (x := false) (a := 0) (y := false) (b := 0) (z := false) (decide_eq_false (by omega)) rfl (decide_eq_false (by omega)) rfl (decide_eq_false (by omega)) rfl
        rw [e]
        rfl
      · refine r_iload_n hX dX2_firstMoment_29 rfl rfl ?_
        refine r_istore_n hX dX2_firstMoment_30 rfl (by decide) rfl ?_
        refine r_iincZ (z := 1) (y := 4) hX dX2_firstMoment_31 rfl (by decide) rfl rfl ?_
        refine r_goto (tgt := 4) hX dX2_firstMoment_34 (by decide) ?_
        refine r_iload_n hX dX2_firstMoment_4 rfl rfl ?_
        refine r_aload_n hX dX2_firstMoment_5 rfl rfl ?_
        refine r_get hX kf_X2_13 0 rfl rfl dX2_firstMoment_6 ?_
        refine r_alen (v := iZ 4) hX 2 1 rfl rfl rfl dX2_firstMoment_9 ?_
        refine r_icmp_geZ (tgt := 37) hX dX2_firstMoment_10 (by decide) (by decide) (by decide) (fun _ => ?_) (fun q => absurd (by decide) q)
        refine r_iload_n hX dX2_firstMoment_37 rfl rfl ?_
        refine r_iret hX hE dX2_firstMoment_38 (Nat.le_of_ble_eq_true rfl) (Nat.le_of_ble_eq_true rfl) ⟨zi ?_, rfl⟩
        have e : zFM S = 3 := zFst_1 (x := false) (a := 0) (y := false) (b := 0) (z := true) (decide_eq_false (by omega)) rfl (decide_eq_false (by omega)) rfl (decide_eq_true (by omega)) rfl
        rw [e]
        rfl
    · refine r_iload_n hX dX2_firstMoment_29 rfl rfl ?_
      refine r_istore_n hX dX2_firstMoment_30 rfl (by decide) rfl ?_
      refine r_iincZ (z := 1) (y := 3) hX dX2_firstMoment_31 rfl (by decide) rfl rfl ?_
      refine r_goto (tgt := 4) hX dX2_firstMoment_34 (by decide) ?_
      refine r_iload_n hX dX2_firstMoment_4 rfl rfl ?_
      refine r_aload_n hX dX2_firstMoment_5 rfl rfl ?_
      refine r_get hX kf_X2_13 0 rfl rfl dX2_firstMoment_6 ?_
      refine r_alen (v := iZ 4) hX 2 1 rfl rfl rfl dX2_firstMoment_9 ?_
      refine r_icmp_geZ (tgt := 37) hX dX2_firstMoment_10 (by decide) (by decide) (by decide) (fun q => absurd q (by decide)) (fun _ => ?_)
      refine r_aload_n hX dX2_firstMoment_13 rfl rfl ?_
      refine r_get hX kf_X2_13 0 rfl rfl dX2_firstMoment_14 ?_
      refine r_iload_n hX dX2_firstMoment_17 rfl rfl ?_
      refine r_laldZ hX 2 1 rfl rfl 3 (by decide) (by decide) (by decide) dX2_firstMoment_18 ?_
      refine r_aload_n hX dX2_firstMoment_19 rfl rfl ?_
      refine r_get hX kf_X2_13 0 rfl rfl dX2_firstMoment_20 ?_
      refine r_iload_n hX dX2_firstMoment_23 rfl rfl ?_
      refine r_laldZ hX 2 1 rfl rfl 2 (by decide) (by decide) (by decide) dX2_firstMoment_24 ?_
      refine r_lif_geZ (tgt := 31) hX dX2_firstMoment_25 dX2_firstMoment_26 (by decide) (by omega) (by omega) (fun c4 => ?_) (fun c4 => ?_)
      · refine r_iincZ (z := 1) (y := 4) hX dX2_firstMoment_31 rfl (by decide) rfl rfl ?_
        refine r_goto (tgt := 4) hX dX2_firstMoment_34 (by decide) ?_
        refine r_iload_n hX dX2_firstMoment_4 rfl rfl ?_
        refine r_aload_n hX dX2_firstMoment_5 rfl rfl ?_
        refine r_get hX kf_X2_13 0 rfl rfl dX2_firstMoment_6 ?_
        refine r_alen (v := iZ 4) hX 2 1 rfl rfl rfl dX2_firstMoment_9 ?_
        refine r_icmp_geZ (tgt := 37) hX dX2_firstMoment_10 (by decide) (by decide) (by decide) (fun _ => ?_) (fun q => absurd (by decide) q)
        refine r_iload_n hX dX2_firstMoment_37 rfl rfl ?_
        refine r_iret hX hE dX2_firstMoment_38 (Nat.le_of_ble_eq_true rfl) (Nat.le_of_ble_eq_true rfl) ⟨zi ?_, rfl⟩
        have e : zFM S = 2 := zFst_1 (x := false) (a := 0) (y := true) (b := 2) (z := false) (decide_eq_false (by omega)) rfl (decide_eq_true (by omega)) rfl (decide_eq_false (by omega)) rfl
        rw [e]
        rfl
      · refine r_iload_n hX dX2_firstMoment_29 rfl rfl ?_
        refine r_istore_n hX dX2_firstMoment_30 rfl (by decide) rfl ?_
        refine r_iincZ (z := 1) (y := 4) hX dX2_firstMoment_31 rfl (by decide) rfl rfl ?_
        refine r_goto (tgt := 4) hX dX2_firstMoment_34 (by decide) ?_
        refine r_iload_n hX dX2_firstMoment_4 rfl rfl ?_
        refine r_aload_n hX dX2_firstMoment_5 rfl rfl ?_
        refine r_get hX kf_X2_13 0 rfl rfl dX2_firstMoment_6 ?_
        refine r_alen (v := iZ 4) hX 2 1 rfl rfl rfl dX2_firstMoment_9 ?_
        refine r_icmp_geZ (tgt := 37) hX dX2_firstMoment_10 (by decide) (by decide) (by decide) (fun _ => ?_) (fun q => absurd (by decide) q)
        refine r_iload_n hX dX2_firstMoment_37 rfl rfl ?_
        refine r_iret hX hE dX2_firstMoment_38 (Nat.le_of_ble_eq_true rfl) (Nat.le_of_ble_eq_true rfl) ⟨zi ?_, rfl⟩
        have e : zFM S = 3 := zFst_1 (x := false) (a := 0) (y := true) (b := 2) (z := true) (decide_eq_false (by omega)) rfl (decide_eq_true (by omega)) rfl (decide_eq_true (by omega)) rfl
        rw [e]
        rfl
  · refine r_iload_n hX dX2_firstMoment_29 rfl rfl ?_
    refine r_istore_n hX dX2_firstMoment_30 rfl (by decide) rfl ?_
    refine r_iincZ (z := 1) (y := 2) hX dX2_firstMoment_31 rfl (by decide) rfl rfl ?_
    refine r_goto (tgt := 4) hX dX2_firstMoment_34 (by decide) ?_
    refine r_iload_n hX dX2_firstMoment_4 rfl rfl ?_
    refine r_aload_n hX dX2_firstMoment_5 rfl rfl ?_
    refine r_get hX kf_X2_13 0 rfl rfl dX2_firstMoment_6 ?_
    refine r_alen (v := iZ 4) hX 2 1 rfl rfl rfl dX2_firstMoment_9 ?_
    refine r_icmp_geZ (tgt := 37) hX dX2_firstMoment_10 (by decide) (by decide) (by decide) (fun q => absurd q (by decide)) (fun _ => ?_)
    refine r_aload_n hX dX2_firstMoment_13 rfl rfl ?_
    refine r_get hX kf_X2_13 0 rfl rfl dX2_firstMoment_14 ?_
    refine r_iload_n hX dX2_firstMoment_17 rfl rfl ?_
    refine r_laldZ hX 2 1 rfl rfl 2 (by decide) (by decide) (by decide) dX2_firstMoment_18 ?_
    refine r_aload_n hX dX2_firstMoment_19 rfl rfl ?_
    refine r_get hX kf_X2_13 0 rfl rfl dX2_firstMoment_20 ?_
    refine r_iload_n hX dX2_firstMoment_23 rfl rfl ?_
    refine r_laldZ hX 2 1 rfl rfl 1 (by decide) (by decide) (by decide) dX2_firstMoment_24 ?_
    refine r_lif_geZ (tgt := 31) hX dX2_firstMoment_25 dX2_firstMoment_26 (by decide) (by omega) (by omega) (fun c5 => ?_) (fun c5 => ?_)
    · refine r_iincZ (z := 1) (y := 3) hX dX2_firstMoment_31 rfl (by decide) rfl rfl ?_
      refine r_goto (tgt := 4) hX dX2_firstMoment_34 (by decide) ?_
      refine r_iload_n hX dX2_firstMoment_4 rfl rfl ?_
      refine r_aload_n hX dX2_firstMoment_5 rfl rfl ?_
      refine r_get hX kf_X2_13 0 rfl rfl dX2_firstMoment_6 ?_
      refine r_alen (v := iZ 4) hX 2 1 rfl rfl rfl dX2_firstMoment_9 ?_
      refine r_icmp_geZ (tgt := 37) hX dX2_firstMoment_10 (by decide) (by decide) (by decide) (fun q => absurd q (by decide)) (fun _ => ?_)
      refine r_aload_n hX dX2_firstMoment_13 rfl rfl ?_
      refine r_get hX kf_X2_13 0 rfl rfl dX2_firstMoment_14 ?_
      refine r_iload_n hX dX2_firstMoment_17 rfl rfl ?_
      refine r_laldZ hX 2 1 rfl rfl 3 (by decide) (by decide) (by decide) dX2_firstMoment_18 ?_
      refine r_aload_n hX dX2_firstMoment_19 rfl rfl ?_
      refine r_get hX kf_X2_13 0 rfl rfl dX2_firstMoment_20 ?_
      refine r_iload_n hX dX2_firstMoment_23 rfl rfl ?_
      refine r_laldZ hX 2 1 rfl rfl 1 (by decide) (by decide) (by decide) dX2_firstMoment_24 ?_
      refine r_lif_geZ (tgt := 31) hX dX2_firstMoment_25 dX2_firstMoment_26 (by decide) (by omega) (by omega) (fun c6 => ?_) (fun c6 => ?_)
      · refine r_iincZ (z := 1) (y := 4) hX dX2_firstMoment_31 rfl (by decide) rfl rfl ?_
        refine r_goto (tgt := 4) hX dX2_firstMoment_34 (by decide) ?_
        refine r_iload_n hX dX2_firstMoment_4 rfl rfl ?_
        refine r_aload_n hX dX2_firstMoment_5 rfl rfl ?_
        refine r_get hX kf_X2_13 0 rfl rfl dX2_firstMoment_6 ?_
        refine r_alen (v := iZ 4) hX 2 1 rfl rfl rfl dX2_firstMoment_9 ?_
        refine r_icmp_geZ (tgt := 37) hX dX2_firstMoment_10 (by decide) (by decide) (by decide) (fun _ => ?_) (fun q => absurd (by decide) q)
        refine r_iload_n hX dX2_firstMoment_37 rfl rfl ?_
        refine r_iret hX hE dX2_firstMoment_38 (Nat.le_of_ble_eq_true rfl) (Nat.le_of_ble_eq_true rfl) ⟨zi ?_, rfl⟩
        have e : zFM S = 1 := zFst_1 (x := true) (a := 1) (y := false) (b := 1) (z := false) (decide_eq_true (by omega)) rfl (decide_eq_false (by omega)) rfl (decide_eq_false (by omega)) rfl
        rw [e]
        rfl
      · refine r_iload_n hX dX2_firstMoment_29 rfl rfl ?_
        refine r_istore_n hX dX2_firstMoment_30 rfl (by decide) rfl ?_
        refine r_iincZ (z := 1) (y := 4) hX dX2_firstMoment_31 rfl (by decide) rfl rfl ?_
        refine r_goto (tgt := 4) hX dX2_firstMoment_34 (by decide) ?_
        refine r_iload_n hX dX2_firstMoment_4 rfl rfl ?_
        refine r_aload_n hX dX2_firstMoment_5 rfl rfl ?_
        refine r_get hX kf_X2_13 0 rfl rfl dX2_firstMoment_6 ?_
        refine r_alen (v := iZ 4) hX 2 1 rfl rfl rfl dX2_firstMoment_9 ?_
        refine r_icmp_geZ (tgt := 37) hX dX2_firstMoment_10 (by decide) (by decide) (by decide) (fun _ => ?_) (fun q => absurd (by decide) q)
        refine r_iload_n hX dX2_firstMoment_37 rfl rfl ?_
        refine r_iret hX hE dX2_firstMoment_38 (Nat.le_of_ble_eq_true rfl) (Nat.le_of_ble_eq_true rfl) ⟨zi ?_, rfl⟩
        have e : zFM S = 3 := zFst_1 (x := true) (a := 1) (y := false) (b := 1) (z := true) (decide_eq_true (by omega)) rfl (decide_eq_false (by omega)) rfl (decide_eq_true (by omega)) rfl
        rw [e]
        rfl
    · refine r_iload_n hX dX2_firstMoment_29 rfl rfl ?_
      refine r_istore_n hX dX2_firstMoment_30 rfl (by decide) rfl ?_
      refine r_iincZ (z := 1) (y := 3) hX dX2_firstMoment_31 rfl (by decide) rfl rfl ?_
      refine r_goto (tgt := 4) hX dX2_firstMoment_34 (by decide) ?_
      refine r_iload_n hX dX2_firstMoment_4 rfl rfl ?_
      refine r_aload_n hX dX2_firstMoment_5 rfl rfl ?_
      refine r_get hX kf_X2_13 0 rfl rfl dX2_firstMoment_6 ?_
      refine r_alen (v := iZ 4) hX 2 1 rfl rfl rfl dX2_firstMoment_9 ?_
      refine r_icmp_geZ (tgt := 37) hX dX2_firstMoment_10 (by decide) (by decide) (by decide) (fun q => absurd q (by decide)) (fun _ => ?_)
      refine r_aload_n hX dX2_firstMoment_13 rfl rfl ?_
      refine r_get hX kf_X2_13 0 rfl rfl dX2_firstMoment_14 ?_
      refine r_iload_n hX dX2_firstMoment_17 rfl rfl ?_
      refine r_laldZ hX 2 1 rfl rfl 3 (by decide) (by decide) (by decide) dX2_firstMoment_18 ?_
      refine r_aload_n hX dX2_firstMoment_19 rfl rfl ?_
      refine r_get hX kf_X2_13 0 rfl rfl dX2_firstMoment_20 ?_
      refine r_iload_n hX dX2_firstMoment_23 rfl rfl ?_
      refine r_laldZ hX 2 1 rfl rfl 2 (by decide) (by decide) (by decide) dX2_firstMoment_24 ?_
      refine r_lif_geZ (tgt := 31) hX dX2_firstMoment_25 dX2_firstMoment_26 (by decide) (by omega) (by omega) (fun c7 => ?_) (fun c7 => ?_)
      · refine r_iincZ (z := 1) (y := 4) hX dX2_firstMoment_31 rfl (by decide) rfl rfl ?_
        refine r_goto (tgt := 4) hX dX2_firstMoment_34 (by decide) ?_
        refine r_iload_n hX dX2_firstMoment_4 rfl rfl ?_
        refine r_aload_n hX dX2_firstMoment_5 rfl rfl ?_
        refine r_get hX kf_X2_13 0 rfl rfl dX2_firstMoment_6 ?_
        refine r_alen (v := iZ 4) hX 2 1 rfl rfl rfl dX2_firstMoment_9 ?_
        refine r_icmp_geZ (tgt := 37) hX dX2_firstMoment_10 (by decide) (by decide) (by decide) (fun _ => ?_) (fun q => absurd (by decide) q)
        refine r_iload_n hX dX2_firstMoment_37 rfl rfl ?_
        refine r_iret hX hE dX2_firstMoment_38 (Nat.le_of_ble_eq_true rfl) (Nat.le_of_ble_eq_true rfl) ⟨zi ?_, rfl⟩
        have e : zFM S = 2 := zFst_1 (x := true) (a := 1) (y := true) (b := 2) (z := false) (decide_eq_true (by omega)) rfl (decide_eq_true (by omega)) rfl (decide_eq_false (by omega)) rfl
        rw [e]
        rfl
      · refine r_iload_n hX dX2_firstMoment_29 rfl rfl ?_
        refine r_istore_n hX dX2_firstMoment_30 rfl (by decide) rfl ?_
        refine r_iincZ (z := 1) (y := 4) hX dX2_firstMoment_31 rfl (by decide) rfl rfl ?_
        refine r_goto (tgt := 4) hX dX2_firstMoment_34 (by decide) ?_
        refine r_iload_n hX dX2_firstMoment_4 rfl rfl ?_
        refine r_aload_n hX dX2_firstMoment_5 rfl rfl ?_
        refine r_get hX kf_X2_13 0 rfl rfl dX2_firstMoment_6 ?_
        refine r_alen (v := iZ 4) hX 2 1 rfl rfl rfl dX2_firstMoment_9 ?_
        refine r_icmp_geZ (tgt := 37) hX dX2_firstMoment_10 (by decide) (by decide) (by decide) (fun _ => ?_) (fun q => absurd (by decide) q)
        refine r_iload_n hX dX2_firstMoment_37 rfl rfl ?_
        refine r_iret hX hE dX2_firstMoment_38 (Nat.le_of_ble_eq_true rfl) (Nat.le_of_ble_eq_true rfl) ⟨zi ?_, rfl⟩
        have e : zFM S = 3 := zFst_1 (x := true) (a := 1) (y := true) (b := 2) (z := true) (decide_eq_true (by omega)) rfl (decide_eq_true (by omega)) rfl (decide_eq_true (by omega)) rfl
        rw [e]
        rfl
set_option maxHeartbeats 4000000 in
set_option maxRecDepth 20000 in
theorem z_X2_firstDated (ad : Nat → Nat) (cs : ClassId × ClassId × ClassId) (S : mS) (T : mT2) (rest : va_W) (hS : sWF S)  : mCt (mTy cs) yX2_firstDated cX2_firstDated 3 (some .int) ⟨3, 0, 0, 67⟩ [.ref (ad 0)] (mWd ad cs (mKof S T) rest) (fun v ws' => v = some (.int (iZ (zFD S : Nat))) ∧ ws' = (mWd ad cs (mKof S T) rest)) mNo := by
  refine mCt.of (by decide +kernel) (Nat.le_of_ble_eq_true rfl) (fun X hX hE => ?_)
  replace hX : mOK X RX2 cX2_firstDated 3 ⟨3, 0, 0, 67⟩ [] (mTy cs) := hX
  refine r_iconstZ hX dX2_firstDated_0 ?_
  refine r_istore_n hX dX2_firstDated_1 rfl (by decide) rfl ?_
  refine r_iconstZ hX dX2_firstDated_2 ?_
  refine r_istore_n hX dX2_firstDated_3 rfl (by decide) rfl ?_
  refine r_iload_n hX dX2_firstDated_4 rfl rfl ?_
  refine r_aload_n hX dX2_firstDated_5 rfl rfl ?_
  refine r_get hX kf_X2_20 0 rfl rfl dX2_firstDated_6 ?_
  refine r_alen (v := iZ 4) hX 3 2 rfl rfl rfl dX2_firstDated_9 ?_
  refine r_icmp_geZ (tgt := 43) hX dX2_firstDated_10 (by decide) (by decide) (by decide) (fun q => absurd q (by decide)) (fun _ => ?_)
  refine r_aload_n hX dX2_firstDated_13 rfl rfl ?_
  refine r_get hX kf_X2_20 0 rfl rfl dX2_firstDated_14 ?_
  refine r_iload_n hX dX2_firstDated_17 rfl rfl ?_
  refine r_callS hX (z_X2_at_ok ad cs _ 3 _ 4 0 rfl (by decide) _ 1 (by omega) (by decide)) ks_X2_84 rfl rfl (Nat.le_of_ble_eq_true rfl) ⟨(Nat.le_of_ble_eq_true rfl), (Nat.le_of_ble_eq_true rfl)⟩ ⟨(Nat.le_of_ble_eq_true rfl), (Nat.le_of_ble_eq_true rfl)⟩ dX2_firstDated_18 (fun _ _ z => False.elim z) (fun v9 ws9 h1 => ?_)
  obtain ⟨rfl, hw9⟩ := h1
  subst ws9
  dsimp only [mPush]
  refine r_aload_n hX dX2_firstDated_21 rfl rfl ?_
  refine r_get hX kf_X2_20 0 rfl rfl dX2_firstDated_22 ?_
  refine r_iload_n hX dX2_firstDated_25 rfl rfl ?_
  refine r_callS hX (z_X2_at_ok ad cs _ 3 _ 4 0 rfl (by decide) _ 0 (by omega) (by decide)) ks_X2_84 rfl rfl (Nat.le_of_ble_eq_true rfl) ⟨(Nat.le_of_ble_eq_true rfl), (Nat.le_of_ble_eq_true rfl)⟩ ⟨(Nat.le_of_ble_eq_true rfl), (Nat.le_of_ble_eq_true rfl)⟩ dX2_firstDated_26 (fun _ _ z => False.elim z) (fun v9 ws9 h2 => ?_)
  obtain ⟨rfl, hw9⟩ := h2
  subst ws9
  dsimp only [mPush]
  refine r_callV hX (z_X1_orderTo _ _ (1 + 5) _ _ _ _ (zWd_loc (d := 1) (by decide)) (zrg hS (by decide)) (0 + 5) _ _ _ _ (zWd_loc (d := 0) (by decide)) (zrg hS (by decide))) kv_X2_179 (1 + 5) (zWd_loc (d := 1) (by decide)) rfl rfl rfl (Nat.le_of_ble_eq_true rfl) ⟨(Nat.le_of_ble_eq_true rfl), (Nat.le_of_ble_eq_true rfl)⟩ ⟨(Nat.le_of_ble_eq_true rfl), (Nat.le_of_ble_eq_true rfl)⟩ dX2_firstDated_29 (fun _ _ z => False.elim z) (fun v9 ws9 h3 => ?_)
  obtain ⟨rfl, hw9⟩ := h3
  subst ws9
  dsimp only [mPush]
  have hb3 := zTo_b (sse S 1) (sna S 1) (sow S 1) (sse S 0) (sna S 0) (sow S 0)
  refine r_if_geZ (tgt := 37) hX dX2_firstDated_32 (by decide) (by omega) (fun c4 => ?_) (fun c4 => ?_)
  · refine r_iincZ (z := 1) (y := 2) hX dX2_firstDated_37 rfl (by decide) rfl rfl ?_
    refine r_goto (tgt := 4) hX dX2_firstDated_40 (by decide) ?_
    refine r_iload_n hX dX2_firstDated_4 rfl rfl ?_
    refine r_aload_n hX dX2_firstDated_5 rfl rfl ?_
    refine r_get hX kf_X2_20 0 rfl rfl dX2_firstDated_6 ?_
    refine r_alen (v := iZ 4) hX 3 2 rfl rfl rfl dX2_firstDated_9 ?_
    refine r_icmp_geZ (tgt := 43) hX dX2_firstDated_10 (by decide) (by decide) (by decide) (fun q => absurd q (by decide)) (fun _ => ?_)
    refine r_aload_n hX dX2_firstDated_13 rfl rfl ?_
    refine r_get hX kf_X2_20 0 rfl rfl dX2_firstDated_14 ?_
    refine r_iload_n hX dX2_firstDated_17 rfl rfl ?_
    refine r_callS hX (z_X2_at_ok ad cs _ 3 _ 4 0 rfl (by decide) _ 2 (by omega) (by decide)) ks_X2_84 rfl rfl (Nat.le_of_ble_eq_true rfl) ⟨(Nat.le_of_ble_eq_true rfl), (Nat.le_of_ble_eq_true rfl)⟩ ⟨(Nat.le_of_ble_eq_true rfl), (Nat.le_of_ble_eq_true rfl)⟩ dX2_firstDated_18 (fun _ _ z => False.elim z) (fun v9 ws9 h5 => ?_)
    obtain ⟨rfl, hw9⟩ := h5
    subst ws9
    dsimp only [mPush]
    refine r_aload_n hX dX2_firstDated_21 rfl rfl ?_
    refine r_get hX kf_X2_20 0 rfl rfl dX2_firstDated_22 ?_
    refine r_iload_n hX dX2_firstDated_25 rfl rfl ?_
    refine r_callS hX (z_X2_at_ok ad cs _ 3 _ 4 0 rfl (by decide) _ 0 (by omega) (by decide)) ks_X2_84 rfl rfl (Nat.le_of_ble_eq_true rfl) ⟨(Nat.le_of_ble_eq_true rfl), (Nat.le_of_ble_eq_true rfl)⟩ ⟨(Nat.le_of_ble_eq_true rfl), (Nat.le_of_ble_eq_true rfl)⟩ dX2_firstDated_26 (fun _ _ z => False.elim z) (fun v9 ws9 h6 => ?_)
    obtain ⟨rfl, hw9⟩ := h6
    subst ws9
    dsimp only [mPush]
    refine r_callV hX (z_X1_orderTo _ _ (2 + 5) _ _ _ _ (zWd_loc (d := 2) (by decide)) (zrg hS (by decide)) (0 + 5) _ _ _ _ (zWd_loc (d := 0) (by decide)) (zrg hS (by decide))) kv_X2_179 (2 + 5) (zWd_loc (d := 2) (by decide)) rfl rfl rfl (Nat.le_of_ble_eq_true rfl) ⟨(Nat.le_of_ble_eq_true rfl), (Nat.le_of_ble_eq_true rfl)⟩ ⟨(Nat.le_of_ble_eq_true rfl), (Nat.le_of_ble_eq_true rfl)⟩ dX2_firstDated_29 (fun _ _ z => False.elim z) (fun v9 ws9 h7 => ?_)
    obtain ⟨rfl, hw9⟩ := h7
    subst ws9
    dsimp only [mPush]
    have hb7 := zTo_b (sse S 2) (sna S 2) (sow S 2) (sse S 0) (sna S 0) (sow S 0)
    refine r_if_geZ (tgt := 37) hX dX2_firstDated_32 (by decide) (by omega) (fun c8 => ?_) (fun c8 => ?_)
    · refine r_iincZ (z := 1) (y := 3) hX dX2_firstDated_37 rfl (by decide) rfl rfl ?_
      refine r_goto (tgt := 4) hX dX2_firstDated_40 (by decide) ?_
      refine r_iload_n hX dX2_firstDated_4 rfl rfl ?_
      refine r_aload_n hX dX2_firstDated_5 rfl rfl ?_
      refine r_get hX kf_X2_20 0 rfl rfl dX2_firstDated_6 ?_
      refine r_alen (v := iZ 4) hX 3 2 rfl rfl rfl dX2_firstDated_9 ?_
      refine r_icmp_geZ (tgt := 43) hX dX2_firstDated_10 (by decide) (by decide) (by decide) (fun q => absurd q (by decide)) (fun _ => ?_)
      refine r_aload_n hX dX2_firstDated_13 rfl rfl ?_
      refine r_get hX kf_X2_20 0 rfl rfl dX2_firstDated_14 ?_
      refine r_iload_n hX dX2_firstDated_17 rfl rfl ?_
      refine r_callS hX (z_X2_at_ok ad cs _ 3 _ 4 0 rfl (by decide) _ 3 (by omega) (by decide)) ks_X2_84 rfl rfl (Nat.le_of_ble_eq_true rfl) ⟨(Nat.le_of_ble_eq_true rfl), (Nat.le_of_ble_eq_true rfl)⟩ ⟨(Nat.le_of_ble_eq_true rfl), (Nat.le_of_ble_eq_true rfl)⟩ dX2_firstDated_18 (fun _ _ z => False.elim z) (fun v9 ws9 h9 => ?_)
      obtain ⟨rfl, hw9⟩ := h9
      subst ws9
      dsimp only [mPush]
      refine r_aload_n hX dX2_firstDated_21 rfl rfl ?_
      refine r_get hX kf_X2_20 0 rfl rfl dX2_firstDated_22 ?_
      refine r_iload_n hX dX2_firstDated_25 rfl rfl ?_
      refine r_callS hX (z_X2_at_ok ad cs _ 3 _ 4 0 rfl (by decide) _ 0 (by omega) (by decide)) ks_X2_84 rfl rfl (Nat.le_of_ble_eq_true rfl) ⟨(Nat.le_of_ble_eq_true rfl), (Nat.le_of_ble_eq_true rfl)⟩ ⟨(Nat.le_of_ble_eq_true rfl), (Nat.le_of_ble_eq_true rfl)⟩ dX2_firstDated_26 (fun _ _ z => False.elim z) (fun v9 ws9 h10 => ?_)
      obtain ⟨rfl, hw9⟩ := h10
      subst ws9
      dsimp only [mPush]
      refine r_callV hX (z_X1_orderTo _ _ (3 + 5) _ _ _ _ (zWd_loc (d := 3) (by decide)) (zrg hS (by decide)) (0 + 5) _ _ _ _ (zWd_loc (d := 0) (by decide)) (zrg hS (by decide))) kv_X2_179 (3 + 5) (zWd_loc (d := 3) (by decide)) rfl rfl rfl (Nat.le_of_ble_eq_true rfl) ⟨(Nat.le_of_ble_eq_true rfl), (Nat.le_of_ble_eq_true rfl)⟩ ⟨(Nat.le_of_ble_eq_true rfl), (Nat.le_of_ble_eq_true rfl)⟩ dX2_firstDated_29 (fun _ _ z => False.elim z) (fun v9 ws9 h11 => ?_)
      obtain ⟨rfl, hw9⟩ := h11
      subst ws9
      dsimp only [mPush]
      have hb11 := zTo_b (sse S 3) (sna S 3) (sow S 3) (sse S 0) (sna S 0) (sow S 0)
      refine r_if_geZ (tgt := 37) hX dX2_firstDated_32 (by decide) (by omega) (fun c12 => ?_) (fun c12 => ?_)
      · refine r_iincZ (z := 1) (y := 4) hX dX2_firstDated_37 rfl (by decide) rfl rfl ?_
        refine r_goto (tgt := 4) hX dX2_firstDated_40 (by decide) ?_
        refine r_iload_n hX dX2_firstDated_4 rfl rfl ?_
        refine r_aload_n hX dX2_firstDated_5 rfl rfl ?_
        refine r_get hX kf_X2_20 0 rfl rfl dX2_firstDated_6 ?_
        refine r_alen (v := iZ 4) hX 3 2 rfl rfl rfl dX2_firstDated_9 ?_
        refine r_icmp_geZ (tgt := 43) hX dX2_firstDated_10 (by decide) (by decide) (by decide) (fun _ => ?_) (fun q => absurd (by decide) q)
        refine r_iload_n hX dX2_firstDated_43 rfl rfl ?_
        refine r_iret hX hE dX2_firstDated_44 (Nat.le_of_ble_eq_true rfl) (Nat.le_of_ble_eq_true rfl) ⟨zi ?_, rfl⟩
        have e : zFD S = 0 := zFst_1 (x := false) (a := 0) (y := false) (b := 0) (z := false) (decide_eq_false (by omega)) rfl (decide_eq_false (by omega)) rfl (decide_eq_false (by omega)) rfl
        rw [e]
        rfl
      · refine r_iload_n hX dX2_firstDated_35 rfl rfl ?_
        refine r_istore_n hX dX2_firstDated_36 rfl (by decide) rfl ?_
        refine r_iincZ (z := 1) (y := 4) hX dX2_firstDated_37 rfl (by decide) rfl rfl ?_
        refine r_goto (tgt := 4) hX dX2_firstDated_40 (by decide) ?_
        refine r_iload_n hX dX2_firstDated_4 rfl rfl ?_
        refine r_aload_n hX dX2_firstDated_5 rfl rfl ?_
        refine r_get hX kf_X2_20 0 rfl rfl dX2_firstDated_6 ?_
        refine r_alen (v := iZ 4) hX 3 2 rfl rfl rfl dX2_firstDated_9 ?_
        refine r_icmp_geZ (tgt := 43) hX dX2_firstDated_10 (by decide) (by decide) (by decide) (fun _ => ?_) (fun q => absurd (by decide) q)
        refine r_iload_n hX dX2_firstDated_43 rfl rfl ?_
        refine r_iret hX hE dX2_firstDated_44 (Nat.le_of_ble_eq_true rfl) (Nat.le_of_ble_eq_true rfl) ⟨zi ?_, rfl⟩
        have e : zFD S = 3 := zFst_1 (x := false) (a := 0) (y := false) (b := 0) (z := true) (decide_eq_false (by omega)) rfl (decide_eq_false (by omega)) rfl (decide_eq_true (by omega)) rfl
        rw [e]
        rfl
    · refine r_iload_n hX dX2_firstDated_35 rfl rfl ?_
      refine r_istore_n hX dX2_firstDated_36 rfl (by decide) rfl ?_
      refine r_iincZ (z := 1) (y := 3) hX dX2_firstDated_37 rfl (by decide) rfl rfl ?_
      refine r_goto (tgt := 4) hX dX2_firstDated_40 (by decide) ?_
      refine r_iload_n hX dX2_firstDated_4 rfl rfl ?_
      refine r_aload_n hX dX2_firstDated_5 rfl rfl ?_
      refine r_get hX kf_X2_20 0 rfl rfl dX2_firstDated_6 ?_
      refine r_alen (v := iZ 4) hX 3 2 rfl rfl rfl dX2_firstDated_9 ?_
      refine r_icmp_geZ (tgt := 43) hX dX2_firstDated_10 (by decide) (by decide) (by decide) (fun q => absurd q (by decide)) (fun _ => ?_)
      refine r_aload_n hX dX2_firstDated_13 rfl rfl ?_
      refine r_get hX kf_X2_20 0 rfl rfl dX2_firstDated_14 ?_
      refine r_iload_n hX dX2_firstDated_17 rfl rfl ?_
      refine r_callS hX (z_X2_at_ok ad cs _ 3 _ 4 0 rfl (by decide) _ 3 (by omega) (by decide)) ks_X2_84 rfl rfl (Nat.le_of_ble_eq_true rfl) ⟨(Nat.le_of_ble_eq_true rfl), (Nat.le_of_ble_eq_true rfl)⟩ ⟨(Nat.le_of_ble_eq_true rfl), (Nat.le_of_ble_eq_true rfl)⟩ dX2_firstDated_18 (fun _ _ z => False.elim z) (fun v9 ws9 h13 => ?_)
      obtain ⟨rfl, hw9⟩ := h13
      subst ws9
      dsimp only [mPush]
      refine r_aload_n hX dX2_firstDated_21 rfl rfl ?_
      refine r_get hX kf_X2_20 0 rfl rfl dX2_firstDated_22 ?_
      refine r_iload_n hX dX2_firstDated_25 rfl rfl ?_
      refine r_callS hX (z_X2_at_ok ad cs _ 3 _ 4 0 rfl (by decide) _ 2 (by omega) (by decide)) ks_X2_84 rfl rfl (Nat.le_of_ble_eq_true rfl) ⟨(Nat.le_of_ble_eq_true rfl), (Nat.le_of_ble_eq_true rfl)⟩ ⟨(Nat.le_of_ble_eq_true rfl), (Nat.le_of_ble_eq_true rfl)⟩ dX2_firstDated_26 (fun _ _ z => False.elim z) (fun v9 ws9 h14 => ?_)
      obtain ⟨rfl, hw9⟩ := h14
      subst ws9
      dsimp only [mPush]
      refine r_callV hX (z_X1_orderTo _ _ (3 + 5) _ _ _ _ (zWd_loc (d := 3) (by decide)) (zrg hS (by decide)) (2 + 5) _ _ _ _ (zWd_loc (d := 2) (by decide)) (zrg hS (by decide))) kv_X2_179 (3 + 5) (zWd_loc (d := 3) (by decide)) rfl rfl rfl (Nat.le_of_ble_eq_true rfl) ⟨(Nat.le_of_ble_eq_true rfl), (Nat.le_of_ble_eq_true rfl)⟩ ⟨(Nat.le_of_ble_eq_true rfl), (Nat.le_of_ble_eq_true rfl)⟩ dX2_firstDated_29 (fun _ _ z => False.elim z) (fun v9 ws9 h15 => ?_)
      obtain ⟨rfl, hw9⟩ := h15
      subst ws9
      dsimp only [mPush]
      have hb15 := zTo_b (sse S 3) (sna S 3) (sow S 3) (sse S 2) (sna S 2) (sow S 2)
      refine r_if_geZ (tgt := 37) hX dX2_firstDated_32 (by decide) (by omega) (fun c16 => ?_) (fun c16 => ?_)
      · refine r_iincZ (z := 1) (y := 4) hX dX2_firstDated_37 rfl (by decide) rfl rfl ?_
        refine r_goto (tgt := 4) hX dX2_firstDated_40 (by decide) ?_
        refine r_iload_n hX dX2_firstDated_4 rfl rfl ?_
        refine r_aload_n hX dX2_firstDated_5 rfl rfl ?_
        refine r_get hX kf_X2_20 0 rfl rfl dX2_firstDated_6 ?_
        refine r_alen (v := iZ 4) hX 3 2 rfl rfl rfl dX2_firstDated_9 ?_
        refine r_icmp_geZ (tgt := 43) hX dX2_firstDated_10 (by decide) (by decide) (by decide) (fun _ => ?_) (fun q => absurd (by decide) q)
        refine r_iload_n hX dX2_firstDated_43 rfl rfl ?_
        refine r_iret hX hE dX2_firstDated_44 (Nat.le_of_ble_eq_true rfl) (Nat.le_of_ble_eq_true rfl) ⟨zi ?_, rfl⟩
        have e : zFD S = 2 := zFst_1 (x := false) (a := 0) (y := true) (b := 2) (z := false) (decide_eq_false (by omega)) rfl (decide_eq_true (by omega)) rfl (decide_eq_false (by omega)) rfl
        rw [e]
        rfl
      · refine r_iload_n hX dX2_firstDated_35 rfl rfl ?_
        refine r_istore_n hX dX2_firstDated_36 rfl (by decide) rfl ?_
        refine r_iincZ (z := 1) (y := 4) hX dX2_firstDated_37 rfl (by decide) rfl rfl ?_
        refine r_goto (tgt := 4) hX dX2_firstDated_40 (by decide) ?_
        refine r_iload_n hX dX2_firstDated_4 rfl rfl ?_
        refine r_aload_n hX dX2_firstDated_5 rfl rfl ?_
        refine r_get hX kf_X2_20 0 rfl rfl dX2_firstDated_6 ?_
        refine r_alen (v := iZ 4) hX 3 2 rfl rfl rfl dX2_firstDated_9 ?_
        refine r_icmp_geZ (tgt := 43) hX dX2_firstDated_10 (by decide) (by decide) (by decide) (fun _ => ?_) (fun q => absurd (by decide) q)
        refine r_iload_n hX dX2_firstDated_43 rfl rfl ?_
        refine r_iret hX hE dX2_firstDated_44 (Nat.le_of_ble_eq_true rfl) (Nat.le_of_ble_eq_true rfl) ⟨zi ?_, rfl⟩
        have e : zFD S = 3 := zFst_1 (x := false) (a := 0) (y := true) (b := 2) (z := true) (decide_eq_false (by omega)) rfl (decide_eq_true (by omega)) rfl (decide_eq_true (by omega)) rfl
        rw [e]
        rfl
  · refine r_iload_n hX dX2_firstDated_35 rfl rfl ?_
    refine r_istore_n hX dX2_firstDated_36 rfl (by decide) rfl ?_
    refine r_iincZ (z := 1) (y := 2) hX dX2_firstDated_37 rfl (by decide) rfl rfl ?_
    refine r_goto (tgt := 4) hX dX2_firstDated_40 (by decide) ?_
    refine r_iload_n hX dX2_firstDated_4 rfl rfl ?_
    refine r_aload_n hX dX2_firstDated_5 rfl rfl ?_
    refine r_get hX kf_X2_20 0 rfl rfl dX2_firstDated_6 ?_
    refine r_alen (v := iZ 4) hX 3 2 rfl rfl rfl dX2_firstDated_9 ?_
    refine r_icmp_geZ (tgt := 43) hX dX2_firstDated_10 (by decide) (by decide) (by decide) (fun q => absurd q (by decide)) (fun _ => ?_)
    refine r_aload_n hX dX2_firstDated_13 rfl rfl ?_
    refine r_get hX kf_X2_20 0 rfl rfl dX2_firstDated_14 ?_
    refine r_iload_n hX dX2_firstDated_17 rfl rfl ?_
    refine r_callS hX (z_X2_at_ok ad cs _ 3 _ 4 0 rfl (by decide) _ 2 (by omega) (by decide)) ks_X2_84 rfl rfl (Nat.le_of_ble_eq_true rfl) ⟨(Nat.le_of_ble_eq_true rfl), (Nat.le_of_ble_eq_true rfl)⟩ ⟨(Nat.le_of_ble_eq_true rfl), (Nat.le_of_ble_eq_true rfl)⟩ dX2_firstDated_18 (fun _ _ z => False.elim z) (fun v9 ws9 h17 => ?_)
    obtain ⟨rfl, hw9⟩ := h17
    subst ws9
    dsimp only [mPush]
    refine r_aload_n hX dX2_firstDated_21 rfl rfl ?_
    refine r_get hX kf_X2_20 0 rfl rfl dX2_firstDated_22 ?_
    refine r_iload_n hX dX2_firstDated_25 rfl rfl ?_
    refine r_callS hX (z_X2_at_ok ad cs _ 3 _ 4 0 rfl (by decide) _ 1 (by omega) (by decide)) ks_X2_84 rfl rfl (Nat.le_of_ble_eq_true rfl) ⟨(Nat.le_of_ble_eq_true rfl), (Nat.le_of_ble_eq_true rfl)⟩ ⟨(Nat.le_of_ble_eq_true rfl), (Nat.le_of_ble_eq_true rfl)⟩ dX2_firstDated_26 (fun _ _ z => False.elim z) (fun v9 ws9 h18 => ?_)
    obtain ⟨rfl, hw9⟩ := h18
    subst ws9
    dsimp only [mPush]
    refine r_callV hX (z_X1_orderTo _ _ (2 + 5) _ _ _ _ (zWd_loc (d := 2) (by decide)) (zrg hS (by decide)) (1 + 5) _ _ _ _ (zWd_loc (d := 1) (by decide)) (zrg hS (by decide))) kv_X2_179 (2 + 5) (zWd_loc (d := 2) (by decide)) rfl rfl rfl (Nat.le_of_ble_eq_true rfl) ⟨(Nat.le_of_ble_eq_true rfl), (Nat.le_of_ble_eq_true rfl)⟩ ⟨(Nat.le_of_ble_eq_true rfl), (Nat.le_of_ble_eq_true rfl)⟩ dX2_firstDated_29 (fun _ _ z => False.elim z) (fun v9 ws9 h19 => ?_)
    obtain ⟨rfl, hw9⟩ := h19
    subst ws9
    dsimp only [mPush]
    have hb19 := zTo_b (sse S 2) (sna S 2) (sow S 2) (sse S 1) (sna S 1) (sow S 1)
    refine r_if_geZ (tgt := 37) hX dX2_firstDated_32 (by decide) (by omega) (fun c20 => ?_) (fun c20 => ?_)
    · refine r_iincZ (z := 1) (y := 3) hX dX2_firstDated_37 rfl (by decide) rfl rfl ?_
      refine r_goto (tgt := 4) hX dX2_firstDated_40 (by decide) ?_
      refine r_iload_n hX dX2_firstDated_4 rfl rfl ?_
      refine r_aload_n hX dX2_firstDated_5 rfl rfl ?_
      refine r_get hX kf_X2_20 0 rfl rfl dX2_firstDated_6 ?_
      refine r_alen (v := iZ 4) hX 3 2 rfl rfl rfl dX2_firstDated_9 ?_
      refine r_icmp_geZ (tgt := 43) hX dX2_firstDated_10 (by decide) (by decide) (by decide) (fun q => absurd q (by decide)) (fun _ => ?_)
      refine r_aload_n hX dX2_firstDated_13 rfl rfl ?_
      refine r_get hX kf_X2_20 0 rfl rfl dX2_firstDated_14 ?_
      refine r_iload_n hX dX2_firstDated_17 rfl rfl ?_
      refine r_callS hX (z_X2_at_ok ad cs _ 3 _ 4 0 rfl (by decide) _ 3 (by omega) (by decide)) ks_X2_84 rfl rfl (Nat.le_of_ble_eq_true rfl) ⟨(Nat.le_of_ble_eq_true rfl), (Nat.le_of_ble_eq_true rfl)⟩ ⟨(Nat.le_of_ble_eq_true rfl), (Nat.le_of_ble_eq_true rfl)⟩ dX2_firstDated_18 (fun _ _ z => False.elim z) (fun v9 ws9 h21 => ?_)
      obtain ⟨rfl, hw9⟩ := h21
      subst ws9
      dsimp only [mPush]
      refine r_aload_n hX dX2_firstDated_21 rfl rfl ?_
      refine r_get hX kf_X2_20 0 rfl rfl dX2_firstDated_22 ?_
      refine r_iload_n hX dX2_firstDated_25 rfl rfl ?_
      refine r_callS hX (z_X2_at_ok ad cs _ 3 _ 4 0 rfl (by decide) _ 1 (by omega) (by decide)) ks_X2_84 rfl rfl (Nat.le_of_ble_eq_true rfl) ⟨(Nat.le_of_ble_eq_true rfl), (Nat.le_of_ble_eq_true rfl)⟩ ⟨(Nat.le_of_ble_eq_true rfl), (Nat.le_of_ble_eq_true rfl)⟩ dX2_firstDated_26 (fun _ _ z => False.elim z) (fun v9 ws9 h22 => ?_)
      obtain ⟨rfl, hw9⟩ := h22
      subst ws9
      dsimp only [mPush]
      refine r_callV hX (z_X1_orderTo _ _ (3 + 5) _ _ _ _ (zWd_loc (d := 3) (by decide)) (zrg hS (by decide)) (1 + 5) _ _ _ _ (zWd_loc (d := 1) (by decide)) (zrg hS (by decide))) kv_X2_179 (3 + 5) (zWd_loc (d := 3) (by decide)) rfl rfl rfl (Nat.le_of_ble_eq_true rfl) ⟨(Nat.le_of_ble_eq_true rfl), (Nat.le_of_ble_eq_true rfl)⟩ ⟨(Nat.le_of_ble_eq_true rfl), (Nat.le_of_ble_eq_true rfl)⟩ dX2_firstDated_29 (fun _ _ z => False.elim z) (fun v9 ws9 h23 => ?_)
      obtain ⟨rfl, hw9⟩ := h23
      subst ws9
      dsimp only [mPush]
      have hb23 := zTo_b (sse S 3) (sna S 3) (sow S 3) (sse S 1) (sna S 1) (sow S 1)
      refine r_if_geZ (tgt := 37) hX dX2_firstDated_32 (by decide) (by omega) (fun c24 => ?_) (fun c24 => ?_)
      · refine r_iincZ (z := 1) (y := 4) hX dX2_firstDated_37 rfl (by decide) rfl rfl ?_
        refine r_goto (tgt := 4) hX dX2_firstDated_40 (by decide) ?_
        refine r_iload_n hX dX2_firstDated_4 rfl rfl ?_
        refine r_aload_n hX dX2_firstDated_5 rfl rfl ?_
        refine r_get hX kf_X2_20 0 rfl rfl dX2_firstDated_6 ?_
        refine r_alen (v := iZ 4) hX 3 2 rfl rfl rfl dX2_firstDated_9 ?_
        refine r_icmp_geZ (tgt := 43) hX dX2_firstDated_10 (by decide) (by decide) (by decide) (fun _ => ?_) (fun q => absurd (by decide) q)
        refine r_iload_n hX dX2_firstDated_43 rfl rfl ?_
        refine r_iret hX hE dX2_firstDated_44 (Nat.le_of_ble_eq_true rfl) (Nat.le_of_ble_eq_true rfl) ⟨zi ?_, rfl⟩
        have e : zFD S = 1 := zFst_1 (x := true) (a := 1) (y := false) (b := 1) (z := false) (decide_eq_true (by omega)) rfl (decide_eq_false (by omega)) rfl (decide_eq_false (by omega)) rfl
        rw [e]
        rfl
      · refine r_iload_n hX dX2_firstDated_35 rfl rfl ?_
        refine r_istore_n hX dX2_firstDated_36 rfl (by decide) rfl ?_
        refine r_iincZ (z := 1) (y := 4) hX dX2_firstDated_37 rfl (by decide) rfl rfl ?_
        refine r_goto (tgt := 4) hX dX2_firstDated_40 (by decide) ?_
        refine r_iload_n hX dX2_firstDated_4 rfl rfl ?_
        refine r_aload_n hX dX2_firstDated_5 rfl rfl ?_
        refine r_get hX kf_X2_20 0 rfl rfl dX2_firstDated_6 ?_
        refine r_alen (v := iZ 4) hX 3 2 rfl rfl rfl dX2_firstDated_9 ?_
        refine r_icmp_geZ (tgt := 43) hX dX2_firstDated_10 (by decide) (by decide) (by decide) (fun _ => ?_) (fun q => absurd (by decide) q)
        refine r_iload_n hX dX2_firstDated_43 rfl rfl ?_
        refine r_iret hX hE dX2_firstDated_44 (Nat.le_of_ble_eq_true rfl) (Nat.le_of_ble_eq_true rfl) ⟨zi ?_, rfl⟩
        have e : zFD S = 3 := zFst_1 (x := true) (a := 1) (y := false) (b := 1) (z := true) (decide_eq_true (by omega)) rfl (decide_eq_false (by omega)) rfl (decide_eq_true (by omega)) rfl
        rw [e]
        rfl
    · refine r_iload_n hX dX2_firstDated_35 rfl rfl ?_
      refine r_istore_n hX dX2_firstDated_36 rfl (by decide) rfl ?_
      refine r_iincZ (z := 1) (y := 3) hX dX2_firstDated_37 rfl (by decide) rfl rfl ?_
      refine r_goto (tgt := 4) hX dX2_firstDated_40 (by decide) ?_
      refine r_iload_n hX dX2_firstDated_4 rfl rfl ?_
      refine r_aload_n hX dX2_firstDated_5 rfl rfl ?_
      refine r_get hX kf_X2_20 0 rfl rfl dX2_firstDated_6 ?_
      refine r_alen (v := iZ 4) hX 3 2 rfl rfl rfl dX2_firstDated_9 ?_
      refine r_icmp_geZ (tgt := 43) hX dX2_firstDated_10 (by decide) (by decide) (by decide) (fun q => absurd q (by decide)) (fun _ => ?_)
      refine r_aload_n hX dX2_firstDated_13 rfl rfl ?_
      refine r_get hX kf_X2_20 0 rfl rfl dX2_firstDated_14 ?_
      refine r_iload_n hX dX2_firstDated_17 rfl rfl ?_
      refine r_callS hX (z_X2_at_ok ad cs _ 3 _ 4 0 rfl (by decide) _ 3 (by omega) (by decide)) ks_X2_84 rfl rfl (Nat.le_of_ble_eq_true rfl) ⟨(Nat.le_of_ble_eq_true rfl), (Nat.le_of_ble_eq_true rfl)⟩ ⟨(Nat.le_of_ble_eq_true rfl), (Nat.le_of_ble_eq_true rfl)⟩ dX2_firstDated_18 (fun _ _ z => False.elim z) (fun v9 ws9 h25 => ?_)
      obtain ⟨rfl, hw9⟩ := h25
      subst ws9
      dsimp only [mPush]
      refine r_aload_n hX dX2_firstDated_21 rfl rfl ?_
      refine r_get hX kf_X2_20 0 rfl rfl dX2_firstDated_22 ?_
      refine r_iload_n hX dX2_firstDated_25 rfl rfl ?_
      refine r_callS hX (z_X2_at_ok ad cs _ 3 _ 4 0 rfl (by decide) _ 2 (by omega) (by decide)) ks_X2_84 rfl rfl (Nat.le_of_ble_eq_true rfl) ⟨(Nat.le_of_ble_eq_true rfl), (Nat.le_of_ble_eq_true rfl)⟩ ⟨(Nat.le_of_ble_eq_true rfl), (Nat.le_of_ble_eq_true rfl)⟩ dX2_firstDated_26 (fun _ _ z => False.elim z) (fun v9 ws9 h26 => ?_)
      obtain ⟨rfl, hw9⟩ := h26
      subst ws9
      dsimp only [mPush]
      refine r_callV hX (z_X1_orderTo _ _ (3 + 5) _ _ _ _ (zWd_loc (d := 3) (by decide)) (zrg hS (by decide)) (2 + 5) _ _ _ _ (zWd_loc (d := 2) (by decide)) (zrg hS (by decide))) kv_X2_179 (3 + 5) (zWd_loc (d := 3) (by decide)) rfl rfl rfl (Nat.le_of_ble_eq_true rfl) ⟨(Nat.le_of_ble_eq_true rfl), (Nat.le_of_ble_eq_true rfl)⟩ ⟨(Nat.le_of_ble_eq_true rfl), (Nat.le_of_ble_eq_true rfl)⟩ dX2_firstDated_29 (fun _ _ z => False.elim z) (fun v9 ws9 h27 => ?_)
      obtain ⟨rfl, hw9⟩ := h27
      subst ws9
      dsimp only [mPush]
      have hb27 := zTo_b (sse S 3) (sna S 3) (sow S 3) (sse S 2) (sna S 2) (sow S 2)
      refine r_if_geZ (tgt := 37) hX dX2_firstDated_32 (by decide) (by omega) (fun c28 => ?_) (fun c28 => ?_)
      · refine r_iincZ (z := 1) (y := 4) hX dX2_firstDated_37 rfl (by decide) rfl rfl ?_
        refine r_goto (tgt := 4) hX dX2_firstDated_40 (by decide) ?_
        refine r_iload_n hX dX2_firstDated_4 rfl rfl ?_
        refine r_aload_n hX dX2_firstDated_5 rfl rfl ?_
        refine r_get hX kf_X2_20 0 rfl rfl dX2_firstDated_6 ?_
        refine r_alen (v := iZ 4) hX 3 2 rfl rfl rfl dX2_firstDated_9 ?_
        refine r_icmp_geZ (tgt := 43) hX dX2_firstDated_10 (by decide) (by decide) (by decide) (fun _ => ?_) (fun q => absurd (by decide) q)
        refine r_iload_n hX dX2_firstDated_43 rfl rfl ?_
        refine r_iret hX hE dX2_firstDated_44 (Nat.le_of_ble_eq_true rfl) (Nat.le_of_ble_eq_true rfl) ⟨zi ?_, rfl⟩
        have e : zFD S = 2 := zFst_1 (x := true) (a := 1) (y := true) (b := 2) (z := false) (decide_eq_true (by omega)) rfl (decide_eq_true (by omega)) rfl (decide_eq_false (by omega)) rfl
        rw [e]
        rfl
      · refine r_iload_n hX dX2_firstDated_35 rfl rfl ?_
        refine r_istore_n hX dX2_firstDated_36 rfl (by decide) rfl ?_
        refine r_iincZ (z := 1) (y := 4) hX dX2_firstDated_37 rfl (by decide) rfl rfl ?_
        refine r_goto (tgt := 4) hX dX2_firstDated_40 (by decide) ?_
        refine r_iload_n hX dX2_firstDated_4 rfl rfl ?_
        refine r_aload_n hX dX2_firstDated_5 rfl rfl ?_
        refine r_get hX kf_X2_20 0 rfl rfl dX2_firstDated_6 ?_
        refine r_alen (v := iZ 4) hX 3 2 rfl rfl rfl dX2_firstDated_9 ?_
        refine r_icmp_geZ (tgt := 43) hX dX2_firstDated_10 (by decide) (by decide) (by decide) (fun _ => ?_) (fun q => absurd (by decide) q)
        refine r_iload_n hX dX2_firstDated_43 rfl rfl ?_
        refine r_iret hX hE dX2_firstDated_44 (Nat.le_of_ble_eq_true rfl) (Nat.le_of_ble_eq_true rfl) ⟨zi ?_, rfl⟩
        have e : zFD S = 3 := zFst_1 (x := true) (a := 1) (y := true) (b := 2) (z := true) (decide_eq_true (by omega)) rfl (decide_eq_true (by omega)) rfl (decide_eq_true (by omega)) rfl
        rw [e]
        rfl
set_option maxHeartbeats 4000000 in
set_option maxRecDepth 20000 in
theorem z_X2_house (ad : Nat → Nat) (cs : ClassId × ClassId × ClassId) (S : mS) (T : mT2) (rest : va_W) (hS : sWF S) (a0 : Int) (h0 : rJ a0)  : mCt (mTy cs) yX2_house cX2_house 2 (some .int) ⟨7, 1, 6, 104⟩ [.ref (ad 0), .int (iZ a0)] (mWd ad cs (mKof S T) rest) (fun v ws' => (0 ≤ a0 ∧ a0 ≤ 3) ∧ v = some (.int (zHo S a0)) ∧ ws' = (mWd ad cs (mKof S T) rest)) (fun E ws' => E = xA ∧ ws' = (mWd ad cs (mKof S T) rest) ∧ ¬ (0 ≤ a0 ∧ a0 ≤ 3)) := by
  refine mCt.of (by decide +kernel) (Nat.le_of_ble_eq_true rfl) (fun X hX hE => ?_)
  replace hX : mOK X RX2 cX2_house 2 ⟨7, 1, 6, 104⟩ [] (mTy cs) := hX
  refine r_iload_n hX dX2_house_0 rfl rfl ?_
  refine r_iconstZ hX dX2_house_1 ?_
  refine r_iconstZ hX dX2_house_2 ?_
  refine r_callS hX (z_X2_requireWithin _ _ _ _ _ (by omega) (by omega) (by omega)) ks_X2_40 rfl rfl (Nat.le_of_ble_eq_true rfl) ⟨(Nat.le_of_ble_eq_true rfl), (Nat.le_of_ble_eq_true rfl)⟩ ⟨(Nat.le_of_ble_eq_true rfl), (Nat.le_of_ble_eq_true rfl)⟩ dX2_house_3 (fun E ws9 z => r_out hX hE (Nat.le_of_ble_eq_true rfl) (Nat.le_of_ble_eq_true rfl) ⟨z.1, z.2.1, fun q => z.2.2 (by omega)⟩) (fun v9 ws9 h1 => ?_)
  obtain ⟨hi2, rfl, hw9⟩ := h1
  subst ws9
  dsimp only [mPush]
  refine r_iload_n hX dX2_house_6 rfl rfl ?_
  by_cases s3 : a0 = 0
  · refine r_tableInZ (z := 0) (off := 25) (tgt := 32) hX dX2_house_7 s3 (by decide) (by decide) (by decide) rfl (by decide) ?_
    refine r_aload_n hX dX2_house_32 rfl rfl ?_
    refine r_get hX kf_X2_196 0 rfl rfl dX2_house_33 ?_
    refine r_iret hX hE dX2_house_36 (Nat.le_of_ble_eq_true rfl) (Nat.le_of_ble_eq_true rfl) ⟨by omega, ?_, rfl⟩
    unfold zHo
    rw [if_pos (by omega)]
    try rfl
  by_cases s4 : a0 = 1
  · refine r_tableInZ (z := 1) (off := 30) (tgt := 37) hX dX2_house_7 s4 (by decide) (by decide) (by decide) rfl (by decide) ?_
    refine r_aload_n hX dX2_house_37 rfl rfl ?_
    refine r_get hX kf_X2_199 0 rfl rfl dX2_house_38 ?_
    refine r_iret hX hE dX2_house_41 (Nat.le_of_ble_eq_true rfl) (Nat.le_of_ble_eq_true rfl) ⟨by omega, ?_, rfl⟩
    unfold zHo
    rw [if_neg (by omega)]
    rw [if_pos (by omega)]
    try rfl
  by_cases s5 : a0 = 2
  · refine r_tableInZ (z := 2) (off := 35) (tgt := 42) hX dX2_house_7 s5 (by decide) (by decide) (by decide) rfl (by decide) ?_
    refine r_aload_n hX dX2_house_42 rfl rfl ?_
    refine r_callV hX (z_X2_firstDated ad cs S T rest hS) kv_X2_202 0 rfl rfl rfl rfl (Nat.le_of_ble_eq_true rfl) ⟨(Nat.le_of_ble_eq_true rfl), (Nat.le_of_ble_eq_true rfl)⟩ ⟨(Nat.le_of_ble_eq_true rfl), (Nat.le_of_ble_eq_true rfl)⟩ dX2_house_43 (fun _ _ z => False.elim z) (fun v9 ws9 h6 => ?_)
    obtain ⟨rfl, hw9⟩ := h6
    subst ws9
    dsimp only [mPush]
    refine r_iret hX hE dX2_house_46 (Nat.le_of_ble_eq_true rfl) (Nat.le_of_ble_eq_true rfl) ⟨by omega, ?_, rfl⟩
    unfold zHo
    rw [if_neg (by omega)]
    rw [if_neg (by omega)]
    rw [if_pos (by omega)]
    try rfl
  refine r_tableOutZ (tgt := 47) hX dX2_house_7 (by omega) (by omega) (by decide) ?_
  refine r_aload_n hX dX2_house_47 rfl rfl ?_
  refine r_callV hX (z_X2_firstMoment ad cs S T rest hS) kv_X2_205 0 rfl rfl rfl rfl (Nat.le_of_ble_eq_true rfl) ⟨(Nat.le_of_ble_eq_true rfl), (Nat.le_of_ble_eq_true rfl)⟩ ⟨(Nat.le_of_ble_eq_true rfl), (Nat.le_of_ble_eq_true rfl)⟩ dX2_house_48 (fun _ _ z => False.elim z) (fun v9 ws9 h7 => ?_)
  obtain ⟨rfl, hw9⟩ := h7
  subst ws9
  dsimp only [mPush]
  refine r_iret hX hE dX2_house_51 (Nat.le_of_ble_eq_true rfl) (Nat.le_of_ble_eq_true rfl) ⟨by omega, ?_, rfl⟩
  unfold zHo
  rw [if_neg (by omega)]
  rw [if_neg (by omega)]
  rw [if_neg (by omega)]
  try rfl

