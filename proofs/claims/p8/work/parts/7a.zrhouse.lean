/-! The reference, exact (rows by a program of this repository). -/
set_option maxHeartbeats 4000000 in
set_option maxRecDepth 20000 in
theorem z_X4_houseTold (ad ae : Nat → Nat) (cs : ClassId × ClassId × ClassId) (K : mK) (S : mS) (th : Int32) (rest : va_W) (hS : sWF S) (w : Int) (hw : 0 ≤ w ∧ w ≤ 3)  : mCt (mTy cs) yX4_houseTold cX4_houseTold 5 (some .int) ⟨3, 0, 0, 65⟩ [.ref (ae 0), .int (iZ w)] (mRw ad ae cs K (mJof S th) rest) (fun v ws' => v = some (.int (zHo S w)) ∧ ws' = (mRw ad ae cs K (mJof S th) rest)) mNo := by
  refine mCt.of (by decide +kernel) (Nat.le_of_ble_eq_true rfl) (fun X hX hE => ?_)
  replace hX : mOK X RX4 cX4_houseTold 5 ⟨3, 0, 0, 65⟩ [] (mTy cs) := hX
  have hn0 := hS.2.1 0 (by decide)
  have hn1 := hS.2.1 1 (by decide)
  have hn2 := hS.2.1 2 (by decide)
  have hn3 := hS.2.1 3 (by decide)
  have fin : ∀ (x y : Int), x = (zFD S : Nat) → y = (zFM S : Nat) → mV X 52 [(0, some (.ref (ae 0))), (1, some (.int (iZ w))), (2, some (.int (iZ x))), (3, some (.int (iZ y)))] [] (mRw ad ae cs K (mJof S th) rest) 0 0 := by
    intro x y hx hy
    refine r_iload_n hX dX4_houseTold_52 rfl rfl ?_
    refine r_if_neZ (tgt := 63) hX dX4_houseTold_53 (by decide) (by omega) (fun c1 => ?_) (fun c1 => ?_)
    · refine r_iload_n hX dX4_houseTold_63 rfl rfl ?_
      refine r_iconstZ hX dX4_houseTold_64 ?_
      refine r_icmp_neZ (tgt := 75) hX dX4_houseTold_65 (by decide) (by omega) (by decide) (fun c2 => ?_) (fun c2 => ?_)
      · refine r_iload_n hX dX4_houseTold_75 rfl rfl ?_
        refine r_iconstZ hX dX4_houseTold_76 ?_
        refine r_icmp_neZ (tgt := 84) hX dX4_houseTold_77 (by decide) (by omega) (by decide) (fun c3 => ?_) (fun c3 => ?_)
        · refine r_iload_n hX dX4_houseTold_84 rfl rfl ?_
          refine r_iret hX hE dX4_houseTold_85 (Nat.le_of_ble_eq_true rfl) (Nat.le_of_ble_eq_true rfl) ⟨?_, rfl⟩
          unfold zHo
          rw [if_neg (by omega)]
          rw [if_neg (by omega)]
          rw [if_neg (by omega)]
          rw [hy]
        · refine r_iload_n hX dX4_houseTold_80 rfl rfl ?_
          refine r_goto (tgt := 85) hX dX4_houseTold_81 (by decide) ?_
          refine r_iret hX hE dX4_houseTold_85 (Nat.le_of_ble_eq_true rfl) (Nat.le_of_ble_eq_true rfl) ⟨?_, rfl⟩
          unfold zHo
          rw [if_neg (by omega)]
          rw [if_neg (by omega)]
          rw [if_pos (by omega)]
          rw [hx]
      · refine r_aload_n hX dX4_houseTold_68 rfl rfl ?_
        refine r_get hX kf_X4_33 14 rfl rfl dX4_houseTold_69 ?_
        refine r_goto (tgt := 85) hX dX4_houseTold_72 (by decide) ?_
        refine r_iret hX hE dX4_houseTold_85 (Nat.le_of_ble_eq_true rfl) (Nat.le_of_ble_eq_true rfl) ⟨?_, rfl⟩
        unfold zHo
        rw [if_neg (by omega)]
        rw [if_pos (by omega)]
        try rfl
    · refine r_aload_n hX dX4_houseTold_56 rfl rfl ?_
      refine r_get hX kf_X4_219 14 rfl rfl dX4_houseTold_57 ?_
      refine r_goto (tgt := 85) hX dX4_houseTold_60 (by decide) ?_
      refine r_iret hX hE dX4_houseTold_85 (Nat.le_of_ble_eq_true rfl) (Nat.le_of_ble_eq_true rfl) ⟨?_, rfl⟩
      unfold zHo
      rw [if_pos (by omega)]
      try rfl
  refine r_iconstZ hX dX4_houseTold_0 ?_
  refine r_istore_n hX dX4_houseTold_1 rfl (by decide) rfl ?_
  refine r_iconstZ hX dX4_houseTold_2 ?_
  refine r_istore_n hX dX4_houseTold_3 rfl (by decide) rfl ?_
  refine r_iconstZ hX dX4_houseTold_4 ?_
  refine r_istore hX dX4_houseTold_5 (by decide) rfl ?_
  refine r_iload hX dX4_houseTold_7 rfl ?_
  refine r_iconstZ hX dX4_houseTold_9 ?_
  refine r_icmp_geZ (tgt := 52) hX dX4_houseTold_10 (by decide) (by decide) (by decide) (fun q => absurd q (by decide)) (fun _ => ?_)
  refine r_aload_n hX dX4_houseTold_13 rfl rfl ?_
  refine r_iload hX dX4_houseTold_14 rfl ?_
  refine r_iload_n hX dX4_houseTold_16 rfl rfl ?_
  refine r_callV hX (z_X4_ordered ad ae cs K S th rest hS _ 1 (by omega) (by omega) _ 0 (by omega) (by omega)) kv_X4_196 14 rfl rfl rfl rfl (Nat.le_of_ble_eq_true rfl) ⟨(Nat.le_of_ble_eq_true rfl), (Nat.le_of_ble_eq_true rfl)⟩ ⟨(Nat.le_of_ble_eq_true rfl), (Nat.le_of_ble_eq_true rfl)⟩ dX4_houseTold_17 (fun _ _ z => False.elim z) (fun v9 ws9 h1 => ?_)
  obtain ⟨rfl, hw9⟩ := h1
  subst ws9
  dsimp only [mPush]
  have hto1 := zTo_b (sse S 1) (sna S 1) (sow S 1) (sse S 0) (sna S 0) (sow S 0)
  refine r_if_geZ (tgt := 26) hX dX4_houseTold_20 (by decide) (by omega) (fun c2 => ?_) (fun c2 => ?_)
  · refine r_aload_n hX dX4_houseTold_26 rfl rfl ?_
    refine r_get hX kf_X4_13 14 rfl rfl dX4_houseTold_27 ?_
    refine r_iload hX dX4_houseTold_30 rfl ?_
    refine r_laldZ hX 16 1 rfl rfl 1 (by decide) (by decide) (by decide) dX4_houseTold_32 ?_
    refine r_aload_n hX dX4_houseTold_33 rfl rfl ?_
    refine r_get hX kf_X4_13 14 rfl rfl dX4_houseTold_34 ?_
    refine r_iload_n hX dX4_houseTold_37 rfl rfl ?_
    refine r_laldZ hX 16 1 rfl rfl 0 (by decide) (by decide) (by decide) dX4_houseTold_38 ?_
    refine r_lif_geZ (tgt := 46) hX dX4_houseTold_39 dX4_houseTold_40 (by decide) (by omega) (by omega) (fun c3 => ?_) (fun c3 => ?_)
    · refine r_iincZ (z := 1) (y := 2) hX dX4_houseTold_46 rfl (by decide) rfl rfl ?_
      refine r_goto (tgt := 7) hX dX4_houseTold_49 (by decide) ?_
      refine r_iload hX dX4_houseTold_7 rfl ?_
      refine r_iconstZ hX dX4_houseTold_9 ?_
      refine r_icmp_geZ (tgt := 52) hX dX4_houseTold_10 (by decide) (by decide) (by decide) (fun q => absurd q (by decide)) (fun _ => ?_)
      refine r_aload_n hX dX4_houseTold_13 rfl rfl ?_
      refine r_iload hX dX4_houseTold_14 rfl ?_
      refine r_iload_n hX dX4_houseTold_16 rfl rfl ?_
      refine r_callV hX (z_X4_ordered ad ae cs K S th rest hS _ 2 (by omega) (by omega) _ 0 (by omega) (by omega)) kv_X4_196 14 rfl rfl rfl rfl (Nat.le_of_ble_eq_true rfl) ⟨(Nat.le_of_ble_eq_true rfl), (Nat.le_of_ble_eq_true rfl)⟩ ⟨(Nat.le_of_ble_eq_true rfl), (Nat.le_of_ble_eq_true rfl)⟩ dX4_houseTold_17 (fun _ _ z => False.elim z) (fun v9 ws9 h4 => ?_)
      obtain ⟨rfl, hw9⟩ := h4
      subst ws9
      dsimp only [mPush]
      have hto4 := zTo_b (sse S 2) (sna S 2) (sow S 2) (sse S 0) (sna S 0) (sow S 0)
      refine r_if_geZ (tgt := 26) hX dX4_houseTold_20 (by decide) (by omega) (fun c5 => ?_) (fun c5 => ?_)
      · refine r_aload_n hX dX4_houseTold_26 rfl rfl ?_
        refine r_get hX kf_X4_13 14 rfl rfl dX4_houseTold_27 ?_
        refine r_iload hX dX4_houseTold_30 rfl ?_
        refine r_laldZ hX 16 1 rfl rfl 2 (by decide) (by decide) (by decide) dX4_houseTold_32 ?_
        refine r_aload_n hX dX4_houseTold_33 rfl rfl ?_
        refine r_get hX kf_X4_13 14 rfl rfl dX4_houseTold_34 ?_
        refine r_iload_n hX dX4_houseTold_37 rfl rfl ?_
        refine r_laldZ hX 16 1 rfl rfl 0 (by decide) (by decide) (by decide) dX4_houseTold_38 ?_
        refine r_lif_geZ (tgt := 46) hX dX4_houseTold_39 dX4_houseTold_40 (by decide) (by omega) (by omega) (fun c6 => ?_) (fun c6 => ?_)
        · refine r_iincZ (z := 1) (y := 3) hX dX4_houseTold_46 rfl (by decide) rfl rfl ?_
          refine r_goto (tgt := 7) hX dX4_houseTold_49 (by decide) ?_
          refine r_iload hX dX4_houseTold_7 rfl ?_
          refine r_iconstZ hX dX4_houseTold_9 ?_
          refine r_icmp_geZ (tgt := 52) hX dX4_houseTold_10 (by decide) (by decide) (by decide) (fun q => absurd q (by decide)) (fun _ => ?_)
          refine r_aload_n hX dX4_houseTold_13 rfl rfl ?_
          refine r_iload hX dX4_houseTold_14 rfl ?_
          refine r_iload_n hX dX4_houseTold_16 rfl rfl ?_
          refine r_callV hX (z_X4_ordered ad ae cs K S th rest hS _ 3 (by omega) (by omega) _ 0 (by omega) (by omega)) kv_X4_196 14 rfl rfl rfl rfl (Nat.le_of_ble_eq_true rfl) ⟨(Nat.le_of_ble_eq_true rfl), (Nat.le_of_ble_eq_true rfl)⟩ ⟨(Nat.le_of_ble_eq_true rfl), (Nat.le_of_ble_eq_true rfl)⟩ dX4_houseTold_17 (fun _ _ z => False.elim z) (fun v9 ws9 h7 => ?_)
          obtain ⟨rfl, hw9⟩ := h7
          subst ws9
          dsimp only [mPush]
          have hto7 := zTo_b (sse S 3) (sna S 3) (sow S 3) (sse S 0) (sna S 0) (sow S 0)
          refine r_if_geZ (tgt := 26) hX dX4_houseTold_20 (by decide) (by omega) (fun c8 => ?_) (fun c8 => ?_)
          · refine r_aload_n hX dX4_houseTold_26 rfl rfl ?_
            refine r_get hX kf_X4_13 14 rfl rfl dX4_houseTold_27 ?_
            refine r_iload hX dX4_houseTold_30 rfl ?_
            refine r_laldZ hX 16 1 rfl rfl 3 (by decide) (by decide) (by decide) dX4_houseTold_32 ?_
            refine r_aload_n hX dX4_houseTold_33 rfl rfl ?_
            refine r_get hX kf_X4_13 14 rfl rfl dX4_houseTold_34 ?_
            refine r_iload_n hX dX4_houseTold_37 rfl rfl ?_
            refine r_laldZ hX 16 1 rfl rfl 0 (by decide) (by decide) (by decide) dX4_houseTold_38 ?_
            refine r_lif_geZ (tgt := 46) hX dX4_houseTold_39 dX4_houseTold_40 (by decide) (by omega) (by omega) (fun c9 => ?_) (fun c9 => ?_)
            · refine r_iincZ (z := 1) (y := 4) hX dX4_houseTold_46 rfl (by decide) rfl rfl ?_
              refine r_goto (tgt := 7) hX dX4_houseTold_49 (by decide) ?_
              refine r_iload hX dX4_houseTold_7 rfl ?_
              refine r_iconstZ hX dX4_houseTold_9 ?_
              refine r_icmp_geZ (tgt := 52) hX dX4_houseTold_10 (by decide) (by decide) (by decide) (fun _ => ?_) (fun q => absurd (by decide) q)
              have ed : zFD S = 0 := zFst_1 (x := false) (a := 0) (y := false) (b := 0) (z := false) (decide_eq_false (by omega)) rfl (decide_eq_false (by omega)) rfl (decide_eq_false (by omega)) rfl
              have em : zFM S = 0 := zFst_1 (x := false) (a := 0) (y := false) (b := 0) (z := false) (decide_eq_false (by omega)) rfl (decide_eq_false (by omega)) rfl (decide_eq_false (by omega)) rfl
              exact r_loc (lv' := [(0, some (.ref (ae 0))), (1, some (.int (iZ w))), (2, some (.int (iZ 0))), (3, some (.int (iZ 0)))]) (by exact ⟨rfl, rfl, rfl, rfl, trivial⟩) (Nat.le_refl _) (Nat.le_refl _) (fin 0 0 (by rw [ed]; rfl) (by rw [em]; rfl))
            · refine r_iload hX dX4_houseTold_43 rfl ?_
              refine r_istore_n hX dX4_houseTold_45 rfl (by decide) rfl ?_
              refine r_iincZ (z := 1) (y := 4) hX dX4_houseTold_46 rfl (by decide) rfl rfl ?_
              refine r_goto (tgt := 7) hX dX4_houseTold_49 (by decide) ?_
              refine r_iload hX dX4_houseTold_7 rfl ?_
              refine r_iconstZ hX dX4_houseTold_9 ?_
              refine r_icmp_geZ (tgt := 52) hX dX4_houseTold_10 (by decide) (by decide) (by decide) (fun _ => ?_) (fun q => absurd (by decide) q)
              have ed : zFD S = 0 := zFst_1 (x := false) (a := 0) (y := false) (b := 0) (z := false) (decide_eq_false (by omega)) rfl (decide_eq_false (by omega)) rfl (decide_eq_false (by omega)) rfl
              have em : zFM S = 3 := zFst_1 (x := false) (a := 0) (y := false) (b := 0) (z := true) (decide_eq_false (by omega)) rfl (decide_eq_false (by omega)) rfl (decide_eq_true (by omega)) rfl
              exact r_loc (lv' := [(0, some (.ref (ae 0))), (1, some (.int (iZ w))), (2, some (.int (iZ 0))), (3, some (.int (iZ 3)))]) (by exact ⟨rfl, rfl, rfl, rfl, trivial⟩) (Nat.le_refl _) (Nat.le_refl _) (fin 0 3 (by rw [ed]; rfl) (by rw [em]; rfl))
          · refine r_iload hX dX4_houseTold_23 rfl ?_
            refine r_istore_n hX dX4_houseTold_25 rfl (by decide) rfl ?_
            refine r_aload_n hX dX4_houseTold_26 rfl rfl ?_
            refine r_get hX kf_X4_13 14 rfl rfl dX4_houseTold_27 ?_
            refine r_iload hX dX4_houseTold_30 rfl ?_
            refine r_laldZ hX 16 1 rfl rfl 3 (by decide) (by decide) (by decide) dX4_houseTold_32 ?_
            refine r_aload_n hX dX4_houseTold_33 rfl rfl ?_
            refine r_get hX kf_X4_13 14 rfl rfl dX4_houseTold_34 ?_
            refine r_iload_n hX dX4_houseTold_37 rfl rfl ?_
            refine r_laldZ hX 16 1 rfl rfl 0 (by decide) (by decide) (by decide) dX4_houseTold_38 ?_
            refine r_lif_geZ (tgt := 46) hX dX4_houseTold_39 dX4_houseTold_40 (by decide) (by omega) (by omega) (fun c10 => ?_) (fun c10 => ?_)
            · refine r_iincZ (z := 1) (y := 4) hX dX4_houseTold_46 rfl (by decide) rfl rfl ?_
              refine r_goto (tgt := 7) hX dX4_houseTold_49 (by decide) ?_
              refine r_iload hX dX4_houseTold_7 rfl ?_
              refine r_iconstZ hX dX4_houseTold_9 ?_
              refine r_icmp_geZ (tgt := 52) hX dX4_houseTold_10 (by decide) (by decide) (by decide) (fun _ => ?_) (fun q => absurd (by decide) q)
              have ed : zFD S = 3 := zFst_1 (x := false) (a := 0) (y := false) (b := 0) (z := true) (decide_eq_false (by omega)) rfl (decide_eq_false (by omega)) rfl (decide_eq_true (by omega)) rfl
              have em : zFM S = 0 := zFst_1 (x := false) (a := 0) (y := false) (b := 0) (z := false) (decide_eq_false (by omega)) rfl (decide_eq_false (by omega)) rfl (decide_eq_false (by omega)) rfl
              exact r_loc (lv' := [(0, some (.ref (ae 0))), (1, some (.int (iZ w))), (2, some (.int (iZ 3))), (3, some (.int (iZ 0)))]) (by exact ⟨rfl, rfl, rfl, rfl, trivial⟩) (Nat.le_refl _) (Nat.le_refl _) (fin 3 0 (by rw [ed]; rfl) (by rw [em]; rfl))
            · refine r_iload hX dX4_houseTold_43 rfl ?_
              refine r_istore_n hX dX4_houseTold_45 rfl (by decide) rfl ?_
              refine r_iincZ (z := 1) (y := 4) hX dX4_houseTold_46 rfl (by decide) rfl rfl ?_
              refine r_goto (tgt := 7) hX dX4_houseTold_49 (by decide) ?_
              refine r_iload hX dX4_houseTold_7 rfl ?_
              refine r_iconstZ hX dX4_houseTold_9 ?_
              refine r_icmp_geZ (tgt := 52) hX dX4_houseTold_10 (by decide) (by decide) (by decide) (fun _ => ?_) (fun q => absurd (by decide) q)
              have ed : zFD S = 3 := zFst_1 (x := false) (a := 0) (y := false) (b := 0) (z := true) (decide_eq_false (by omega)) rfl (decide_eq_false (by omega)) rfl (decide_eq_true (by omega)) rfl
              have em : zFM S = 3 := zFst_1 (x := false) (a := 0) (y := false) (b := 0) (z := true) (decide_eq_false (by omega)) rfl (decide_eq_false (by omega)) rfl (decide_eq_true (by omega)) rfl
              exact r_loc (lv' := [(0, some (.ref (ae 0))), (1, some (.int (iZ w))), (2, some (.int (iZ 3))), (3, some (.int (iZ 3)))]) (by exact ⟨rfl, rfl, rfl, rfl, trivial⟩) (Nat.le_refl _) (Nat.le_refl _) (fin 3 3 (by rw [ed]; rfl) (by rw [em]; rfl))
        · refine r_iload hX dX4_houseTold_43 rfl ?_
          refine r_istore_n hX dX4_houseTold_45 rfl (by decide) rfl ?_
          refine r_iincZ (z := 1) (y := 3) hX dX4_houseTold_46 rfl (by decide) rfl rfl ?_
          refine r_goto (tgt := 7) hX dX4_houseTold_49 (by decide) ?_
          refine r_iload hX dX4_houseTold_7 rfl ?_
          refine r_iconstZ hX dX4_houseTold_9 ?_
          refine r_icmp_geZ (tgt := 52) hX dX4_houseTold_10 (by decide) (by decide) (by decide) (fun q => absurd q (by decide)) (fun _ => ?_)
          refine r_aload_n hX dX4_houseTold_13 rfl rfl ?_
          refine r_iload hX dX4_houseTold_14 rfl ?_
          refine r_iload_n hX dX4_houseTold_16 rfl rfl ?_
          refine r_callV hX (z_X4_ordered ad ae cs K S th rest hS _ 3 (by omega) (by omega) _ 0 (by omega) (by omega)) kv_X4_196 14 rfl rfl rfl rfl (Nat.le_of_ble_eq_true rfl) ⟨(Nat.le_of_ble_eq_true rfl), (Nat.le_of_ble_eq_true rfl)⟩ ⟨(Nat.le_of_ble_eq_true rfl), (Nat.le_of_ble_eq_true rfl)⟩ dX4_houseTold_17 (fun _ _ z => False.elim z) (fun v9 ws9 h11 => ?_)
          obtain ⟨rfl, hw9⟩ := h11
          subst ws9
          dsimp only [mPush]
          have hto11 := zTo_b (sse S 3) (sna S 3) (sow S 3) (sse S 0) (sna S 0) (sow S 0)
          refine r_if_geZ (tgt := 26) hX dX4_houseTold_20 (by decide) (by omega) (fun c12 => ?_) (fun c12 => ?_)
          · refine r_aload_n hX dX4_houseTold_26 rfl rfl ?_
            refine r_get hX kf_X4_13 14 rfl rfl dX4_houseTold_27 ?_
            refine r_iload hX dX4_houseTold_30 rfl ?_
            refine r_laldZ hX 16 1 rfl rfl 3 (by decide) (by decide) (by decide) dX4_houseTold_32 ?_
            refine r_aload_n hX dX4_houseTold_33 rfl rfl ?_
            refine r_get hX kf_X4_13 14 rfl rfl dX4_houseTold_34 ?_
            refine r_iload_n hX dX4_houseTold_37 rfl rfl ?_
            refine r_laldZ hX 16 1 rfl rfl 2 (by decide) (by decide) (by decide) dX4_houseTold_38 ?_
            refine r_lif_geZ (tgt := 46) hX dX4_houseTold_39 dX4_houseTold_40 (by decide) (by omega) (by omega) (fun c13 => ?_) (fun c13 => ?_)
            · refine r_iincZ (z := 1) (y := 4) hX dX4_houseTold_46 rfl (by decide) rfl rfl ?_
              refine r_goto (tgt := 7) hX dX4_houseTold_49 (by decide) ?_
              refine r_iload hX dX4_houseTold_7 rfl ?_
              refine r_iconstZ hX dX4_houseTold_9 ?_
              refine r_icmp_geZ (tgt := 52) hX dX4_houseTold_10 (by decide) (by decide) (by decide) (fun _ => ?_) (fun q => absurd (by decide) q)
              have ed : zFD S = 0 := zFst_1 (x := false) (a := 0) (y := false) (b := 0) (z := false) (decide_eq_false (by omega)) rfl (decide_eq_false (by omega)) rfl (decide_eq_false (by omega)) rfl
              have em : zFM S = 2 := zFst_1 (x := false) (a := 0) (y := true) (b := 2) (z := false) (decide_eq_false (by omega)) rfl (decide_eq_true (by omega)) rfl (decide_eq_false (by omega)) rfl
              exact r_loc (lv' := [(0, some (.ref (ae 0))), (1, some (.int (iZ w))), (2, some (.int (iZ 0))), (3, some (.int (iZ 2)))]) (by exact ⟨rfl, rfl, rfl, rfl, trivial⟩) (Nat.le_refl _) (Nat.le_refl _) (fin 0 2 (by rw [ed]; rfl) (by rw [em]; rfl))
            · refine r_iload hX dX4_houseTold_43 rfl ?_
              refine r_istore_n hX dX4_houseTold_45 rfl (by decide) rfl ?_
              refine r_iincZ (z := 1) (y := 4) hX dX4_houseTold_46 rfl (by decide) rfl rfl ?_
              refine r_goto (tgt := 7) hX dX4_houseTold_49 (by decide) ?_
              refine r_iload hX dX4_houseTold_7 rfl ?_
              refine r_iconstZ hX dX4_houseTold_9 ?_
              refine r_icmp_geZ (tgt := 52) hX dX4_houseTold_10 (by decide) (by decide) (by decide) (fun _ => ?_) (fun q => absurd (by decide) q)
              have ed : zFD S = 0 := zFst_1 (x := false) (a := 0) (y := false) (b := 0) (z := false) (decide_eq_false (by omega)) rfl (decide_eq_false (by omega)) rfl (decide_eq_false (by omega)) rfl
              have em : zFM S = 3 := zFst_1 (x := false) (a := 0) (y := true) (b := 2) (z := true) (decide_eq_false (by omega)) rfl (decide_eq_true (by omega)) rfl (decide_eq_true (by omega)) rfl
              exact r_loc (lv' := [(0, some (.ref (ae 0))), (1, some (.int (iZ w))), (2, some (.int (iZ 0))), (3, some (.int (iZ 3)))]) (by exact ⟨rfl, rfl, rfl, rfl, trivial⟩) (Nat.le_refl _) (Nat.le_refl _) (fin 0 3 (by rw [ed]; rfl) (by rw [em]; rfl))
          · refine r_iload hX dX4_houseTold_23 rfl ?_
            refine r_istore_n hX dX4_houseTold_25 rfl (by decide) rfl ?_
            refine r_aload_n hX dX4_houseTold_26 rfl rfl ?_
            refine r_get hX kf_X4_13 14 rfl rfl dX4_houseTold_27 ?_
            refine r_iload hX dX4_houseTold_30 rfl ?_
            refine r_laldZ hX 16 1 rfl rfl 3 (by decide) (by decide) (by decide) dX4_houseTold_32 ?_
            refine r_aload_n hX dX4_houseTold_33 rfl rfl ?_
            refine r_get hX kf_X4_13 14 rfl rfl dX4_houseTold_34 ?_
            refine r_iload_n hX dX4_houseTold_37 rfl rfl ?_
            refine r_laldZ hX 16 1 rfl rfl 2 (by decide) (by decide) (by decide) dX4_houseTold_38 ?_
            refine r_lif_geZ (tgt := 46) hX dX4_houseTold_39 dX4_houseTold_40 (by decide) (by omega) (by omega) (fun c14 => ?_) (fun c14 => ?_)
            · refine r_iincZ (z := 1) (y := 4) hX dX4_houseTold_46 rfl (by decide) rfl rfl ?_
              refine r_goto (tgt := 7) hX dX4_houseTold_49 (by decide) ?_
              refine r_iload hX dX4_houseTold_7 rfl ?_
              refine r_iconstZ hX dX4_houseTold_9 ?_
              refine r_icmp_geZ (tgt := 52) hX dX4_houseTold_10 (by decide) (by decide) (by decide) (fun _ => ?_) (fun q => absurd (by decide) q)
              have ed : zFD S = 3 := zFst_1 (x := false) (a := 0) (y := false) (b := 0) (z := true) (decide_eq_false (by omega)) rfl (decide_eq_false (by omega)) rfl (decide_eq_true (by omega)) rfl
              have em : zFM S = 2 := zFst_1 (x := false) (a := 0) (y := true) (b := 2) (z := false) (decide_eq_false (by omega)) rfl (decide_eq_true (by omega)) rfl (decide_eq_false (by omega)) rfl
              exact r_loc (lv' := [(0, some (.ref (ae 0))), (1, some (.int (iZ w))), (2, some (.int (iZ 3))), (3, some (.int (iZ 2)))]) (by exact ⟨rfl, rfl, rfl, rfl, trivial⟩) (Nat.le_refl _) (Nat.le_refl _) (fin 3 2 (by rw [ed]; rfl) (by rw [em]; rfl))
            · refine r_iload hX dX4_houseTold_43 rfl ?_
              refine r_istore_n hX dX4_houseTold_45 rfl (by decide) rfl ?_
              refine r_iincZ (z := 1) (y := 4) hX dX4_houseTold_46 rfl (by decide) rfl rfl ?_
              refine r_goto (tgt := 7) hX dX4_houseTold_49 (by decide) ?_
              refine r_iload hX dX4_houseTold_7 rfl ?_
              refine r_iconstZ hX dX4_houseTold_9 ?_
              refine r_icmp_geZ (tgt := 52) hX dX4_houseTold_10 (by decide) (by decide) (by decide) (fun _ => ?_) (fun q => absurd (by decide) q)
              have ed : zFD S = 3 := zFst_1 (x := false) (a := 0) (y := false) (b := 0) (z := true) (decide_eq_false (by omega)) rfl (decide_eq_false (by omega)) rfl (decide_eq_true (by omega)) rfl
              have em : zFM S = 3 := zFst_1 (x := false) (a := 0) (y := true) (b := 2) (z := true) (decide_eq_false (by omega)) rfl (decide_eq_true (by omega)) rfl (decide_eq_true (by omega)) rfl
              exact r_loc (lv' := [(0, some (.ref (ae 0))), (1, some (.int (iZ w))), (2, some (.int (iZ 3))), (3, some (.int (iZ 3)))]) (by exact ⟨rfl, rfl, rfl, rfl, trivial⟩) (Nat.le_refl _) (Nat.le_refl _) (fin 3 3 (by rw [ed]; rfl) (by rw [em]; rfl))
      · refine r_iload hX dX4_houseTold_23 rfl ?_
        refine r_istore_n hX dX4_houseTold_25 rfl (by decide) rfl ?_
        refine r_aload_n hX dX4_houseTold_26 rfl rfl ?_
        refine r_get hX kf_X4_13 14 rfl rfl dX4_houseTold_27 ?_
        refine r_iload hX dX4_houseTold_30 rfl ?_
        refine r_laldZ hX 16 1 rfl rfl 2 (by decide) (by decide) (by decide) dX4_houseTold_32 ?_
        refine r_aload_n hX dX4_houseTold_33 rfl rfl ?_
        refine r_get hX kf_X4_13 14 rfl rfl dX4_houseTold_34 ?_
        refine r_iload_n hX dX4_houseTold_37 rfl rfl ?_
        refine r_laldZ hX 16 1 rfl rfl 0 (by decide) (by decide) (by decide) dX4_houseTold_38 ?_
        refine r_lif_geZ (tgt := 46) hX dX4_houseTold_39 dX4_houseTold_40 (by decide) (by omega) (by omega) (fun c15 => ?_) (fun c15 => ?_)
        · refine r_iincZ (z := 1) (y := 3) hX dX4_houseTold_46 rfl (by decide) rfl rfl ?_
          refine r_goto (tgt := 7) hX dX4_houseTold_49 (by decide) ?_
          refine r_iload hX dX4_houseTold_7 rfl ?_
          refine r_iconstZ hX dX4_houseTold_9 ?_
          refine r_icmp_geZ (tgt := 52) hX dX4_houseTold_10 (by decide) (by decide) (by decide) (fun q => absurd q (by decide)) (fun _ => ?_)
          refine r_aload_n hX dX4_houseTold_13 rfl rfl ?_
          refine r_iload hX dX4_houseTold_14 rfl ?_
          refine r_iload_n hX dX4_houseTold_16 rfl rfl ?_
          refine r_callV hX (z_X4_ordered ad ae cs K S th rest hS _ 3 (by omega) (by omega) _ 2 (by omega) (by omega)) kv_X4_196 14 rfl rfl rfl rfl (Nat.le_of_ble_eq_true rfl) ⟨(Nat.le_of_ble_eq_true rfl), (Nat.le_of_ble_eq_true rfl)⟩ ⟨(Nat.le_of_ble_eq_true rfl), (Nat.le_of_ble_eq_true rfl)⟩ dX4_houseTold_17 (fun _ _ z => False.elim z) (fun v9 ws9 h16 => ?_)
          obtain ⟨rfl, hw9⟩ := h16
          subst ws9
          dsimp only [mPush]
          have hto16 := zTo_b (sse S 3) (sna S 3) (sow S 3) (sse S 2) (sna S 2) (sow S 2)
          refine r_if_geZ (tgt := 26) hX dX4_houseTold_20 (by decide) (by omega) (fun c17 => ?_) (fun c17 => ?_)
          · refine r_aload_n hX dX4_houseTold_26 rfl rfl ?_
            refine r_get hX kf_X4_13 14 rfl rfl dX4_houseTold_27 ?_
            refine r_iload hX dX4_houseTold_30 rfl ?_
            refine r_laldZ hX 16 1 rfl rfl 3 (by decide) (by decide) (by decide) dX4_houseTold_32 ?_
            refine r_aload_n hX dX4_houseTold_33 rfl rfl ?_
            refine r_get hX kf_X4_13 14 rfl rfl dX4_houseTold_34 ?_
            refine r_iload_n hX dX4_houseTold_37 rfl rfl ?_
            refine r_laldZ hX 16 1 rfl rfl 0 (by decide) (by decide) (by decide) dX4_houseTold_38 ?_
            refine r_lif_geZ (tgt := 46) hX dX4_houseTold_39 dX4_houseTold_40 (by decide) (by omega) (by omega) (fun c18 => ?_) (fun c18 => ?_)
            · refine r_iincZ (z := 1) (y := 4) hX dX4_houseTold_46 rfl (by decide) rfl rfl ?_
              refine r_goto (tgt := 7) hX dX4_houseTold_49 (by decide) ?_
              refine r_iload hX dX4_houseTold_7 rfl ?_
              refine r_iconstZ hX dX4_houseTold_9 ?_
              refine r_icmp_geZ (tgt := 52) hX dX4_houseTold_10 (by decide) (by decide) (by decide) (fun _ => ?_) (fun q => absurd (by decide) q)
              have ed : zFD S = 2 := zFst_1 (x := false) (a := 0) (y := true) (b := 2) (z := false) (decide_eq_false (by omega)) rfl (decide_eq_true (by omega)) rfl (decide_eq_false (by omega)) rfl
              have em : zFM S = 0 := zFst_1 (x := false) (a := 0) (y := false) (b := 0) (z := false) (decide_eq_false (by omega)) rfl (decide_eq_false (by omega)) rfl (decide_eq_false (by omega)) rfl
              exact r_loc (lv' := [(0, some (.ref (ae 0))), (1, some (.int (iZ w))), (2, some (.int (iZ 2))), (3, some (.int (iZ 0)))]) (by exact ⟨rfl, rfl, rfl, rfl, trivial⟩) (Nat.le_refl _) (Nat.le_refl _) (fin 2 0 (by rw [ed]; rfl) (by rw [em]; rfl))
            · refine r_iload hX dX4_houseTold_43 rfl ?_
              refine r_istore_n hX dX4_houseTold_45 rfl (by decide) rfl ?_
              refine r_iincZ (z := 1) (y := 4) hX dX4_houseTold_46 rfl (by decide) rfl rfl ?_
              refine r_goto (tgt := 7) hX dX4_houseTold_49 (by decide) ?_
              refine r_iload hX dX4_houseTold_7 rfl ?_
              refine r_iconstZ hX dX4_houseTold_9 ?_
              refine r_icmp_geZ (tgt := 52) hX dX4_houseTold_10 (by decide) (by decide) (by decide) (fun _ => ?_) (fun q => absurd (by decide) q)
              have ed : zFD S = 2 := zFst_1 (x := false) (a := 0) (y := true) (b := 2) (z := false) (decide_eq_false (by omega)) rfl (decide_eq_true (by omega)) rfl (decide_eq_false (by omega)) rfl
              have em : zFM S = 3 := zFst_1 (x := false) (a := 0) (y := false) (b := 0) (z := true) (decide_eq_false (by omega)) rfl (decide_eq_false (by omega)) rfl (decide_eq_true (by omega)) rfl
              exact r_loc (lv' := [(0, some (.ref (ae 0))), (1, some (.int (iZ w))), (2, some (.int (iZ 2))), (3, some (.int (iZ 3)))]) (by exact ⟨rfl, rfl, rfl, rfl, trivial⟩) (Nat.le_refl _) (Nat.le_refl _) (fin 2 3 (by rw [ed]; rfl) (by rw [em]; rfl))
          · refine r_iload hX dX4_houseTold_23 rfl ?_
            refine r_istore_n hX dX4_houseTold_25 rfl (by decide) rfl ?_
            refine r_aload_n hX dX4_houseTold_26 rfl rfl ?_
            refine r_get hX kf_X4_13 14 rfl rfl dX4_houseTold_27 ?_
            refine r_iload hX dX4_houseTold_30 rfl ?_
            refine r_laldZ hX 16 1 rfl rfl 3 (by decide) (by decide) (by decide) dX4_houseTold_32 ?_
            refine r_aload_n hX dX4_houseTold_33 rfl rfl ?_
            refine r_get hX kf_X4_13 14 rfl rfl dX4_houseTold_34 ?_
            refine r_iload_n hX dX4_houseTold_37 rfl rfl ?_
            refine r_laldZ hX 16 1 rfl rfl 0 (by decide) (by decide) (by decide) dX4_houseTold_38 ?_
            refine r_lif_geZ (tgt := 46) hX dX4_houseTold_39 dX4_houseTold_40 (by decide) (by omega) (by omega) (fun c19 => ?_) (fun c19 => ?_)
            · refine r_iincZ (z := 1) (y := 4) hX dX4_houseTold_46 rfl (by decide) rfl rfl ?_
              refine r_goto (tgt := 7) hX dX4_houseTold_49 (by decide) ?_
              refine r_iload hX dX4_houseTold_7 rfl ?_
              refine r_iconstZ hX dX4_houseTold_9 ?_
              refine r_icmp_geZ (tgt := 52) hX dX4_houseTold_10 (by decide) (by decide) (by decide) (fun _ => ?_) (fun q => absurd (by decide) q)
              have ed : zFD S = 3 := zFst_1 (x := false) (a := 0) (y := true) (b := 2) (z := true) (decide_eq_false (by omega)) rfl (decide_eq_true (by omega)) rfl (decide_eq_true (by omega)) rfl
              have em : zFM S = 0 := zFst_1 (x := false) (a := 0) (y := false) (b := 0) (z := false) (decide_eq_false (by omega)) rfl (decide_eq_false (by omega)) rfl (decide_eq_false (by omega)) rfl
              exact r_loc (lv' := [(0, some (.ref (ae 0))), (1, some (.int (iZ w))), (2, some (.int (iZ 3))), (3, some (.int (iZ 0)))]) (by exact ⟨rfl, rfl, rfl, rfl, trivial⟩) (Nat.le_refl _) (Nat.le_refl _) (fin 3 0 (by rw [ed]; rfl) (by rw [em]; rfl))
            · refine r_iload hX dX4_houseTold_43 rfl ?_
              refine r_istore_n hX dX4_houseTold_45 rfl (by decide) rfl ?_
              refine r_iincZ (z := 1) (y := 4) hX dX4_houseTold_46 rfl (by decide) rfl rfl ?_
              refine r_goto (tgt := 7) hX dX4_houseTold_49 (by decide) ?_
              refine r_iload hX dX4_houseTold_7 rfl ?_
              refine r_iconstZ hX dX4_houseTold_9 ?_
              refine r_icmp_geZ (tgt := 52) hX dX4_houseTold_10 (by decide) (by decide) (by decide) (fun _ => ?_) (fun q => absurd (by decide) q)
              have ed : zFD S = 3 := zFst_1 (x := false) (a := 0) (y := true) (b := 2) (z := true) (decide_eq_false (by omega)) rfl (decide_eq_true (by omega)) rfl (decide_eq_true (by omega)) rfl
              have em : zFM S = 3 := zFst_1 (x := false) (a := 0) (y := false) (b := 0) (z := true) (decide_eq_false (by omega)) rfl (decide_eq_false (by omega)) rfl (decide_eq_true (by omega)) rfl
              exact r_loc (lv' := [(0, some (.ref (ae 0))), (1, some (.int (iZ w))), (2, some (.int (iZ 3))), (3, some (.int (iZ 3)))]) (by exact ⟨rfl, rfl, rfl, rfl, trivial⟩) (Nat.le_refl _) (Nat.le_refl _) (fin 3 3 (by rw [ed]; rfl) (by rw [em]; rfl))
        · refine r_iload hX dX4_houseTold_43 rfl ?_
          refine r_istore_n hX dX4_houseTold_45 rfl (by decide) rfl ?_
          refine r_iincZ (z := 1) (y := 3) hX dX4_houseTold_46 rfl (by decide) rfl rfl ?_
          refine r_goto (tgt := 7) hX dX4_houseTold_49 (by decide) ?_
          refine r_iload hX dX4_houseTold_7 rfl ?_
          refine r_iconstZ hX dX4_houseTold_9 ?_
          refine r_icmp_geZ (tgt := 52) hX dX4_houseTold_10 (by decide) (by decide) (by decide) (fun q => absurd q (by decide)) (fun _ => ?_)
          refine r_aload_n hX dX4_houseTold_13 rfl rfl ?_
          refine r_iload hX dX4_houseTold_14 rfl ?_
          refine r_iload_n hX dX4_houseTold_16 rfl rfl ?_
          refine r_callV hX (z_X4_ordered ad ae cs K S th rest hS _ 3 (by omega) (by omega) _ 2 (by omega) (by omega)) kv_X4_196 14 rfl rfl rfl rfl (Nat.le_of_ble_eq_true rfl) ⟨(Nat.le_of_ble_eq_true rfl), (Nat.le_of_ble_eq_true rfl)⟩ ⟨(Nat.le_of_ble_eq_true rfl), (Nat.le_of_ble_eq_true rfl)⟩ dX4_houseTold_17 (fun _ _ z => False.elim z) (fun v9 ws9 h20 => ?_)
          obtain ⟨rfl, hw9⟩ := h20
          subst ws9
          dsimp only [mPush]
          have hto20 := zTo_b (sse S 3) (sna S 3) (sow S 3) (sse S 2) (sna S 2) (sow S 2)
          refine r_if_geZ (tgt := 26) hX dX4_houseTold_20 (by decide) (by omega) (fun c21 => ?_) (fun c21 => ?_)
          · refine r_aload_n hX dX4_houseTold_26 rfl rfl ?_
            refine r_get hX kf_X4_13 14 rfl rfl dX4_houseTold_27 ?_
            refine r_iload hX dX4_houseTold_30 rfl ?_
            refine r_laldZ hX 16 1 rfl rfl 3 (by decide) (by decide) (by decide) dX4_houseTold_32 ?_
            refine r_aload_n hX dX4_houseTold_33 rfl rfl ?_
            refine r_get hX kf_X4_13 14 rfl rfl dX4_houseTold_34 ?_
            refine r_iload_n hX dX4_houseTold_37 rfl rfl ?_
            refine r_laldZ hX 16 1 rfl rfl 2 (by decide) (by decide) (by decide) dX4_houseTold_38 ?_
            refine r_lif_geZ (tgt := 46) hX dX4_houseTold_39 dX4_houseTold_40 (by decide) (by omega) (by omega) (fun c22 => ?_) (fun c22 => ?_)
            · refine r_iincZ (z := 1) (y := 4) hX dX4_houseTold_46 rfl (by decide) rfl rfl ?_
              refine r_goto (tgt := 7) hX dX4_houseTold_49 (by decide) ?_
              refine r_iload hX dX4_houseTold_7 rfl ?_
              refine r_iconstZ hX dX4_houseTold_9 ?_
              refine r_icmp_geZ (tgt := 52) hX dX4_houseTold_10 (by decide) (by decide) (by decide) (fun _ => ?_) (fun q => absurd (by decide) q)
              have ed : zFD S = 2 := zFst_1 (x := false) (a := 0) (y := true) (b := 2) (z := false) (decide_eq_false (by omega)) rfl (decide_eq_true (by omega)) rfl (decide_eq_false (by omega)) rfl
              have em : zFM S = 2 := zFst_1 (x := false) (a := 0) (y := true) (b := 2) (z := false) (decide_eq_false (by omega)) rfl (decide_eq_true (by omega)) rfl (decide_eq_false (by omega)) rfl
              exact r_loc (lv' := [(0, some (.ref (ae 0))), (1, some (.int (iZ w))), (2, some (.int (iZ 2))), (3, some (.int (iZ 2)))]) (by exact ⟨rfl, rfl, rfl, rfl, trivial⟩) (Nat.le_refl _) (Nat.le_refl _) (fin 2 2 (by rw [ed]; rfl) (by rw [em]; rfl))
            · refine r_iload hX dX4_houseTold_43 rfl ?_
              refine r_istore_n hX dX4_houseTold_45 rfl (by decide) rfl ?_
              refine r_iincZ (z := 1) (y := 4) hX dX4_houseTold_46 rfl (by decide) rfl rfl ?_
              refine r_goto (tgt := 7) hX dX4_houseTold_49 (by decide) ?_
              refine r_iload hX dX4_houseTold_7 rfl ?_
              refine r_iconstZ hX dX4_houseTold_9 ?_
              refine r_icmp_geZ (tgt := 52) hX dX4_houseTold_10 (by decide) (by decide) (by decide) (fun _ => ?_) (fun q => absurd (by decide) q)
              have ed : zFD S = 2 := zFst_1 (x := false) (a := 0) (y := true) (b := 2) (z := false) (decide_eq_false (by omega)) rfl (decide_eq_true (by omega)) rfl (decide_eq_false (by omega)) rfl
              have em : zFM S = 3 := zFst_1 (x := false) (a := 0) (y := true) (b := 2) (z := true) (decide_eq_false (by omega)) rfl (decide_eq_true (by omega)) rfl (decide_eq_true (by omega)) rfl
              exact r_loc (lv' := [(0, some (.ref (ae 0))), (1, some (.int (iZ w))), (2, some (.int (iZ 2))), (3, some (.int (iZ 3)))]) (by exact ⟨rfl, rfl, rfl, rfl, trivial⟩) (Nat.le_refl _) (Nat.le_refl _) (fin 2 3 (by rw [ed]; rfl) (by rw [em]; rfl))
          · refine r_iload hX dX4_houseTold_23 rfl ?_
            refine r_istore_n hX dX4_houseTold_25 rfl (by decide) rfl ?_
            refine r_aload_n hX dX4_houseTold_26 rfl rfl ?_
            refine r_get hX kf_X4_13 14 rfl rfl dX4_houseTold_27 ?_
            refine r_iload hX dX4_houseTold_30 rfl ?_
            refine r_laldZ hX 16 1 rfl rfl 3 (by decide) (by decide) (by decide) dX4_houseTold_32 ?_
            refine r_aload_n hX dX4_houseTold_33 rfl rfl ?_
            refine r_get hX kf_X4_13 14 rfl rfl dX4_houseTold_34 ?_
            refine r_iload_n hX dX4_houseTold_37 rfl rfl ?_
            refine r_laldZ hX 16 1 rfl rfl 2 (by decide) (by decide) (by decide) dX4_houseTold_38 ?_
            refine r_lif_geZ (tgt := 46) hX dX4_houseTold_39 dX4_houseTold_40 (by decide) (by omega) (by omega) (fun c23 => ?_) (fun c23 => ?_)
            · refine r_iincZ (z := 1) (y := 4) hX dX4_houseTold_46 rfl (by decide) rfl rfl ?_
              refine r_goto (tgt := 7) hX dX4_houseTold_49 (by decide) ?_
              refine r_iload hX dX4_houseTold_7 rfl ?_
              refine r_iconstZ hX dX4_houseTold_9 ?_
              refine r_icmp_geZ (tgt := 52) hX dX4_houseTold_10 (by decide) (by decide) (by decide) (fun _ => ?_) (fun q => absurd (by decide) q)
              have ed : zFD S = 3 := zFst_1 (x := false) (a := 0) (y := true) (b := 2) (z := true) (decide_eq_false (by omega)) rfl (decide_eq_true (by omega)) rfl (decide_eq_true (by omega)) rfl
              have em : zFM S = 2 := zFst_1 (x := false) (a := 0) (y := true) (b := 2) (z := false) (decide_eq_false (by omega)) rfl (decide_eq_true (by omega)) rfl (decide_eq_false (by omega)) rfl
              exact r_loc (lv' := [(0, some (.ref (ae 0))), (1, some (.int (iZ w))), (2, some (.int (iZ 3))), (3, some (.int (iZ 2)))]) (by exact ⟨rfl, rfl, rfl, rfl, trivial⟩) (Nat.le_refl _) (Nat.le_refl _) (fin 3 2 (by rw [ed]; rfl) (by rw [em]; rfl))
            · refine r_iload hX dX4_houseTold_43 rfl ?_
              refine r_istore_n hX dX4_houseTold_45 rfl (by decide) rfl ?_
              refine r_iincZ (z := 1) (y := 4) hX dX4_houseTold_46 rfl (by decide) rfl rfl ?_
              refine r_goto (tgt := 7) hX dX4_houseTold_49 (by decide) ?_
              refine r_iload hX dX4_houseTold_7 rfl ?_
              refine r_iconstZ hX dX4_houseTold_9 ?_
              refine r_icmp_geZ (tgt := 52) hX dX4_houseTold_10 (by decide) (by decide) (by decide) (fun _ => ?_) (fun q => absurd (by decide) q)
              have ed : zFD S = 3 := zFst_1 (x := false) (a := 0) (y := true) (b := 2) (z := true) (decide_eq_false (by omega)) rfl (decide_eq_true (by omega)) rfl (decide_eq_true (by omega)) rfl
              have em : zFM S = 3 := zFst_1 (x := false) (a := 0) (y := true) (b := 2) (z := true) (decide_eq_false (by omega)) rfl (decide_eq_true (by omega)) rfl (decide_eq_true (by omega)) rfl
              exact r_loc (lv' := [(0, some (.ref (ae 0))), (1, some (.int (iZ w))), (2, some (.int (iZ 3))), (3, some (.int (iZ 3)))]) (by exact ⟨rfl, rfl, rfl, rfl, trivial⟩) (Nat.le_refl _) (Nat.le_refl _) (fin 3 3 (by rw [ed]; rfl) (by rw [em]; rfl))
    · refine r_iload hX dX4_houseTold_43 rfl ?_
      refine r_istore_n hX dX4_houseTold_45 rfl (by decide) rfl ?_
      refine r_iincZ (z := 1) (y := 2) hX dX4_houseTold_46 rfl (by decide) rfl rfl ?_
      refine r_goto (tgt := 7) hX dX4_houseTold_49 (by decide) ?_
      refine r_iload hX dX4_houseTold_7 rfl ?_
      refine r_iconstZ hX dX4_houseTold_9 ?_
      refine r_icmp_geZ (tgt := 52) hX dX4_houseTold_10 (by decide) (by decide) (by decide) (fun q => absurd q (by decide)) (fun _ => ?_)
      refine r_aload_n hX dX4_houseTold_13 rfl rfl ?_
      refine r_iload hX dX4_houseTold_14 rfl ?_
      refine r_iload_n hX dX4_houseTold_16 rfl rfl ?_
      refine r_callV hX (z_X4_ordered ad ae cs K S th rest hS _ 2 (by omega) (by omega) _ 0 (by omega) (by omega)) kv_X4_196 14 rfl rfl rfl rfl (Nat.le_of_ble_eq_true rfl) ⟨(Nat.le_of_ble_eq_true rfl), (Nat.le_of_ble_eq_true rfl)⟩ ⟨(Nat.le_of_ble_eq_true rfl), (Nat.le_of_ble_eq_true rfl)⟩ dX4_houseTold_17 (fun _ _ z => False.elim z) (fun v9 ws9 h24 => ?_)
      obtain ⟨rfl, hw9⟩ := h24
      subst ws9
      dsimp only [mPush]
      have hto24 := zTo_b (sse S 2) (sna S 2) (sow S 2) (sse S 0) (sna S 0) (sow S 0)
      refine r_if_geZ (tgt := 26) hX dX4_houseTold_20 (by decide) (by omega) (fun c25 => ?_) (fun c25 => ?_)
      · refine r_aload_n hX dX4_houseTold_26 rfl rfl ?_
        refine r_get hX kf_X4_13 14 rfl rfl dX4_houseTold_27 ?_
        refine r_iload hX dX4_houseTold_30 rfl ?_
        refine r_laldZ hX 16 1 rfl rfl 2 (by decide) (by decide) (by decide) dX4_houseTold_32 ?_
        refine r_aload_n hX dX4_houseTold_33 rfl rfl ?_
        refine r_get hX kf_X4_13 14 rfl rfl dX4_houseTold_34 ?_
        refine r_iload_n hX dX4_houseTold_37 rfl rfl ?_
        refine r_laldZ hX 16 1 rfl rfl 1 (by decide) (by decide) (by decide) dX4_houseTold_38 ?_
        refine r_lif_geZ (tgt := 46) hX dX4_houseTold_39 dX4_houseTold_40 (by decide) (by omega) (by omega) (fun c26 => ?_) (fun c26 => ?_)
        · refine r_iincZ (z := 1) (y := 3) hX dX4_houseTold_46 rfl (by decide) rfl rfl ?_
          refine r_goto (tgt := 7) hX dX4_houseTold_49 (by decide) ?_
          refine r_iload hX dX4_houseTold_7 rfl ?_
          refine r_iconstZ hX dX4_houseTold_9 ?_
          refine r_icmp_geZ (tgt := 52) hX dX4_houseTold_10 (by decide) (by decide) (by decide) (fun q => absurd q (by decide)) (fun _ => ?_)
          refine r_aload_n hX dX4_houseTold_13 rfl rfl ?_
          refine r_iload hX dX4_houseTold_14 rfl ?_
          refine r_iload_n hX dX4_houseTold_16 rfl rfl ?_
          refine r_callV hX (z_X4_ordered ad ae cs K S th rest hS _ 3 (by omega) (by omega) _ 0 (by omega) (by omega)) kv_X4_196 14 rfl rfl rfl rfl (Nat.le_of_ble_eq_true rfl) ⟨(Nat.le_of_ble_eq_true rfl), (Nat.le_of_ble_eq_true rfl)⟩ ⟨(Nat.le_of_ble_eq_true rfl), (Nat.le_of_ble_eq_true rfl)⟩ dX4_houseTold_17 (fun _ _ z => False.elim z) (fun v9 ws9 h27 => ?_)
          obtain ⟨rfl, hw9⟩ := h27
          subst ws9
          dsimp only [mPush]
          have hto27 := zTo_b (sse S 3) (sna S 3) (sow S 3) (sse S 0) (sna S 0) (sow S 0)
          refine r_if_geZ (tgt := 26) hX dX4_houseTold_20 (by decide) (by omega) (fun c28 => ?_) (fun c28 => ?_)
          · refine r_aload_n hX dX4_houseTold_26 rfl rfl ?_
            refine r_get hX kf_X4_13 14 rfl rfl dX4_houseTold_27 ?_
            refine r_iload hX dX4_houseTold_30 rfl ?_
            refine r_laldZ hX 16 1 rfl rfl 3 (by decide) (by decide) (by decide) dX4_houseTold_32 ?_
            refine r_aload_n hX dX4_houseTold_33 rfl rfl ?_
            refine r_get hX kf_X4_13 14 rfl rfl dX4_houseTold_34 ?_
            refine r_iload_n hX dX4_houseTold_37 rfl rfl ?_
            refine r_laldZ hX 16 1 rfl rfl 1 (by decide) (by decide) (by decide) dX4_houseTold_38 ?_
            refine r_lif_geZ (tgt := 46) hX dX4_houseTold_39 dX4_houseTold_40 (by decide) (by omega) (by omega) (fun c29 => ?_) (fun c29 => ?_)
            · refine r_iincZ (z := 1) (y := 4) hX dX4_houseTold_46 rfl (by decide) rfl rfl ?_
              refine r_goto (tgt := 7) hX dX4_houseTold_49 (by decide) ?_
              refine r_iload hX dX4_houseTold_7 rfl ?_
              refine r_iconstZ hX dX4_houseTold_9 ?_
              refine r_icmp_geZ (tgt := 52) hX dX4_houseTold_10 (by decide) (by decide) (by decide) (fun _ => ?_) (fun q => absurd (by decide) q)
              have ed : zFD S = 0 := zFst_1 (x := false) (a := 0) (y := false) (b := 0) (z := false) (decide_eq_false (by omega)) rfl (decide_eq_false (by omega)) rfl (decide_eq_false (by omega)) rfl
              have em : zFM S = 1 := zFst_1 (x := true) (a := 1) (y := false) (b := 1) (z := false) (decide_eq_true (by omega)) rfl (decide_eq_false (by omega)) rfl (decide_eq_false (by omega)) rfl
              exact r_loc (lv' := [(0, some (.ref (ae 0))), (1, some (.int (iZ w))), (2, some (.int (iZ 0))), (3, some (.int (iZ 1)))]) (by exact ⟨rfl, rfl, rfl, rfl, trivial⟩) (Nat.le_refl _) (Nat.le_refl _) (fin 0 1 (by rw [ed]; rfl) (by rw [em]; rfl))
            · refine r_iload hX dX4_houseTold_43 rfl ?_
              refine r_istore_n hX dX4_houseTold_45 rfl (by decide) rfl ?_
              refine r_iincZ (z := 1) (y := 4) hX dX4_houseTold_46 rfl (by decide) rfl rfl ?_
              refine r_goto (tgt := 7) hX dX4_houseTold_49 (by decide) ?_
              refine r_iload hX dX4_houseTold_7 rfl ?_
              refine r_iconstZ hX dX4_houseTold_9 ?_
              refine r_icmp_geZ (tgt := 52) hX dX4_houseTold_10 (by decide) (by decide) (by decide) (fun _ => ?_) (fun q => absurd (by decide) q)
              have ed : zFD S = 0 := zFst_1 (x := false) (a := 0) (y := false) (b := 0) (z := false) (decide_eq_false (by omega)) rfl (decide_eq_false (by omega)) rfl (decide_eq_false (by omega)) rfl
              have em : zFM S = 3 := zFst_1 (x := true) (a := 1) (y := false) (b := 1) (z := true) (decide_eq_true (by omega)) rfl (decide_eq_false (by omega)) rfl (decide_eq_true (by omega)) rfl
              exact r_loc (lv' := [(0, some (.ref (ae 0))), (1, some (.int (iZ w))), (2, some (.int (iZ 0))), (3, some (.int (iZ 3)))]) (by exact ⟨rfl, rfl, rfl, rfl, trivial⟩) (Nat.le_refl _) (Nat.le_refl _) (fin 0 3 (by rw [ed]; rfl) (by rw [em]; rfl))
          · refine r_iload hX dX4_houseTold_23 rfl ?_
            refine r_istore_n hX dX4_houseTold_25 rfl (by decide) rfl ?_
            refine r_aload_n hX dX4_houseTold_26 rfl rfl ?_
            refine r_get hX kf_X4_13 14 rfl rfl dX4_houseTold_27 ?_
            refine r_iload hX dX4_houseTold_30 rfl ?_
            refine r_laldZ hX 16 1 rfl rfl 3 (by decide) (by decide) (by decide) dX4_houseTold_32 ?_
            refine r_aload_n hX dX4_houseTold_33 rfl rfl ?_
            refine r_get hX kf_X4_13 14 rfl rfl dX4_houseTold_34 ?_
            refine r_iload_n hX dX4_houseTold_37 rfl rfl ?_
            refine r_laldZ hX 16 1 rfl rfl 1 (by decide) (by decide) (by decide) dX4_houseTold_38 ?_
            refine r_lif_geZ (tgt := 46) hX dX4_houseTold_39 dX4_houseTold_40 (by decide) (by omega) (by omega) (fun c30 => ?_) (fun c30 => ?_)
            · refine r_iincZ (z := 1) (y := 4) hX dX4_houseTold_46 rfl (by decide) rfl rfl ?_
              refine r_goto (tgt := 7) hX dX4_houseTold_49 (by decide) ?_
              refine r_iload hX dX4_houseTold_7 rfl ?_
              refine r_iconstZ hX dX4_houseTold_9 ?_
              refine r_icmp_geZ (tgt := 52) hX dX4_houseTold_10 (by decide) (by decide) (by decide) (fun _ => ?_) (fun q => absurd (by decide) q)
              have ed : zFD S = 3 := zFst_1 (x := false) (a := 0) (y := false) (b := 0) (z := true) (decide_eq_false (by omega)) rfl (decide_eq_false (by omega)) rfl (decide_eq_true (by omega)) rfl
              have em : zFM S = 1 := zFst_1 (x := true) (a := 1) (y := false) (b := 1) (z := false) (decide_eq_true (by omega)) rfl (decide_eq_false (by omega)) rfl (decide_eq_false (by omega)) rfl
              exact r_loc (lv' := [(0, some (.ref (ae 0))), (1, some (.int (iZ w))), (2, some (.int (iZ 3))), (3, some (.int (iZ 1)))]) (by exact ⟨rfl, rfl, rfl, rfl, trivial⟩) (Nat.le_refl _) (Nat.le_refl _) (fin 3 1 (by rw [ed]; rfl) (by rw [em]; rfl))
            · refine r_iload hX dX4_houseTold_43 rfl ?_
              refine r_istore_n hX dX4_houseTold_45 rfl (by decide) rfl ?_
              refine r_iincZ (z := 1) (y := 4) hX dX4_houseTold_46 rfl (by decide) rfl rfl ?_
              refine r_goto (tgt := 7) hX dX4_houseTold_49 (by decide) ?_
              refine r_iload hX dX4_houseTold_7 rfl ?_
              refine r_iconstZ hX dX4_houseTold_9 ?_
              refine r_icmp_geZ (tgt := 52) hX dX4_houseTold_10 (by decide) (by decide) (by decide) (fun _ => ?_) (fun q => absurd (by decide) q)
              have ed : zFD S = 3 := zFst_1 (x := false) (a := 0) (y := false) (b := 0) (z := true) (decide_eq_false (by omega)) rfl (decide_eq_false (by omega)) rfl (decide_eq_true (by omega)) rfl
              have em : zFM S = 3 := zFst_1 (x := true) (a := 1) (y := false) (b := 1) (z := true) (decide_eq_true (by omega)) rfl (decide_eq_false (by omega)) rfl (decide_eq_true (by omega)) rfl
              exact r_loc (lv' := [(0, some (.ref (ae 0))), (1, some (.int (iZ w))), (2, some (.int (iZ 3))), (3, some (.int (iZ 3)))]) (by exact ⟨rfl, rfl, rfl, rfl, trivial⟩) (Nat.le_refl _) (Nat.le_refl _) (fin 3 3 (by rw [ed]; rfl) (by rw [em]; rfl))
        · refine r_iload hX dX4_houseTold_43 rfl ?_
          refine r_istore_n hX dX4_houseTold_45 rfl (by decide) rfl ?_
          refine r_iincZ (z := 1) (y := 3) hX dX4_houseTold_46 rfl (by decide) rfl rfl ?_
          refine r_goto (tgt := 7) hX dX4_houseTold_49 (by decide) ?_
          refine r_iload hX dX4_houseTold_7 rfl ?_
          refine r_iconstZ hX dX4_houseTold_9 ?_
          refine r_icmp_geZ (tgt := 52) hX dX4_houseTold_10 (by decide) (by decide) (by decide) (fun q => absurd q (by decide)) (fun _ => ?_)
          refine r_aload_n hX dX4_houseTold_13 rfl rfl ?_
          refine r_iload hX dX4_houseTold_14 rfl ?_
          refine r_iload_n hX dX4_houseTold_16 rfl rfl ?_
          refine r_callV hX (z_X4_ordered ad ae cs K S th rest hS _ 3 (by omega) (by omega) _ 0 (by omega) (by omega)) kv_X4_196 14 rfl rfl rfl rfl (Nat.le_of_ble_eq_true rfl) ⟨(Nat.le_of_ble_eq_true rfl), (Nat.le_of_ble_eq_true rfl)⟩ ⟨(Nat.le_of_ble_eq_true rfl), (Nat.le_of_ble_eq_true rfl)⟩ dX4_houseTold_17 (fun _ _ z => False.elim z) (fun v9 ws9 h31 => ?_)
          obtain ⟨rfl, hw9⟩ := h31
          subst ws9
          dsimp only [mPush]
          have hto31 := zTo_b (sse S 3) (sna S 3) (sow S 3) (sse S 0) (sna S 0) (sow S 0)
          refine r_if_geZ (tgt := 26) hX dX4_houseTold_20 (by decide) (by omega) (fun c32 => ?_) (fun c32 => ?_)
          · refine r_aload_n hX dX4_houseTold_26 rfl rfl ?_
            refine r_get hX kf_X4_13 14 rfl rfl dX4_houseTold_27 ?_
            refine r_iload hX dX4_houseTold_30 rfl ?_
            refine r_laldZ hX 16 1 rfl rfl 3 (by decide) (by decide) (by decide) dX4_houseTold_32 ?_
            refine r_aload_n hX dX4_houseTold_33 rfl rfl ?_
            refine r_get hX kf_X4_13 14 rfl rfl dX4_houseTold_34 ?_
            refine r_iload_n hX dX4_houseTold_37 rfl rfl ?_
            refine r_laldZ hX 16 1 rfl rfl 2 (by decide) (by decide) (by decide) dX4_houseTold_38 ?_
            refine r_lif_geZ (tgt := 46) hX dX4_houseTold_39 dX4_houseTold_40 (by decide) (by omega) (by omega) (fun c33 => ?_) (fun c33 => ?_)
            · refine r_iincZ (z := 1) (y := 4) hX dX4_houseTold_46 rfl (by decide) rfl rfl ?_
              refine r_goto (tgt := 7) hX dX4_houseTold_49 (by decide) ?_
              refine r_iload hX dX4_houseTold_7 rfl ?_
              refine r_iconstZ hX dX4_houseTold_9 ?_
              refine r_icmp_geZ (tgt := 52) hX dX4_houseTold_10 (by decide) (by decide) (by decide) (fun _ => ?_) (fun q => absurd (by decide) q)
              have ed : zFD S = 0 := zFst_1 (x := false) (a := 0) (y := false) (b := 0) (z := false) (decide_eq_false (by omega)) rfl (decide_eq_false (by omega)) rfl (decide_eq_false (by omega)) rfl
              have em : zFM S = 2 := zFst_1 (x := true) (a := 1) (y := true) (b := 2) (z := false) (decide_eq_true (by omega)) rfl (decide_eq_true (by omega)) rfl (decide_eq_false (by omega)) rfl
              exact r_loc (lv' := [(0, some (.ref (ae 0))), (1, some (.int (iZ w))), (2, some (.int (iZ 0))), (3, some (.int (iZ 2)))]) (by exact ⟨rfl, rfl, rfl, rfl, trivial⟩) (Nat.le_refl _) (Nat.le_refl _) (fin 0 2 (by rw [ed]; rfl) (by rw [em]; rfl))
            · refine r_iload hX dX4_houseTold_43 rfl ?_
              refine r_istore_n hX dX4_houseTold_45 rfl (by decide) rfl ?_
              refine r_iincZ (z := 1) (y := 4) hX dX4_houseTold_46 rfl (by decide) rfl rfl ?_
              refine r_goto (tgt := 7) hX dX4_houseTold_49 (by decide) ?_
              refine r_iload hX dX4_houseTold_7 rfl ?_
              refine r_iconstZ hX dX4_houseTold_9 ?_
              refine r_icmp_geZ (tgt := 52) hX dX4_houseTold_10 (by decide) (by decide) (by decide) (fun _ => ?_) (fun q => absurd (by decide) q)
              have ed : zFD S = 0 := zFst_1 (x := false) (a := 0) (y := false) (b := 0) (z := false) (decide_eq_false (by omega)) rfl (decide_eq_false (by omega)) rfl (decide_eq_false (by omega)) rfl
              have em : zFM S = 3 := zFst_1 (x := true) (a := 1) (y := true) (b := 2) (z := true) (decide_eq_true (by omega)) rfl (decide_eq_true (by omega)) rfl (decide_eq_true (by omega)) rfl
              exact r_loc (lv' := [(0, some (.ref (ae 0))), (1, some (.int (iZ w))), (2, some (.int (iZ 0))), (3, some (.int (iZ 3)))]) (by exact ⟨rfl, rfl, rfl, rfl, trivial⟩) (Nat.le_refl _) (Nat.le_refl _) (fin 0 3 (by rw [ed]; rfl) (by rw [em]; rfl))
          · refine r_iload hX dX4_houseTold_23 rfl ?_
            refine r_istore_n hX dX4_houseTold_25 rfl (by decide) rfl ?_
            refine r_aload_n hX dX4_houseTold_26 rfl rfl ?_
            refine r_get hX kf_X4_13 14 rfl rfl dX4_houseTold_27 ?_
            refine r_iload hX dX4_houseTold_30 rfl ?_
            refine r_laldZ hX 16 1 rfl rfl 3 (by decide) (by decide) (by decide) dX4_houseTold_32 ?_
            refine r_aload_n hX dX4_houseTold_33 rfl rfl ?_
            refine r_get hX kf_X4_13 14 rfl rfl dX4_houseTold_34 ?_
            refine r_iload_n hX dX4_houseTold_37 rfl rfl ?_
            refine r_laldZ hX 16 1 rfl rfl 2 (by decide) (by decide) (by decide) dX4_houseTold_38 ?_
            refine r_lif_geZ (tgt := 46) hX dX4_houseTold_39 dX4_houseTold_40 (by decide) (by omega) (by omega) (fun c34 => ?_) (fun c34 => ?_)
            · refine r_iincZ (z := 1) (y := 4) hX dX4_houseTold_46 rfl (by decide) rfl rfl ?_
              refine r_goto (tgt := 7) hX dX4_houseTold_49 (by decide) ?_
              refine r_iload hX dX4_houseTold_7 rfl ?_
              refine r_iconstZ hX dX4_houseTold_9 ?_
              refine r_icmp_geZ (tgt := 52) hX dX4_houseTold_10 (by decide) (by decide) (by decide) (fun _ => ?_) (fun q => absurd (by decide) q)
              have ed : zFD S = 3 := zFst_1 (x := false) (a := 0) (y := false) (b := 0) (z := true) (decide_eq_false (by omega)) rfl (decide_eq_false (by omega)) rfl (decide_eq_true (by omega)) rfl
              have em : zFM S = 2 := zFst_1 (x := true) (a := 1) (y := true) (b := 2) (z := false) (decide_eq_true (by omega)) rfl (decide_eq_true (by omega)) rfl (decide_eq_false (by omega)) rfl
              exact r_loc (lv' := [(0, some (.ref (ae 0))), (1, some (.int (iZ w))), (2, some (.int (iZ 3))), (3, some (.int (iZ 2)))]) (by exact ⟨rfl, rfl, rfl, rfl, trivial⟩) (Nat.le_refl _) (Nat.le_refl _) (fin 3 2 (by rw [ed]; rfl) (by rw [em]; rfl))
            · refine r_iload hX dX4_houseTold_43 rfl ?_
              refine r_istore_n hX dX4_houseTold_45 rfl (by decide) rfl ?_
              refine r_iincZ (z := 1) (y := 4) hX dX4_houseTold_46 rfl (by decide) rfl rfl ?_
              refine r_goto (tgt := 7) hX dX4_houseTold_49 (by decide) ?_
              refine r_iload hX dX4_houseTold_7 rfl ?_
              refine r_iconstZ hX dX4_houseTold_9 ?_
              refine r_icmp_geZ (tgt := 52) hX dX4_houseTold_10 (by decide) (by decide) (by decide) (fun _ => ?_) (fun q => absurd (by decide) q)
              have ed : zFD S = 3 := zFst_1 (x := false) (a := 0) (y := false) (b := 0) (z := true) (decide_eq_false (by omega)) rfl (decide_eq_false (by omega)) rfl (decide_eq_true (by omega)) rfl
              have em : zFM S = 3 := zFst_1 (x := true) (a := 1) (y := true) (b := 2) (z := true) (decide_eq_true (by omega)) rfl (decide_eq_true (by omega)) rfl (decide_eq_true (by omega)) rfl
              exact r_loc (lv' := [(0, some (.ref (ae 0))), (1, some (.int (iZ w))), (2, some (.int (iZ 3))), (3, some (.int (iZ 3)))]) (by exact ⟨rfl, rfl, rfl, rfl, trivial⟩) (Nat.le_refl _) (Nat.le_refl _) (fin 3 3 (by rw [ed]; rfl) (by rw [em]; rfl))
      · refine r_iload hX dX4_houseTold_23 rfl ?_
        refine r_istore_n hX dX4_houseTold_25 rfl (by decide) rfl ?_
        refine r_aload_n hX dX4_houseTold_26 rfl rfl ?_
        refine r_get hX kf_X4_13 14 rfl rfl dX4_houseTold_27 ?_
        refine r_iload hX dX4_houseTold_30 rfl ?_
        refine r_laldZ hX 16 1 rfl rfl 2 (by decide) (by decide) (by decide) dX4_houseTold_32 ?_
        refine r_aload_n hX dX4_houseTold_33 rfl rfl ?_
        refine r_get hX kf_X4_13 14 rfl rfl dX4_houseTold_34 ?_
        refine r_iload_n hX dX4_houseTold_37 rfl rfl ?_
        refine r_laldZ hX 16 1 rfl rfl 1 (by decide) (by decide) (by decide) dX4_houseTold_38 ?_
        refine r_lif_geZ (tgt := 46) hX dX4_houseTold_39 dX4_houseTold_40 (by decide) (by omega) (by omega) (fun c35 => ?_) (fun c35 => ?_)
        · refine r_iincZ (z := 1) (y := 3) hX dX4_houseTold_46 rfl (by decide) rfl rfl ?_
          refine r_goto (tgt := 7) hX dX4_houseTold_49 (by decide) ?_
          refine r_iload hX dX4_houseTold_7 rfl ?_
          refine r_iconstZ hX dX4_houseTold_9 ?_
          refine r_icmp_geZ (tgt := 52) hX dX4_houseTold_10 (by decide) (by decide) (by decide) (fun q => absurd q (by decide)) (fun _ => ?_)
          refine r_aload_n hX dX4_houseTold_13 rfl rfl ?_
          refine r_iload hX dX4_houseTold_14 rfl ?_
          refine r_iload_n hX dX4_houseTold_16 rfl rfl ?_
          refine r_callV hX (z_X4_ordered ad ae cs K S th rest hS _ 3 (by omega) (by omega) _ 2 (by omega) (by omega)) kv_X4_196 14 rfl rfl rfl rfl (Nat.le_of_ble_eq_true rfl) ⟨(Nat.le_of_ble_eq_true rfl), (Nat.le_of_ble_eq_true rfl)⟩ ⟨(Nat.le_of_ble_eq_true rfl), (Nat.le_of_ble_eq_true rfl)⟩ dX4_houseTold_17 (fun _ _ z => False.elim z) (fun v9 ws9 h36 => ?_)
          obtain ⟨rfl, hw9⟩ := h36
          subst ws9
          dsimp only [mPush]
          have hto36 := zTo_b (sse S 3) (sna S 3) (sow S 3) (sse S 2) (sna S 2) (sow S 2)
          refine r_if_geZ (tgt := 26) hX dX4_houseTold_20 (by decide) (by omega) (fun c37 => ?_) (fun c37 => ?_)
          · refine r_aload_n hX dX4_houseTold_26 rfl rfl ?_
            refine r_get hX kf_X4_13 14 rfl rfl dX4_houseTold_27 ?_
            refine r_iload hX dX4_houseTold_30 rfl ?_
            refine r_laldZ hX 16 1 rfl rfl 3 (by decide) (by decide) (by decide) dX4_houseTold_32 ?_
            refine r_aload_n hX dX4_houseTold_33 rfl rfl ?_
            refine r_get hX kf_X4_13 14 rfl rfl dX4_houseTold_34 ?_
            refine r_iload_n hX dX4_houseTold_37 rfl rfl ?_
            refine r_laldZ hX 16 1 rfl rfl 1 (by decide) (by decide) (by decide) dX4_houseTold_38 ?_
            refine r_lif_geZ (tgt := 46) hX dX4_houseTold_39 dX4_houseTold_40 (by decide) (by omega) (by omega) (fun c38 => ?_) (fun c38 => ?_)
            · refine r_iincZ (z := 1) (y := 4) hX dX4_houseTold_46 rfl (by decide) rfl rfl ?_
              refine r_goto (tgt := 7) hX dX4_houseTold_49 (by decide) ?_
              refine r_iload hX dX4_houseTold_7 rfl ?_
              refine r_iconstZ hX dX4_houseTold_9 ?_
              refine r_icmp_geZ (tgt := 52) hX dX4_houseTold_10 (by decide) (by decide) (by decide) (fun _ => ?_) (fun q => absurd (by decide) q)
              have ed : zFD S = 2 := zFst_1 (x := false) (a := 0) (y := true) (b := 2) (z := false) (decide_eq_false (by omega)) rfl (decide_eq_true (by omega)) rfl (decide_eq_false (by omega)) rfl
              have em : zFM S = 1 := zFst_1 (x := true) (a := 1) (y := false) (b := 1) (z := false) (decide_eq_true (by omega)) rfl (decide_eq_false (by omega)) rfl (decide_eq_false (by omega)) rfl
              exact r_loc (lv' := [(0, some (.ref (ae 0))), (1, some (.int (iZ w))), (2, some (.int (iZ 2))), (3, some (.int (iZ 1)))]) (by exact ⟨rfl, rfl, rfl, rfl, trivial⟩) (Nat.le_refl _) (Nat.le_refl _) (fin 2 1 (by rw [ed]; rfl) (by rw [em]; rfl))
            · refine r_iload hX dX4_houseTold_43 rfl ?_
              refine r_istore_n hX dX4_houseTold_45 rfl (by decide) rfl ?_
              refine r_iincZ (z := 1) (y := 4) hX dX4_houseTold_46 rfl (by decide) rfl rfl ?_
              refine r_goto (tgt := 7) hX dX4_houseTold_49 (by decide) ?_
              refine r_iload hX dX4_houseTold_7 rfl ?_
              refine r_iconstZ hX dX4_houseTold_9 ?_
              refine r_icmp_geZ (tgt := 52) hX dX4_houseTold_10 (by decide) (by decide) (by decide) (fun _ => ?_) (fun q => absurd (by decide) q)
              have ed : zFD S = 2 := zFst_1 (x := false) (a := 0) (y := true) (b := 2) (z := false) (decide_eq_false (by omega)) rfl (decide_eq_true (by omega)) rfl (decide_eq_false (by omega)) rfl
              have em : zFM S = 3 := zFst_1 (x := true) (a := 1) (y := false) (b := 1) (z := true) (decide_eq_true (by omega)) rfl (decide_eq_false (by omega)) rfl (decide_eq_true (by omega)) rfl
              exact r_loc (lv' := [(0, some (.ref (ae 0))), (1, some (.int (iZ w))), (2, some (.int (iZ 2))), (3, some (.int (iZ 3)))]) (by exact ⟨rfl, rfl, rfl, rfl, trivial⟩) (Nat.le_refl _) (Nat.le_refl _) (fin 2 3 (by rw [ed]; rfl) (by rw [em]; rfl))
          · refine r_iload hX dX4_houseTold_23 rfl ?_
            refine r_istore_n hX dX4_houseTold_25 rfl (by decide) rfl ?_
            refine r_aload_n hX dX4_houseTold_26 rfl rfl ?_
            refine r_get hX kf_X4_13 14 rfl rfl dX4_houseTold_27 ?_
            refine r_iload hX dX4_houseTold_30 rfl ?_
            refine r_laldZ hX 16 1 rfl rfl 3 (by decide) (by decide) (by decide) dX4_houseTold_32 ?_
            refine r_aload_n hX dX4_houseTold_33 rfl rfl ?_
            refine r_get hX kf_X4_13 14 rfl rfl dX4_houseTold_34 ?_
            refine r_iload_n hX dX4_houseTold_37 rfl rfl ?_
            refine r_laldZ hX 16 1 rfl rfl 1 (by decide) (by decide) (by decide) dX4_houseTold_38 ?_
            refine r_lif_geZ (tgt := 46) hX dX4_houseTold_39 dX4_houseTold_40 (by decide) (by omega) (by omega) (fun c39 => ?_) (fun c39 => ?_)
            · refine r_iincZ (z := 1) (y := 4) hX dX4_houseTold_46 rfl (by decide) rfl rfl ?_
              refine r_goto (tgt := 7) hX dX4_houseTold_49 (by decide) ?_
              refine r_iload hX dX4_houseTold_7 rfl ?_
              refine r_iconstZ hX dX4_houseTold_9 ?_
              refine r_icmp_geZ (tgt := 52) hX dX4_houseTold_10 (by decide) (by decide) (by decide) (fun _ => ?_) (fun q => absurd (by decide) q)
              have ed : zFD S = 3 := zFst_1 (x := false) (a := 0) (y := true) (b := 2) (z := true) (decide_eq_false (by omega)) rfl (decide_eq_true (by omega)) rfl (decide_eq_true (by omega)) rfl
              have em : zFM S = 1 := zFst_1 (x := true) (a := 1) (y := false) (b := 1) (z := false) (decide_eq_true (by omega)) rfl (decide_eq_false (by omega)) rfl (decide_eq_false (by omega)) rfl
              exact r_loc (lv' := [(0, some (.ref (ae 0))), (1, some (.int (iZ w))), (2, some (.int (iZ 3))), (3, some (.int (iZ 1)))]) (by exact ⟨rfl, rfl, rfl, rfl, trivial⟩) (Nat.le_refl _) (Nat.le_refl _) (fin 3 1 (by rw [ed]; rfl) (by rw [em]; rfl))
            · refine r_iload hX dX4_houseTold_43 rfl ?_
              refine r_istore_n hX dX4_houseTold_45 rfl (by decide) rfl ?_
              refine r_iincZ (z := 1) (y := 4) hX dX4_houseTold_46 rfl (by decide) rfl rfl ?_
              refine r_goto (tgt := 7) hX dX4_houseTold_49 (by decide) ?_
              refine r_iload hX dX4_houseTold_7 rfl ?_
              refine r_iconstZ hX dX4_houseTold_9 ?_
              refine r_icmp_geZ (tgt := 52) hX dX4_houseTold_10 (by decide) (by decide) (by decide) (fun _ => ?_) (fun q => absurd (by decide) q)
              have ed : zFD S = 3 := zFst_1 (x := false) (a := 0) (y := true) (b := 2) (z := true) (decide_eq_false (by omega)) rfl (decide_eq_true (by omega)) rfl (decide_eq_true (by omega)) rfl
              have em : zFM S = 3 := zFst_1 (x := true) (a := 1) (y := false) (b := 1) (z := true) (decide_eq_true (by omega)) rfl (decide_eq_false (by omega)) rfl (decide_eq_true (by omega)) rfl
              exact r_loc (lv' := [(0, some (.ref (ae 0))), (1, some (.int (iZ w))), (2, some (.int (iZ 3))), (3, some (.int (iZ 3)))]) (by exact ⟨rfl, rfl, rfl, rfl, trivial⟩) (Nat.le_refl _) (Nat.le_refl _) (fin 3 3 (by rw [ed]; rfl) (by rw [em]; rfl))
        · refine r_iload hX dX4_houseTold_43 rfl ?_
          refine r_istore_n hX dX4_houseTold_45 rfl (by decide) rfl ?_
          refine r_iincZ (z := 1) (y := 3) hX dX4_houseTold_46 rfl (by decide) rfl rfl ?_
          refine r_goto (tgt := 7) hX dX4_houseTold_49 (by decide) ?_
          refine r_iload hX dX4_houseTold_7 rfl ?_
          refine r_iconstZ hX dX4_houseTold_9 ?_
          refine r_icmp_geZ (tgt := 52) hX dX4_houseTold_10 (by decide) (by decide) (by decide) (fun q => absurd q (by decide)) (fun _ => ?_)
          refine r_aload_n hX dX4_houseTold_13 rfl rfl ?_
          refine r_iload hX dX4_houseTold_14 rfl ?_
          refine r_iload_n hX dX4_houseTold_16 rfl rfl ?_
          refine r_callV hX (z_X4_ordered ad ae cs K S th rest hS _ 3 (by omega) (by omega) _ 2 (by omega) (by omega)) kv_X4_196 14 rfl rfl rfl rfl (Nat.le_of_ble_eq_true rfl) ⟨(Nat.le_of_ble_eq_true rfl), (Nat.le_of_ble_eq_true rfl)⟩ ⟨(Nat.le_of_ble_eq_true rfl), (Nat.le_of_ble_eq_true rfl)⟩ dX4_houseTold_17 (fun _ _ z => False.elim z) (fun v9 ws9 h40 => ?_)
          obtain ⟨rfl, hw9⟩ := h40
          subst ws9
          dsimp only [mPush]
          have hto40 := zTo_b (sse S 3) (sna S 3) (sow S 3) (sse S 2) (sna S 2) (sow S 2)
          refine r_if_geZ (tgt := 26) hX dX4_houseTold_20 (by decide) (by omega) (fun c41 => ?_) (fun c41 => ?_)
          · refine r_aload_n hX dX4_houseTold_26 rfl rfl ?_
            refine r_get hX kf_X4_13 14 rfl rfl dX4_houseTold_27 ?_
            refine r_iload hX dX4_houseTold_30 rfl ?_
            refine r_laldZ hX 16 1 rfl rfl 3 (by decide) (by decide) (by decide) dX4_houseTold_32 ?_
            refine r_aload_n hX dX4_houseTold_33 rfl rfl ?_
            refine r_get hX kf_X4_13 14 rfl rfl dX4_houseTold_34 ?_
            refine r_iload_n hX dX4_houseTold_37 rfl rfl ?_
            refine r_laldZ hX 16 1 rfl rfl 2 (by decide) (by decide) (by decide) dX4_houseTold_38 ?_
            refine r_lif_geZ (tgt := 46) hX dX4_houseTold_39 dX4_houseTold_40 (by decide) (by omega) (by omega) (fun c42 => ?_) (fun c42 => ?_)
            · refine r_iincZ (z := 1) (y := 4) hX dX4_houseTold_46 rfl (by decide) rfl rfl ?_
              refine r_goto (tgt := 7) hX dX4_houseTold_49 (by decide) ?_
              refine r_iload hX dX4_houseTold_7 rfl ?_
              refine r_iconstZ hX dX4_houseTold_9 ?_
              refine r_icmp_geZ (tgt := 52) hX dX4_houseTold_10 (by decide) (by decide) (by decide) (fun _ => ?_) (fun q => absurd (by decide) q)
              have ed : zFD S = 2 := zFst_1 (x := false) (a := 0) (y := true) (b := 2) (z := false) (decide_eq_false (by omega)) rfl (decide_eq_true (by omega)) rfl (decide_eq_false (by omega)) rfl
              have em : zFM S = 2 := zFst_1 (x := true) (a := 1) (y := true) (b := 2) (z := false) (decide_eq_true (by omega)) rfl (decide_eq_true (by omega)) rfl (decide_eq_false (by omega)) rfl
              exact r_loc (lv' := [(0, some (.ref (ae 0))), (1, some (.int (iZ w))), (2, some (.int (iZ 2))), (3, some (.int (iZ 2)))]) (by exact ⟨rfl, rfl, rfl, rfl, trivial⟩) (Nat.le_refl _) (Nat.le_refl _) (fin 2 2 (by rw [ed]; rfl) (by rw [em]; rfl))
            · refine r_iload hX dX4_houseTold_43 rfl ?_
              refine r_istore_n hX dX4_houseTold_45 rfl (by decide) rfl ?_
              refine r_iincZ (z := 1) (y := 4) hX dX4_houseTold_46 rfl (by decide) rfl rfl ?_
              refine r_goto (tgt := 7) hX dX4_houseTold_49 (by decide) ?_
              refine r_iload hX dX4_houseTold_7 rfl ?_
              refine r_iconstZ hX dX4_houseTold_9 ?_
              refine r_icmp_geZ (tgt := 52) hX dX4_houseTold_10 (by decide) (by decide) (by decide) (fun _ => ?_) (fun q => absurd (by decide) q)
              have ed : zFD S = 2 := zFst_1 (x := false) (a := 0) (y := true) (b := 2) (z := false) (decide_eq_false (by omega)) rfl (decide_eq_true (by omega)) rfl (decide_eq_false (by omega)) rfl
              have em : zFM S = 3 := zFst_1 (x := true) (a := 1) (y := true) (b := 2) (z := true) (decide_eq_true (by omega)) rfl (decide_eq_true (by omega)) rfl (decide_eq_true (by omega)) rfl
              exact r_loc (lv' := [(0, some (.ref (ae 0))), (1, some (.int (iZ w))), (2, some (.int (iZ 2))), (3, some (.int (iZ 3)))]) (by exact ⟨rfl, rfl, rfl, rfl, trivial⟩) (Nat.le_refl _) (Nat.le_refl _) (fin 2 3 (by rw [ed]; rfl) (by rw [em]; rfl))
          · refine r_iload hX dX4_houseTold_23 rfl ?_
            refine r_istore_n hX dX4_houseTold_25 rfl (by decide) rfl ?_
            refine r_aload_n hX dX4_houseTold_26 rfl rfl ?_
            refine r_get hX kf_X4_13 14 rfl rfl dX4_houseTold_27 ?_
            refine r_iload hX dX4_houseTold_30 rfl ?_
            refine r_laldZ hX 16 1 rfl rfl 3 (by decide) (by decide) (by decide) dX4_houseTold_32 ?_
            refine r_aload_n hX dX4_houseTold_33 rfl rfl ?_
            refine r_get hX kf_X4_13 14 rfl rfl dX4_houseTold_34 ?_
            refine r_iload_n hX dX4_houseTold_37 rfl rfl ?_
            refine r_laldZ hX 16 1 rfl rfl 2 (by decide) (by decide) (by decide) dX4_houseTold_38 ?_
            refine r_lif_geZ (tgt := 46) hX dX4_houseTold_39 dX4_houseTold_40 (by decide) (by omega) (by omega) (fun c43 => ?_) (fun c43 => ?_)
            · refine r_iincZ (z := 1) (y := 4) hX dX4_houseTold_46 rfl (by decide) rfl rfl ?_
              refine r_goto (tgt := 7) hX dX4_houseTold_49 (by decide) ?_
              refine r_iload hX dX4_houseTold_7 rfl ?_
              refine r_iconstZ hX dX4_houseTold_9 ?_
              refine r_icmp_geZ (tgt := 52) hX dX4_houseTold_10 (by decide) (by decide) (by decide) (fun _ => ?_) (fun q => absurd (by decide) q)
              have ed : zFD S = 3 := zFst_1 (x := false) (a := 0) (y := true) (b := 2) (z := true) (decide_eq_false (by omega)) rfl (decide_eq_true (by omega)) rfl (decide_eq_true (by omega)) rfl
              have em : zFM S = 2 := zFst_1 (x := true) (a := 1) (y := true) (b := 2) (z := false) (decide_eq_true (by omega)) rfl (decide_eq_true (by omega)) rfl (decide_eq_false (by omega)) rfl
              exact r_loc (lv' := [(0, some (.ref (ae 0))), (1, some (.int (iZ w))), (2, some (.int (iZ 3))), (3, some (.int (iZ 2)))]) (by exact ⟨rfl, rfl, rfl, rfl, trivial⟩) (Nat.le_refl _) (Nat.le_refl _) (fin 3 2 (by rw [ed]; rfl) (by rw [em]; rfl))
            · refine r_iload hX dX4_houseTold_43 rfl ?_
              refine r_istore_n hX dX4_houseTold_45 rfl (by decide) rfl ?_
              refine r_iincZ (z := 1) (y := 4) hX dX4_houseTold_46 rfl (by decide) rfl rfl ?_
              refine r_goto (tgt := 7) hX dX4_houseTold_49 (by decide) ?_
              refine r_iload hX dX4_houseTold_7 rfl ?_
              refine r_iconstZ hX dX4_houseTold_9 ?_
              refine r_icmp_geZ (tgt := 52) hX dX4_houseTold_10 (by decide) (by decide) (by decide) (fun _ => ?_) (fun q => absurd (by decide) q)
              have ed : zFD S = 3 := zFst_1 (x := false) (a := 0) (y := true) (b := 2) (z := true) (decide_eq_false (by omega)) rfl (decide_eq_true (by omega)) rfl (decide_eq_true (by omega)) rfl
              have em : zFM S = 3 := zFst_1 (x := true) (a := 1) (y := true) (b := 2) (z := true) (decide_eq_true (by omega)) rfl (decide_eq_true (by omega)) rfl (decide_eq_true (by omega)) rfl
              exact r_loc (lv' := [(0, some (.ref (ae 0))), (1, some (.int (iZ w))), (2, some (.int (iZ 3))), (3, some (.int (iZ 3)))]) (by exact ⟨rfl, rfl, rfl, rfl, trivial⟩) (Nat.le_refl _) (Nat.le_refl _) (fin 3 3 (by rw [ed]; rfl) (by rw [em]; rfl))
  · refine r_iload hX dX4_houseTold_23 rfl ?_
    refine r_istore_n hX dX4_houseTold_25 rfl (by decide) rfl ?_
    refine r_aload_n hX dX4_houseTold_26 rfl rfl ?_
    refine r_get hX kf_X4_13 14 rfl rfl dX4_houseTold_27 ?_
    refine r_iload hX dX4_houseTold_30 rfl ?_
    refine r_laldZ hX 16 1 rfl rfl 1 (by decide) (by decide) (by decide) dX4_houseTold_32 ?_
    refine r_aload_n hX dX4_houseTold_33 rfl rfl ?_
    refine r_get hX kf_X4_13 14 rfl rfl dX4_houseTold_34 ?_
    refine r_iload_n hX dX4_houseTold_37 rfl rfl ?_
    refine r_laldZ hX 16 1 rfl rfl 0 (by decide) (by decide) (by decide) dX4_houseTold_38 ?_
    refine r_lif_geZ (tgt := 46) hX dX4_houseTold_39 dX4_houseTold_40 (by decide) (by omega) (by omega) (fun c44 => ?_) (fun c44 => ?_)
    · refine r_iincZ (z := 1) (y := 2) hX dX4_houseTold_46 rfl (by decide) rfl rfl ?_
      refine r_goto (tgt := 7) hX dX4_houseTold_49 (by decide) ?_
      refine r_iload hX dX4_houseTold_7 rfl ?_
      refine r_iconstZ hX dX4_houseTold_9 ?_
      refine r_icmp_geZ (tgt := 52) hX dX4_houseTold_10 (by decide) (by decide) (by decide) (fun q => absurd q (by decide)) (fun _ => ?_)
      refine r_aload_n hX dX4_houseTold_13 rfl rfl ?_
      refine r_iload hX dX4_houseTold_14 rfl ?_
      refine r_iload_n hX dX4_houseTold_16 rfl rfl ?_
      refine r_callV hX (z_X4_ordered ad ae cs K S th rest hS _ 2 (by omega) (by omega) _ 1 (by omega) (by omega)) kv_X4_196 14 rfl rfl rfl rfl (Nat.le_of_ble_eq_true rfl) ⟨(Nat.le_of_ble_eq_true rfl), (Nat.le_of_ble_eq_true rfl)⟩ ⟨(Nat.le_of_ble_eq_true rfl), (Nat.le_of_ble_eq_true rfl)⟩ dX4_houseTold_17 (fun _ _ z => False.elim z) (fun v9 ws9 h45 => ?_)
      obtain ⟨rfl, hw9⟩ := h45
      subst ws9
      dsimp only [mPush]
      have hto45 := zTo_b (sse S 2) (sna S 2) (sow S 2) (sse S 1) (sna S 1) (sow S 1)
      refine r_if_geZ (tgt := 26) hX dX4_houseTold_20 (by decide) (by omega) (fun c46 => ?_) (fun c46 => ?_)
      · refine r_aload_n hX dX4_houseTold_26 rfl rfl ?_
        refine r_get hX kf_X4_13 14 rfl rfl dX4_houseTold_27 ?_
        refine r_iload hX dX4_houseTold_30 rfl ?_
        refine r_laldZ hX 16 1 rfl rfl 2 (by decide) (by decide) (by decide) dX4_houseTold_32 ?_
        refine r_aload_n hX dX4_houseTold_33 rfl rfl ?_
        refine r_get hX kf_X4_13 14 rfl rfl dX4_houseTold_34 ?_
        refine r_iload_n hX dX4_houseTold_37 rfl rfl ?_
        refine r_laldZ hX 16 1 rfl rfl 0 (by decide) (by decide) (by decide) dX4_houseTold_38 ?_
        refine r_lif_geZ (tgt := 46) hX dX4_houseTold_39 dX4_houseTold_40 (by decide) (by omega) (by omega) (fun c47 => ?_) (fun c47 => ?_)
        · refine r_iincZ (z := 1) (y := 3) hX dX4_houseTold_46 rfl (by decide) rfl rfl ?_
          refine r_goto (tgt := 7) hX dX4_houseTold_49 (by decide) ?_
          refine r_iload hX dX4_houseTold_7 rfl ?_
          refine r_iconstZ hX dX4_houseTold_9 ?_
          refine r_icmp_geZ (tgt := 52) hX dX4_houseTold_10 (by decide) (by decide) (by decide) (fun q => absurd q (by decide)) (fun _ => ?_)
          refine r_aload_n hX dX4_houseTold_13 rfl rfl ?_
          refine r_iload hX dX4_houseTold_14 rfl ?_
          refine r_iload_n hX dX4_houseTold_16 rfl rfl ?_
          refine r_callV hX (z_X4_ordered ad ae cs K S th rest hS _ 3 (by omega) (by omega) _ 1 (by omega) (by omega)) kv_X4_196 14 rfl rfl rfl rfl (Nat.le_of_ble_eq_true rfl) ⟨(Nat.le_of_ble_eq_true rfl), (Nat.le_of_ble_eq_true rfl)⟩ ⟨(Nat.le_of_ble_eq_true rfl), (Nat.le_of_ble_eq_true rfl)⟩ dX4_houseTold_17 (fun _ _ z => False.elim z) (fun v9 ws9 h48 => ?_)
          obtain ⟨rfl, hw9⟩ := h48
          subst ws9
          dsimp only [mPush]
          have hto48 := zTo_b (sse S 3) (sna S 3) (sow S 3) (sse S 1) (sna S 1) (sow S 1)
          refine r_if_geZ (tgt := 26) hX dX4_houseTold_20 (by decide) (by omega) (fun c49 => ?_) (fun c49 => ?_)
          · refine r_aload_n hX dX4_houseTold_26 rfl rfl ?_
            refine r_get hX kf_X4_13 14 rfl rfl dX4_houseTold_27 ?_
            refine r_iload hX dX4_houseTold_30 rfl ?_
            refine r_laldZ hX 16 1 rfl rfl 3 (by decide) (by decide) (by decide) dX4_houseTold_32 ?_
            refine r_aload_n hX dX4_houseTold_33 rfl rfl ?_
            refine r_get hX kf_X4_13 14 rfl rfl dX4_houseTold_34 ?_
            refine r_iload_n hX dX4_houseTold_37 rfl rfl ?_
            refine r_laldZ hX 16 1 rfl rfl 0 (by decide) (by decide) (by decide) dX4_houseTold_38 ?_
            refine r_lif_geZ (tgt := 46) hX dX4_houseTold_39 dX4_houseTold_40 (by decide) (by omega) (by omega) (fun c50 => ?_) (fun c50 => ?_)
            · refine r_iincZ (z := 1) (y := 4) hX dX4_houseTold_46 rfl (by decide) rfl rfl ?_
              refine r_goto (tgt := 7) hX dX4_houseTold_49 (by decide) ?_
              refine r_iload hX dX4_houseTold_7 rfl ?_
              refine r_iconstZ hX dX4_houseTold_9 ?_
              refine r_icmp_geZ (tgt := 52) hX dX4_houseTold_10 (by decide) (by decide) (by decide) (fun _ => ?_) (fun q => absurd (by decide) q)
              have ed : zFD S = 1 := zFst_1 (x := true) (a := 1) (y := false) (b := 1) (z := false) (decide_eq_true (by omega)) rfl (decide_eq_false (by omega)) rfl (decide_eq_false (by omega)) rfl
              have em : zFM S = 0 := zFst_1 (x := false) (a := 0) (y := false) (b := 0) (z := false) (decide_eq_false (by omega)) rfl (decide_eq_false (by omega)) rfl (decide_eq_false (by omega)) rfl
              exact r_loc (lv' := [(0, some (.ref (ae 0))), (1, some (.int (iZ w))), (2, some (.int (iZ 1))), (3, some (.int (iZ 0)))]) (by exact ⟨rfl, rfl, rfl, rfl, trivial⟩) (Nat.le_refl _) (Nat.le_refl _) (fin 1 0 (by rw [ed]; rfl) (by rw [em]; rfl))
            · refine r_iload hX dX4_houseTold_43 rfl ?_
              refine r_istore_n hX dX4_houseTold_45 rfl (by decide) rfl ?_
              refine r_iincZ (z := 1) (y := 4) hX dX4_houseTold_46 rfl (by decide) rfl rfl ?_
              refine r_goto (tgt := 7) hX dX4_houseTold_49 (by decide) ?_
              refine r_iload hX dX4_houseTold_7 rfl ?_
              refine r_iconstZ hX dX4_houseTold_9 ?_
              refine r_icmp_geZ (tgt := 52) hX dX4_houseTold_10 (by decide) (by decide) (by decide) (fun _ => ?_) (fun q => absurd (by decide) q)
              have ed : zFD S = 1 := zFst_1 (x := true) (a := 1) (y := false) (b := 1) (z := false) (decide_eq_true (by omega)) rfl (decide_eq_false (by omega)) rfl (decide_eq_false (by omega)) rfl
              have em : zFM S = 3 := zFst_1 (x := false) (a := 0) (y := false) (b := 0) (z := true) (decide_eq_false (by omega)) rfl (decide_eq_false (by omega)) rfl (decide_eq_true (by omega)) rfl
              exact r_loc (lv' := [(0, some (.ref (ae 0))), (1, some (.int (iZ w))), (2, some (.int (iZ 1))), (3, some (.int (iZ 3)))]) (by exact ⟨rfl, rfl, rfl, rfl, trivial⟩) (Nat.le_refl _) (Nat.le_refl _) (fin 1 3 (by rw [ed]; rfl) (by rw [em]; rfl))
          · refine r_iload hX dX4_houseTold_23 rfl ?_
            refine r_istore_n hX dX4_houseTold_25 rfl (by decide) rfl ?_
            refine r_aload_n hX dX4_houseTold_26 rfl rfl ?_
            refine r_get hX kf_X4_13 14 rfl rfl dX4_houseTold_27 ?_
            refine r_iload hX dX4_houseTold_30 rfl ?_
            refine r_laldZ hX 16 1 rfl rfl 3 (by decide) (by decide) (by decide) dX4_houseTold_32 ?_
            refine r_aload_n hX dX4_houseTold_33 rfl rfl ?_
            refine r_get hX kf_X4_13 14 rfl rfl dX4_houseTold_34 ?_
            refine r_iload_n hX dX4_houseTold_37 rfl rfl ?_
            refine r_laldZ hX 16 1 rfl rfl 0 (by decide) (by decide) (by decide) dX4_houseTold_38 ?_
            refine r_lif_geZ (tgt := 46) hX dX4_houseTold_39 dX4_houseTold_40 (by decide) (by omega) (by omega) (fun c51 => ?_) (fun c51 => ?_)
            · refine r_iincZ (z := 1) (y := 4) hX dX4_houseTold_46 rfl (by decide) rfl rfl ?_
              refine r_goto (tgt := 7) hX dX4_houseTold_49 (by decide) ?_
              refine r_iload hX dX4_houseTold_7 rfl ?_
              refine r_iconstZ hX dX4_houseTold_9 ?_
              refine r_icmp_geZ (tgt := 52) hX dX4_houseTold_10 (by decide) (by decide) (by decide) (fun _ => ?_) (fun q => absurd (by decide) q)
              have ed : zFD S = 3 := zFst_1 (x := true) (a := 1) (y := false) (b := 1) (z := true) (decide_eq_true (by omega)) rfl (decide_eq_false (by omega)) rfl (decide_eq_true (by omega)) rfl
              have em : zFM S = 0 := zFst_1 (x := false) (a := 0) (y := false) (b := 0) (z := false) (decide_eq_false (by omega)) rfl (decide_eq_false (by omega)) rfl (decide_eq_false (by omega)) rfl
              exact r_loc (lv' := [(0, some (.ref (ae 0))), (1, some (.int (iZ w))), (2, some (.int (iZ 3))), (3, some (.int (iZ 0)))]) (by exact ⟨rfl, rfl, rfl, rfl, trivial⟩) (Nat.le_refl _) (Nat.le_refl _) (fin 3 0 (by rw [ed]; rfl) (by rw [em]; rfl))
            · refine r_iload hX dX4_houseTold_43 rfl ?_
              refine r_istore_n hX dX4_houseTold_45 rfl (by decide) rfl ?_
              refine r_iincZ (z := 1) (y := 4) hX dX4_houseTold_46 rfl (by decide) rfl rfl ?_
              refine r_goto (tgt := 7) hX dX4_houseTold_49 (by decide) ?_
              refine r_iload hX dX4_houseTold_7 rfl ?_
              refine r_iconstZ hX dX4_houseTold_9 ?_
              refine r_icmp_geZ (tgt := 52) hX dX4_houseTold_10 (by decide) (by decide) (by decide) (fun _ => ?_) (fun q => absurd (by decide) q)
              have ed : zFD S = 3 := zFst_1 (x := true) (a := 1) (y := false) (b := 1) (z := true) (decide_eq_true (by omega)) rfl (decide_eq_false (by omega)) rfl (decide_eq_true (by omega)) rfl
              have em : zFM S = 3 := zFst_1 (x := false) (a := 0) (y := false) (b := 0) (z := true) (decide_eq_false (by omega)) rfl (decide_eq_false (by omega)) rfl (decide_eq_true (by omega)) rfl
              exact r_loc (lv' := [(0, some (.ref (ae 0))), (1, some (.int (iZ w))), (2, some (.int (iZ 3))), (3, some (.int (iZ 3)))]) (by exact ⟨rfl, rfl, rfl, rfl, trivial⟩) (Nat.le_refl _) (Nat.le_refl _) (fin 3 3 (by rw [ed]; rfl) (by rw [em]; rfl))
        · refine r_iload hX dX4_houseTold_43 rfl ?_
          refine r_istore_n hX dX4_houseTold_45 rfl (by decide) rfl ?_
          refine r_iincZ (z := 1) (y := 3) hX dX4_houseTold_46 rfl (by decide) rfl rfl ?_
          refine r_goto (tgt := 7) hX dX4_houseTold_49 (by decide) ?_
          refine r_iload hX dX4_houseTold_7 rfl ?_
          refine r_iconstZ hX dX4_houseTold_9 ?_
          refine r_icmp_geZ (tgt := 52) hX dX4_houseTold_10 (by decide) (by decide) (by decide) (fun q => absurd q (by decide)) (fun _ => ?_)
          refine r_aload_n hX dX4_houseTold_13 rfl rfl ?_
          refine r_iload hX dX4_houseTold_14 rfl ?_
          refine r_iload_n hX dX4_houseTold_16 rfl rfl ?_
          refine r_callV hX (z_X4_ordered ad ae cs K S th rest hS _ 3 (by omega) (by omega) _ 1 (by omega) (by omega)) kv_X4_196 14 rfl rfl rfl rfl (Nat.le_of_ble_eq_true rfl) ⟨(Nat.le_of_ble_eq_true rfl), (Nat.le_of_ble_eq_true rfl)⟩ ⟨(Nat.le_of_ble_eq_true rfl), (Nat.le_of_ble_eq_true rfl)⟩ dX4_houseTold_17 (fun _ _ z => False.elim z) (fun v9 ws9 h52 => ?_)
          obtain ⟨rfl, hw9⟩ := h52
          subst ws9
          dsimp only [mPush]
          have hto52 := zTo_b (sse S 3) (sna S 3) (sow S 3) (sse S 1) (sna S 1) (sow S 1)
          refine r_if_geZ (tgt := 26) hX dX4_houseTold_20 (by decide) (by omega) (fun c53 => ?_) (fun c53 => ?_)
          · refine r_aload_n hX dX4_houseTold_26 rfl rfl ?_
            refine r_get hX kf_X4_13 14 rfl rfl dX4_houseTold_27 ?_
            refine r_iload hX dX4_houseTold_30 rfl ?_
            refine r_laldZ hX 16 1 rfl rfl 3 (by decide) (by decide) (by decide) dX4_houseTold_32 ?_
            refine r_aload_n hX dX4_houseTold_33 rfl rfl ?_
            refine r_get hX kf_X4_13 14 rfl rfl dX4_houseTold_34 ?_
            refine r_iload_n hX dX4_houseTold_37 rfl rfl ?_
            refine r_laldZ hX 16 1 rfl rfl 2 (by decide) (by decide) (by decide) dX4_houseTold_38 ?_
            refine r_lif_geZ (tgt := 46) hX dX4_houseTold_39 dX4_houseTold_40 (by decide) (by omega) (by omega) (fun c54 => ?_) (fun c54 => ?_)
            · refine r_iincZ (z := 1) (y := 4) hX dX4_houseTold_46 rfl (by decide) rfl rfl ?_
              refine r_goto (tgt := 7) hX dX4_houseTold_49 (by decide) ?_
              refine r_iload hX dX4_houseTold_7 rfl ?_
              refine r_iconstZ hX dX4_houseTold_9 ?_
              refine r_icmp_geZ (tgt := 52) hX dX4_houseTold_10 (by decide) (by decide) (by decide) (fun _ => ?_) (fun q => absurd (by decide) q)
              have ed : zFD S = 1 := zFst_1 (x := true) (a := 1) (y := false) (b := 1) (z := false) (decide_eq_true (by omega)) rfl (decide_eq_false (by omega)) rfl (decide_eq_false (by omega)) rfl
              have em : zFM S = 2 := zFst_1 (x := false) (a := 0) (y := true) (b := 2) (z := false) (decide_eq_false (by omega)) rfl (decide_eq_true (by omega)) rfl (decide_eq_false (by omega)) rfl
              exact r_loc (lv' := [(0, some (.ref (ae 0))), (1, some (.int (iZ w))), (2, some (.int (iZ 1))), (3, some (.int (iZ 2)))]) (by exact ⟨rfl, rfl, rfl, rfl, trivial⟩) (Nat.le_refl _) (Nat.le_refl _) (fin 1 2 (by rw [ed]; rfl) (by rw [em]; rfl))
            · refine r_iload hX dX4_houseTold_43 rfl ?_
              refine r_istore_n hX dX4_houseTold_45 rfl (by decide) rfl ?_
              refine r_iincZ (z := 1) (y := 4) hX dX4_houseTold_46 rfl (by decide) rfl rfl ?_
              refine r_goto (tgt := 7) hX dX4_houseTold_49 (by decide) ?_
              refine r_iload hX dX4_houseTold_7 rfl ?_
              refine r_iconstZ hX dX4_houseTold_9 ?_
              refine r_icmp_geZ (tgt := 52) hX dX4_houseTold_10 (by decide) (by decide) (by decide) (fun _ => ?_) (fun q => absurd (by decide) q)
              have ed : zFD S = 1 := zFst_1 (x := true) (a := 1) (y := false) (b := 1) (z := false) (decide_eq_true (by omega)) rfl (decide_eq_false (by omega)) rfl (decide_eq_false (by omega)) rfl
              have em : zFM S = 3 := zFst_1 (x := false) (a := 0) (y := true) (b := 2) (z := true) (decide_eq_false (by omega)) rfl (decide_eq_true (by omega)) rfl (decide_eq_true (by omega)) rfl
              exact r_loc (lv' := [(0, some (.ref (ae 0))), (1, some (.int (iZ w))), (2, some (.int (iZ 1))), (3, some (.int (iZ 3)))]) (by exact ⟨rfl, rfl, rfl, rfl, trivial⟩) (Nat.le_refl _) (Nat.le_refl _) (fin 1 3 (by rw [ed]; rfl) (by rw [em]; rfl))
          · refine r_iload hX dX4_houseTold_23 rfl ?_
            refine r_istore_n hX dX4_houseTold_25 rfl (by decide) rfl ?_
            refine r_aload_n hX dX4_houseTold_26 rfl rfl ?_
            refine r_get hX kf_X4_13 14 rfl rfl dX4_houseTold_27 ?_
            refine r_iload hX dX4_houseTold_30 rfl ?_
            refine r_laldZ hX 16 1 rfl rfl 3 (by decide) (by decide) (by decide) dX4_houseTold_32 ?_
            refine r_aload_n hX dX4_houseTold_33 rfl rfl ?_
            refine r_get hX kf_X4_13 14 rfl rfl dX4_houseTold_34 ?_
            refine r_iload_n hX dX4_houseTold_37 rfl rfl ?_
            refine r_laldZ hX 16 1 rfl rfl 2 (by decide) (by decide) (by decide) dX4_houseTold_38 ?_
            refine r_lif_geZ (tgt := 46) hX dX4_houseTold_39 dX4_houseTold_40 (by decide) (by omega) (by omega) (fun c55 => ?_) (fun c55 => ?_)
            · refine r_iincZ (z := 1) (y := 4) hX dX4_houseTold_46 rfl (by decide) rfl rfl ?_
              refine r_goto (tgt := 7) hX dX4_houseTold_49 (by decide) ?_
              refine r_iload hX dX4_houseTold_7 rfl ?_
              refine r_iconstZ hX dX4_houseTold_9 ?_
              refine r_icmp_geZ (tgt := 52) hX dX4_houseTold_10 (by decide) (by decide) (by decide) (fun _ => ?_) (fun q => absurd (by decide) q)
              have ed : zFD S = 3 := zFst_1 (x := true) (a := 1) (y := false) (b := 1) (z := true) (decide_eq_true (by omega)) rfl (decide_eq_false (by omega)) rfl (decide_eq_true (by omega)) rfl
              have em : zFM S = 2 := zFst_1 (x := false) (a := 0) (y := true) (b := 2) (z := false) (decide_eq_false (by omega)) rfl (decide_eq_true (by omega)) rfl (decide_eq_false (by omega)) rfl
              exact r_loc (lv' := [(0, some (.ref (ae 0))), (1, some (.int (iZ w))), (2, some (.int (iZ 3))), (3, some (.int (iZ 2)))]) (by exact ⟨rfl, rfl, rfl, rfl, trivial⟩) (Nat.le_refl _) (Nat.le_refl _) (fin 3 2 (by rw [ed]; rfl) (by rw [em]; rfl))
            · refine r_iload hX dX4_houseTold_43 rfl ?_
              refine r_istore_n hX dX4_houseTold_45 rfl (by decide) rfl ?_
              refine r_iincZ (z := 1) (y := 4) hX dX4_houseTold_46 rfl (by decide) rfl rfl ?_
              refine r_goto (tgt := 7) hX dX4_houseTold_49 (by decide) ?_
              refine r_iload hX dX4_houseTold_7 rfl ?_
              refine r_iconstZ hX dX4_houseTold_9 ?_
              refine r_icmp_geZ (tgt := 52) hX dX4_houseTold_10 (by decide) (by decide) (by decide) (fun _ => ?_) (fun q => absurd (by decide) q)
              have ed : zFD S = 3 := zFst_1 (x := true) (a := 1) (y := false) (b := 1) (z := true) (decide_eq_true (by omega)) rfl (decide_eq_false (by omega)) rfl (decide_eq_true (by omega)) rfl
              have em : zFM S = 3 := zFst_1 (x := false) (a := 0) (y := true) (b := 2) (z := true) (decide_eq_false (by omega)) rfl (decide_eq_true (by omega)) rfl (decide_eq_true (by omega)) rfl
              exact r_loc (lv' := [(0, some (.ref (ae 0))), (1, some (.int (iZ w))), (2, some (.int (iZ 3))), (3, some (.int (iZ 3)))]) (by exact ⟨rfl, rfl, rfl, rfl, trivial⟩) (Nat.le_refl _) (Nat.le_refl _) (fin 3 3 (by rw [ed]; rfl) (by rw [em]; rfl))
      · refine r_iload hX dX4_houseTold_23 rfl ?_
        refine r_istore_n hX dX4_houseTold_25 rfl (by decide) rfl ?_
        refine r_aload_n hX dX4_houseTold_26 rfl rfl ?_
        refine r_get hX kf_X4_13 14 rfl rfl dX4_houseTold_27 ?_
        refine r_iload hX dX4_houseTold_30 rfl ?_
        refine r_laldZ hX 16 1 rfl rfl 2 (by decide) (by decide) (by decide) dX4_houseTold_32 ?_
        refine r_aload_n hX dX4_houseTold_33 rfl rfl ?_
        refine r_get hX kf_X4_13 14 rfl rfl dX4_houseTold_34 ?_
        refine r_iload_n hX dX4_houseTold_37 rfl rfl ?_
        refine r_laldZ hX 16 1 rfl rfl 0 (by decide) (by decide) (by decide) dX4_houseTold_38 ?_
        refine r_lif_geZ (tgt := 46) hX dX4_houseTold_39 dX4_houseTold_40 (by decide) (by omega) (by omega) (fun c56 => ?_) (fun c56 => ?_)
        · refine r_iincZ (z := 1) (y := 3) hX dX4_houseTold_46 rfl (by decide) rfl rfl ?_
          refine r_goto (tgt := 7) hX dX4_houseTold_49 (by decide) ?_
          refine r_iload hX dX4_houseTold_7 rfl ?_
          refine r_iconstZ hX dX4_houseTold_9 ?_
          refine r_icmp_geZ (tgt := 52) hX dX4_houseTold_10 (by decide) (by decide) (by decide) (fun q => absurd q (by decide)) (fun _ => ?_)
          refine r_aload_n hX dX4_houseTold_13 rfl rfl ?_
          refine r_iload hX dX4_houseTold_14 rfl ?_
          refine r_iload_n hX dX4_houseTold_16 rfl rfl ?_
          refine r_callV hX (z_X4_ordered ad ae cs K S th rest hS _ 3 (by omega) (by omega) _ 2 (by omega) (by omega)) kv_X4_196 14 rfl rfl rfl rfl (Nat.le_of_ble_eq_true rfl) ⟨(Nat.le_of_ble_eq_true rfl), (Nat.le_of_ble_eq_true rfl)⟩ ⟨(Nat.le_of_ble_eq_true rfl), (Nat.le_of_ble_eq_true rfl)⟩ dX4_houseTold_17 (fun _ _ z => False.elim z) (fun v9 ws9 h57 => ?_)
          obtain ⟨rfl, hw9⟩ := h57
          subst ws9
          dsimp only [mPush]
          have hto57 := zTo_b (sse S 3) (sna S 3) (sow S 3) (sse S 2) (sna S 2) (sow S 2)
          refine r_if_geZ (tgt := 26) hX dX4_houseTold_20 (by decide) (by omega) (fun c58 => ?_) (fun c58 => ?_)
          · refine r_aload_n hX dX4_houseTold_26 rfl rfl ?_
            refine r_get hX kf_X4_13 14 rfl rfl dX4_houseTold_27 ?_
            refine r_iload hX dX4_houseTold_30 rfl ?_
            refine r_laldZ hX 16 1 rfl rfl 3 (by decide) (by decide) (by decide) dX4_houseTold_32 ?_
            refine r_aload_n hX dX4_houseTold_33 rfl rfl ?_
            refine r_get hX kf_X4_13 14 rfl rfl dX4_houseTold_34 ?_
            refine r_iload_n hX dX4_houseTold_37 rfl rfl ?_
            refine r_laldZ hX 16 1 rfl rfl 0 (by decide) (by decide) (by decide) dX4_houseTold_38 ?_
            refine r_lif_geZ (tgt := 46) hX dX4_houseTold_39 dX4_houseTold_40 (by decide) (by omega) (by omega) (fun c59 => ?_) (fun c59 => ?_)
            · refine r_iincZ (z := 1) (y := 4) hX dX4_houseTold_46 rfl (by decide) rfl rfl ?_
              refine r_goto (tgt := 7) hX dX4_houseTold_49 (by decide) ?_
              refine r_iload hX dX4_houseTold_7 rfl ?_
              refine r_iconstZ hX dX4_houseTold_9 ?_
              refine r_icmp_geZ (tgt := 52) hX dX4_houseTold_10 (by decide) (by decide) (by decide) (fun _ => ?_) (fun q => absurd (by decide) q)
              have ed : zFD S = 2 := zFst_1 (x := true) (a := 1) (y := true) (b := 2) (z := false) (decide_eq_true (by omega)) rfl (decide_eq_true (by omega)) rfl (decide_eq_false (by omega)) rfl
              have em : zFM S = 0 := zFst_1 (x := false) (a := 0) (y := false) (b := 0) (z := false) (decide_eq_false (by omega)) rfl (decide_eq_false (by omega)) rfl (decide_eq_false (by omega)) rfl
              exact r_loc (lv' := [(0, some (.ref (ae 0))), (1, some (.int (iZ w))), (2, some (.int (iZ 2))), (3, some (.int (iZ 0)))]) (by exact ⟨rfl, rfl, rfl, rfl, trivial⟩) (Nat.le_refl _) (Nat.le_refl _) (fin 2 0 (by rw [ed]; rfl) (by rw [em]; rfl))
            · refine r_iload hX dX4_houseTold_43 rfl ?_
              refine r_istore_n hX dX4_houseTold_45 rfl (by decide) rfl ?_
              refine r_iincZ (z := 1) (y := 4) hX dX4_houseTold_46 rfl (by decide) rfl rfl ?_
              refine r_goto (tgt := 7) hX dX4_houseTold_49 (by decide) ?_
              refine r_iload hX dX4_houseTold_7 rfl ?_
              refine r_iconstZ hX dX4_houseTold_9 ?_
              refine r_icmp_geZ (tgt := 52) hX dX4_houseTold_10 (by decide) (by decide) (by decide) (fun _ => ?_) (fun q => absurd (by decide) q)
              have ed : zFD S = 2 := zFst_1 (x := true) (a := 1) (y := true) (b := 2) (z := false) (decide_eq_true (by omega)) rfl (decide_eq_true (by omega)) rfl (decide_eq_false (by omega)) rfl
              have em : zFM S = 3 := zFst_1 (x := false) (a := 0) (y := false) (b := 0) (z := true) (decide_eq_false (by omega)) rfl (decide_eq_false (by omega)) rfl (decide_eq_true (by omega)) rfl
              exact r_loc (lv' := [(0, some (.ref (ae 0))), (1, some (.int (iZ w))), (2, some (.int (iZ 2))), (3, some (.int (iZ 3)))]) (by exact ⟨rfl, rfl, rfl, rfl, trivial⟩) (Nat.le_refl _) (Nat.le_refl _) (fin 2 3 (by rw [ed]; rfl) (by rw [em]; rfl))
          · refine r_iload hX dX4_houseTold_23 rfl ?_
            refine r_istore_n hX dX4_houseTold_25 rfl (by decide) rfl ?_
            refine r_aload_n hX dX4_houseTold_26 rfl rfl ?_
            refine r_get hX kf_X4_13 14 rfl rfl dX4_houseTold_27 ?_
            refine r_iload hX dX4_houseTold_30 rfl ?_
            refine r_laldZ hX 16 1 rfl rfl 3 (by decide) (by decide) (by decide) dX4_houseTold_32 ?_
            refine r_aload_n hX dX4_houseTold_33 rfl rfl ?_
            refine r_get hX kf_X4_13 14 rfl rfl dX4_houseTold_34 ?_
            refine r_iload_n hX dX4_houseTold_37 rfl rfl ?_
            refine r_laldZ hX 16 1 rfl rfl 0 (by decide) (by decide) (by decide) dX4_houseTold_38 ?_
            refine r_lif_geZ (tgt := 46) hX dX4_houseTold_39 dX4_houseTold_40 (by decide) (by omega) (by omega) (fun c60 => ?_) (fun c60 => ?_)
            · refine r_iincZ (z := 1) (y := 4) hX dX4_houseTold_46 rfl (by decide) rfl rfl ?_
              refine r_goto (tgt := 7) hX dX4_houseTold_49 (by decide) ?_
              refine r_iload hX dX4_houseTold_7 rfl ?_
              refine r_iconstZ hX dX4_houseTold_9 ?_
              refine r_icmp_geZ (tgt := 52) hX dX4_houseTold_10 (by decide) (by decide) (by decide) (fun _ => ?_) (fun q => absurd (by decide) q)
              have ed : zFD S = 3 := zFst_1 (x := true) (a := 1) (y := true) (b := 2) (z := true) (decide_eq_true (by omega)) rfl (decide_eq_true (by omega)) rfl (decide_eq_true (by omega)) rfl
              have em : zFM S = 0 := zFst_1 (x := false) (a := 0) (y := false) (b := 0) (z := false) (decide_eq_false (by omega)) rfl (decide_eq_false (by omega)) rfl (decide_eq_false (by omega)) rfl
              exact r_loc (lv' := [(0, some (.ref (ae 0))), (1, some (.int (iZ w))), (2, some (.int (iZ 3))), (3, some (.int (iZ 0)))]) (by exact ⟨rfl, rfl, rfl, rfl, trivial⟩) (Nat.le_refl _) (Nat.le_refl _) (fin 3 0 (by rw [ed]; rfl) (by rw [em]; rfl))
            · refine r_iload hX dX4_houseTold_43 rfl ?_
              refine r_istore_n hX dX4_houseTold_45 rfl (by decide) rfl ?_
              refine r_iincZ (z := 1) (y := 4) hX dX4_houseTold_46 rfl (by decide) rfl rfl ?_
              refine r_goto (tgt := 7) hX dX4_houseTold_49 (by decide) ?_
              refine r_iload hX dX4_houseTold_7 rfl ?_
              refine r_iconstZ hX dX4_houseTold_9 ?_
              refine r_icmp_geZ (tgt := 52) hX dX4_houseTold_10 (by decide) (by decide) (by decide) (fun _ => ?_) (fun q => absurd (by decide) q)
              have ed : zFD S = 3 := zFst_1 (x := true) (a := 1) (y := true) (b := 2) (z := true) (decide_eq_true (by omega)) rfl (decide_eq_true (by omega)) rfl (decide_eq_true (by omega)) rfl
              have em : zFM S = 3 := zFst_1 (x := false) (a := 0) (y := false) (b := 0) (z := true) (decide_eq_false (by omega)) rfl (decide_eq_false (by omega)) rfl (decide_eq_true (by omega)) rfl
              exact r_loc (lv' := [(0, some (.ref (ae 0))), (1, some (.int (iZ w))), (2, some (.int (iZ 3))), (3, some (.int (iZ 3)))]) (by exact ⟨rfl, rfl, rfl, rfl, trivial⟩) (Nat.le_refl _) (Nat.le_refl _) (fin 3 3 (by rw [ed]; rfl) (by rw [em]; rfl))
        · refine r_iload hX dX4_houseTold_43 rfl ?_
          refine r_istore_n hX dX4_houseTold_45 rfl (by decide) rfl ?_
          refine r_iincZ (z := 1) (y := 3) hX dX4_houseTold_46 rfl (by decide) rfl rfl ?_
          refine r_goto (tgt := 7) hX dX4_houseTold_49 (by decide) ?_
          refine r_iload hX dX4_houseTold_7 rfl ?_
          refine r_iconstZ hX dX4_houseTold_9 ?_
          refine r_icmp_geZ (tgt := 52) hX dX4_houseTold_10 (by decide) (by decide) (by decide) (fun q => absurd q (by decide)) (fun _ => ?_)
          refine r_aload_n hX dX4_houseTold_13 rfl rfl ?_
          refine r_iload hX dX4_houseTold_14 rfl ?_
          refine r_iload_n hX dX4_houseTold_16 rfl rfl ?_
          refine r_callV hX (z_X4_ordered ad ae cs K S th rest hS _ 3 (by omega) (by omega) _ 2 (by omega) (by omega)) kv_X4_196 14 rfl rfl rfl rfl (Nat.le_of_ble_eq_true rfl) ⟨(Nat.le_of_ble_eq_true rfl), (Nat.le_of_ble_eq_true rfl)⟩ ⟨(Nat.le_of_ble_eq_true rfl), (Nat.le_of_ble_eq_true rfl)⟩ dX4_houseTold_17 (fun _ _ z => False.elim z) (fun v9 ws9 h61 => ?_)
          obtain ⟨rfl, hw9⟩ := h61
          subst ws9
          dsimp only [mPush]
          have hto61 := zTo_b (sse S 3) (sna S 3) (sow S 3) (sse S 2) (sna S 2) (sow S 2)
          refine r_if_geZ (tgt := 26) hX dX4_houseTold_20 (by decide) (by omega) (fun c62 => ?_) (fun c62 => ?_)
          · refine r_aload_n hX dX4_houseTold_26 rfl rfl ?_
            refine r_get hX kf_X4_13 14 rfl rfl dX4_houseTold_27 ?_
            refine r_iload hX dX4_houseTold_30 rfl ?_
            refine r_laldZ hX 16 1 rfl rfl 3 (by decide) (by decide) (by decide) dX4_houseTold_32 ?_
            refine r_aload_n hX dX4_houseTold_33 rfl rfl ?_
            refine r_get hX kf_X4_13 14 rfl rfl dX4_houseTold_34 ?_
            refine r_iload_n hX dX4_houseTold_37 rfl rfl ?_
            refine r_laldZ hX 16 1 rfl rfl 2 (by decide) (by decide) (by decide) dX4_houseTold_38 ?_
            refine r_lif_geZ (tgt := 46) hX dX4_houseTold_39 dX4_houseTold_40 (by decide) (by omega) (by omega) (fun c63 => ?_) (fun c63 => ?_)
            · refine r_iincZ (z := 1) (y := 4) hX dX4_houseTold_46 rfl (by decide) rfl rfl ?_
              refine r_goto (tgt := 7) hX dX4_houseTold_49 (by decide) ?_
              refine r_iload hX dX4_houseTold_7 rfl ?_
              refine r_iconstZ hX dX4_houseTold_9 ?_
              refine r_icmp_geZ (tgt := 52) hX dX4_houseTold_10 (by decide) (by decide) (by decide) (fun _ => ?_) (fun q => absurd (by decide) q)
              have ed : zFD S = 2 := zFst_1 (x := true) (a := 1) (y := true) (b := 2) (z := false) (decide_eq_true (by omega)) rfl (decide_eq_true (by omega)) rfl (decide_eq_false (by omega)) rfl
              have em : zFM S = 2 := zFst_1 (x := false) (a := 0) (y := true) (b := 2) (z := false) (decide_eq_false (by omega)) rfl (decide_eq_true (by omega)) rfl (decide_eq_false (by omega)) rfl
              exact r_loc (lv' := [(0, some (.ref (ae 0))), (1, some (.int (iZ w))), (2, some (.int (iZ 2))), (3, some (.int (iZ 2)))]) (by exact ⟨rfl, rfl, rfl, rfl, trivial⟩) (Nat.le_refl _) (Nat.le_refl _) (fin 2 2 (by rw [ed]; rfl) (by rw [em]; rfl))
            · refine r_iload hX dX4_houseTold_43 rfl ?_
              refine r_istore_n hX dX4_houseTold_45 rfl (by decide) rfl ?_
              refine r_iincZ (z := 1) (y := 4) hX dX4_houseTold_46 rfl (by decide) rfl rfl ?_
              refine r_goto (tgt := 7) hX dX4_houseTold_49 (by decide) ?_
              refine r_iload hX dX4_houseTold_7 rfl ?_
              refine r_iconstZ hX dX4_houseTold_9 ?_
              refine r_icmp_geZ (tgt := 52) hX dX4_houseTold_10 (by decide) (by decide) (by decide) (fun _ => ?_) (fun q => absurd (by decide) q)
              have ed : zFD S = 2 := zFst_1 (x := true) (a := 1) (y := true) (b := 2) (z := false) (decide_eq_true (by omega)) rfl (decide_eq_true (by omega)) rfl (decide_eq_false (by omega)) rfl
              have em : zFM S = 3 := zFst_1 (x := false) (a := 0) (y := true) (b := 2) (z := true) (decide_eq_false (by omega)) rfl (decide_eq_true (by omega)) rfl (decide_eq_true (by omega)) rfl
              exact r_loc (lv' := [(0, some (.ref (ae 0))), (1, some (.int (iZ w))), (2, some (.int (iZ 2))), (3, some (.int (iZ 3)))]) (by exact ⟨rfl, rfl, rfl, rfl, trivial⟩) (Nat.le_refl _) (Nat.le_refl _) (fin 2 3 (by rw [ed]; rfl) (by rw [em]; rfl))
          · refine r_iload hX dX4_houseTold_23 rfl ?_
            refine r_istore_n hX dX4_houseTold_25 rfl (by decide) rfl ?_
            refine r_aload_n hX dX4_houseTold_26 rfl rfl ?_
            refine r_get hX kf_X4_13 14 rfl rfl dX4_houseTold_27 ?_
            refine r_iload hX dX4_houseTold_30 rfl ?_
            refine r_laldZ hX 16 1 rfl rfl 3 (by decide) (by decide) (by decide) dX4_houseTold_32 ?_
            refine r_aload_n hX dX4_houseTold_33 rfl rfl ?_
            refine r_get hX kf_X4_13 14 rfl rfl dX4_houseTold_34 ?_
            refine r_iload_n hX dX4_houseTold_37 rfl rfl ?_
            refine r_laldZ hX 16 1 rfl rfl 2 (by decide) (by decide) (by decide) dX4_houseTold_38 ?_
            refine r_lif_geZ (tgt := 46) hX dX4_houseTold_39 dX4_houseTold_40 (by decide) (by omega) (by omega) (fun c64 => ?_) (fun c64 => ?_)
            · refine r_iincZ (z := 1) (y := 4) hX dX4_houseTold_46 rfl (by decide) rfl rfl ?_
              refine r_goto (tgt := 7) hX dX4_houseTold_49 (by decide) ?_
              refine r_iload hX dX4_houseTold_7 rfl ?_
              refine r_iconstZ hX dX4_houseTold_9 ?_
              refine r_icmp_geZ (tgt := 52) hX dX4_houseTold_10 (by decide) (by decide) (by decide) (fun _ => ?_) (fun q => absurd (by decide) q)
              have ed : zFD S = 3 := zFst_1 (x := true) (a := 1) (y := true) (b := 2) (z := true) (decide_eq_true (by omega)) rfl (decide_eq_true (by omega)) rfl (decide_eq_true (by omega)) rfl
              have em : zFM S = 2 := zFst_1 (x := false) (a := 0) (y := true) (b := 2) (z := false) (decide_eq_false (by omega)) rfl (decide_eq_true (by omega)) rfl (decide_eq_false (by omega)) rfl
              exact r_loc (lv' := [(0, some (.ref (ae 0))), (1, some (.int (iZ w))), (2, some (.int (iZ 3))), (3, some (.int (iZ 2)))]) (by exact ⟨rfl, rfl, rfl, rfl, trivial⟩) (Nat.le_refl _) (Nat.le_refl _) (fin 3 2 (by rw [ed]; rfl) (by rw [em]; rfl))
            · refine r_iload hX dX4_houseTold_43 rfl ?_
              refine r_istore_n hX dX4_houseTold_45 rfl (by decide) rfl ?_
              refine r_iincZ (z := 1) (y := 4) hX dX4_houseTold_46 rfl (by decide) rfl rfl ?_
              refine r_goto (tgt := 7) hX dX4_houseTold_49 (by decide) ?_
              refine r_iload hX dX4_houseTold_7 rfl ?_
              refine r_iconstZ hX dX4_houseTold_9 ?_
              refine r_icmp_geZ (tgt := 52) hX dX4_houseTold_10 (by decide) (by decide) (by decide) (fun _ => ?_) (fun q => absurd (by decide) q)
              have ed : zFD S = 3 := zFst_1 (x := true) (a := 1) (y := true) (b := 2) (z := true) (decide_eq_true (by omega)) rfl (decide_eq_true (by omega)) rfl (decide_eq_true (by omega)) rfl
              have em : zFM S = 3 := zFst_1 (x := false) (a := 0) (y := true) (b := 2) (z := true) (decide_eq_false (by omega)) rfl (decide_eq_true (by omega)) rfl (decide_eq_true (by omega)) rfl
              exact r_loc (lv' := [(0, some (.ref (ae 0))), (1, some (.int (iZ w))), (2, some (.int (iZ 3))), (3, some (.int (iZ 3)))]) (by exact ⟨rfl, rfl, rfl, rfl, trivial⟩) (Nat.le_refl _) (Nat.le_refl _) (fin 3 3 (by rw [ed]; rfl) (by rw [em]; rfl))
    · refine r_iload hX dX4_houseTold_43 rfl ?_
      refine r_istore_n hX dX4_houseTold_45 rfl (by decide) rfl ?_
      refine r_iincZ (z := 1) (y := 2) hX dX4_houseTold_46 rfl (by decide) rfl rfl ?_
      refine r_goto (tgt := 7) hX dX4_houseTold_49 (by decide) ?_
      refine r_iload hX dX4_houseTold_7 rfl ?_
      refine r_iconstZ hX dX4_houseTold_9 ?_
      refine r_icmp_geZ (tgt := 52) hX dX4_houseTold_10 (by decide) (by decide) (by decide) (fun q => absurd q (by decide)) (fun _ => ?_)
      refine r_aload_n hX dX4_houseTold_13 rfl rfl ?_
      refine r_iload hX dX4_houseTold_14 rfl ?_
      refine r_iload_n hX dX4_houseTold_16 rfl rfl ?_
      refine r_callV hX (z_X4_ordered ad ae cs K S th rest hS _ 2 (by omega) (by omega) _ 1 (by omega) (by omega)) kv_X4_196 14 rfl rfl rfl rfl (Nat.le_of_ble_eq_true rfl) ⟨(Nat.le_of_ble_eq_true rfl), (Nat.le_of_ble_eq_true rfl)⟩ ⟨(Nat.le_of_ble_eq_true rfl), (Nat.le_of_ble_eq_true rfl)⟩ dX4_houseTold_17 (fun _ _ z => False.elim z) (fun v9 ws9 h65 => ?_)
      obtain ⟨rfl, hw9⟩ := h65
      subst ws9
      dsimp only [mPush]
      have hto65 := zTo_b (sse S 2) (sna S 2) (sow S 2) (sse S 1) (sna S 1) (sow S 1)
      refine r_if_geZ (tgt := 26) hX dX4_houseTold_20 (by decide) (by omega) (fun c66 => ?_) (fun c66 => ?_)
      · refine r_aload_n hX dX4_houseTold_26 rfl rfl ?_
        refine r_get hX kf_X4_13 14 rfl rfl dX4_houseTold_27 ?_
        refine r_iload hX dX4_houseTold_30 rfl ?_
        refine r_laldZ hX 16 1 rfl rfl 2 (by decide) (by decide) (by decide) dX4_houseTold_32 ?_
        refine r_aload_n hX dX4_houseTold_33 rfl rfl ?_
        refine r_get hX kf_X4_13 14 rfl rfl dX4_houseTold_34 ?_
        refine r_iload_n hX dX4_houseTold_37 rfl rfl ?_
        refine r_laldZ hX 16 1 rfl rfl 1 (by decide) (by decide) (by decide) dX4_houseTold_38 ?_
        refine r_lif_geZ (tgt := 46) hX dX4_houseTold_39 dX4_houseTold_40 (by decide) (by omega) (by omega) (fun c67 => ?_) (fun c67 => ?_)
        · refine r_iincZ (z := 1) (y := 3) hX dX4_houseTold_46 rfl (by decide) rfl rfl ?_
          refine r_goto (tgt := 7) hX dX4_houseTold_49 (by decide) ?_
          refine r_iload hX dX4_houseTold_7 rfl ?_
          refine r_iconstZ hX dX4_houseTold_9 ?_
          refine r_icmp_geZ (tgt := 52) hX dX4_houseTold_10 (by decide) (by decide) (by decide) (fun q => absurd q (by decide)) (fun _ => ?_)
          refine r_aload_n hX dX4_houseTold_13 rfl rfl ?_
          refine r_iload hX dX4_houseTold_14 rfl ?_
          refine r_iload_n hX dX4_houseTold_16 rfl rfl ?_
          refine r_callV hX (z_X4_ordered ad ae cs K S th rest hS _ 3 (by omega) (by omega) _ 1 (by omega) (by omega)) kv_X4_196 14 rfl rfl rfl rfl (Nat.le_of_ble_eq_true rfl) ⟨(Nat.le_of_ble_eq_true rfl), (Nat.le_of_ble_eq_true rfl)⟩ ⟨(Nat.le_of_ble_eq_true rfl), (Nat.le_of_ble_eq_true rfl)⟩ dX4_houseTold_17 (fun _ _ z => False.elim z) (fun v9 ws9 h68 => ?_)
          obtain ⟨rfl, hw9⟩ := h68
          subst ws9
          dsimp only [mPush]
          have hto68 := zTo_b (sse S 3) (sna S 3) (sow S 3) (sse S 1) (sna S 1) (sow S 1)
          refine r_if_geZ (tgt := 26) hX dX4_houseTold_20 (by decide) (by omega) (fun c69 => ?_) (fun c69 => ?_)
          · refine r_aload_n hX dX4_houseTold_26 rfl rfl ?_
            refine r_get hX kf_X4_13 14 rfl rfl dX4_houseTold_27 ?_
            refine r_iload hX dX4_houseTold_30 rfl ?_
            refine r_laldZ hX 16 1 rfl rfl 3 (by decide) (by decide) (by decide) dX4_houseTold_32 ?_
            refine r_aload_n hX dX4_houseTold_33 rfl rfl ?_
            refine r_get hX kf_X4_13 14 rfl rfl dX4_houseTold_34 ?_
            refine r_iload_n hX dX4_houseTold_37 rfl rfl ?_
            refine r_laldZ hX 16 1 rfl rfl 1 (by decide) (by decide) (by decide) dX4_houseTold_38 ?_
            refine r_lif_geZ (tgt := 46) hX dX4_houseTold_39 dX4_houseTold_40 (by decide) (by omega) (by omega) (fun c70 => ?_) (fun c70 => ?_)
            · refine r_iincZ (z := 1) (y := 4) hX dX4_houseTold_46 rfl (by decide) rfl rfl ?_
              refine r_goto (tgt := 7) hX dX4_houseTold_49 (by decide) ?_
              refine r_iload hX dX4_houseTold_7 rfl ?_
              refine r_iconstZ hX dX4_houseTold_9 ?_
              refine r_icmp_geZ (tgt := 52) hX dX4_houseTold_10 (by decide) (by decide) (by decide) (fun _ => ?_) (fun q => absurd (by decide) q)
              have ed : zFD S = 1 := zFst_1 (x := true) (a := 1) (y := false) (b := 1) (z := false) (decide_eq_true (by omega)) rfl (decide_eq_false (by omega)) rfl (decide_eq_false (by omega)) rfl
              have em : zFM S = 1 := zFst_1 (x := true) (a := 1) (y := false) (b := 1) (z := false) (decide_eq_true (by omega)) rfl (decide_eq_false (by omega)) rfl (decide_eq_false (by omega)) rfl
              exact r_loc (lv' := [(0, some (.ref (ae 0))), (1, some (.int (iZ w))), (2, some (.int (iZ 1))), (3, some (.int (iZ 1)))]) (by exact ⟨rfl, rfl, rfl, rfl, trivial⟩) (Nat.le_refl _) (Nat.le_refl _) (fin 1 1 (by rw [ed]; rfl) (by rw [em]; rfl))
            · refine r_iload hX dX4_houseTold_43 rfl ?_
              refine r_istore_n hX dX4_houseTold_45 rfl (by decide) rfl ?_
              refine r_iincZ (z := 1) (y := 4) hX dX4_houseTold_46 rfl (by decide) rfl rfl ?_
              refine r_goto (tgt := 7) hX dX4_houseTold_49 (by decide) ?_
              refine r_iload hX dX4_houseTold_7 rfl ?_
              refine r_iconstZ hX dX4_houseTold_9 ?_
              refine r_icmp_geZ (tgt := 52) hX dX4_houseTold_10 (by decide) (by decide) (by decide) (fun _ => ?_) (fun q => absurd (by decide) q)
              have ed : zFD S = 1 := zFst_1 (x := true) (a := 1) (y := false) (b := 1) (z := false) (decide_eq_true (by omega)) rfl (decide_eq_false (by omega)) rfl (decide_eq_false (by omega)) rfl
              have em : zFM S = 3 := zFst_1 (x := true) (a := 1) (y := false) (b := 1) (z := true) (decide_eq_true (by omega)) rfl (decide_eq_false (by omega)) rfl (decide_eq_true (by omega)) rfl
              exact r_loc (lv' := [(0, some (.ref (ae 0))), (1, some (.int (iZ w))), (2, some (.int (iZ 1))), (3, some (.int (iZ 3)))]) (by exact ⟨rfl, rfl, rfl, rfl, trivial⟩) (Nat.le_refl _) (Nat.le_refl _) (fin 1 3 (by rw [ed]; rfl) (by rw [em]; rfl))
          · refine r_iload hX dX4_houseTold_23 rfl ?_
            refine r_istore_n hX dX4_houseTold_25 rfl (by decide) rfl ?_
            refine r_aload_n hX dX4_houseTold_26 rfl rfl ?_
            refine r_get hX kf_X4_13 14 rfl rfl dX4_houseTold_27 ?_
            refine r_iload hX dX4_houseTold_30 rfl ?_
            refine r_laldZ hX 16 1 rfl rfl 3 (by decide) (by decide) (by decide) dX4_houseTold_32 ?_
            refine r_aload_n hX dX4_houseTold_33 rfl rfl ?_
            refine r_get hX kf_X4_13 14 rfl rfl dX4_houseTold_34 ?_
            refine r_iload_n hX dX4_houseTold_37 rfl rfl ?_
            refine r_laldZ hX 16 1 rfl rfl 1 (by decide) (by decide) (by decide) dX4_houseTold_38 ?_
            refine r_lif_geZ (tgt := 46) hX dX4_houseTold_39 dX4_houseTold_40 (by decide) (by omega) (by omega) (fun c71 => ?_) (fun c71 => ?_)
            · refine r_iincZ (z := 1) (y := 4) hX dX4_houseTold_46 rfl (by decide) rfl rfl ?_
              refine r_goto (tgt := 7) hX dX4_houseTold_49 (by decide) ?_
              refine r_iload hX dX4_houseTold_7 rfl ?_
              refine r_iconstZ hX dX4_houseTold_9 ?_
              refine r_icmp_geZ (tgt := 52) hX dX4_houseTold_10 (by decide) (by decide) (by decide) (fun _ => ?_) (fun q => absurd (by decide) q)
              have ed : zFD S = 3 := zFst_1 (x := true) (a := 1) (y := false) (b := 1) (z := true) (decide_eq_true (by omega)) rfl (decide_eq_false (by omega)) rfl (decide_eq_true (by omega)) rfl
              have em : zFM S = 1 := zFst_1 (x := true) (a := 1) (y := false) (b := 1) (z := false) (decide_eq_true (by omega)) rfl (decide_eq_false (by omega)) rfl (decide_eq_false (by omega)) rfl
              exact r_loc (lv' := [(0, some (.ref (ae 0))), (1, some (.int (iZ w))), (2, some (.int (iZ 3))), (3, some (.int (iZ 1)))]) (by exact ⟨rfl, rfl, rfl, rfl, trivial⟩) (Nat.le_refl _) (Nat.le_refl _) (fin 3 1 (by rw [ed]; rfl) (by rw [em]; rfl))
            · refine r_iload hX dX4_houseTold_43 rfl ?_
              refine r_istore_n hX dX4_houseTold_45 rfl (by decide) rfl ?_
              refine r_iincZ (z := 1) (y := 4) hX dX4_houseTold_46 rfl (by decide) rfl rfl ?_
              refine r_goto (tgt := 7) hX dX4_houseTold_49 (by decide) ?_
              refine r_iload hX dX4_houseTold_7 rfl ?_
              refine r_iconstZ hX dX4_houseTold_9 ?_
              refine r_icmp_geZ (tgt := 52) hX dX4_houseTold_10 (by decide) (by decide) (by decide) (fun _ => ?_) (fun q => absurd (by decide) q)
              have ed : zFD S = 3 := zFst_1 (x := true) (a := 1) (y := false) (b := 1) (z := true) (decide_eq_true (by omega)) rfl (decide_eq_false (by omega)) rfl (decide_eq_true (by omega)) rfl
              have em : zFM S = 3 := zFst_1 (x := true) (a := 1) (y := false) (b := 1) (z := true) (decide_eq_true (by omega)) rfl (decide_eq_false (by omega)) rfl (decide_eq_true (by omega)) rfl
              exact r_loc (lv' := [(0, some (.ref (ae 0))), (1, some (.int (iZ w))), (2, some (.int (iZ 3))), (3, some (.int (iZ 3)))]) (by exact ⟨rfl, rfl, rfl, rfl, trivial⟩) (Nat.le_refl _) (Nat.le_refl _) (fin 3 3 (by rw [ed]; rfl) (by rw [em]; rfl))
        · refine r_iload hX dX4_houseTold_43 rfl ?_
          refine r_istore_n hX dX4_houseTold_45 rfl (by decide) rfl ?_
          refine r_iincZ (z := 1) (y := 3) hX dX4_houseTold_46 rfl (by decide) rfl rfl ?_
          refine r_goto (tgt := 7) hX dX4_houseTold_49 (by decide) ?_
          refine r_iload hX dX4_houseTold_7 rfl ?_
          refine r_iconstZ hX dX4_houseTold_9 ?_
          refine r_icmp_geZ (tgt := 52) hX dX4_houseTold_10 (by decide) (by decide) (by decide) (fun q => absurd q (by decide)) (fun _ => ?_)
          refine r_aload_n hX dX4_houseTold_13 rfl rfl ?_
          refine r_iload hX dX4_houseTold_14 rfl ?_
          refine r_iload_n hX dX4_houseTold_16 rfl rfl ?_
          refine r_callV hX (z_X4_ordered ad ae cs K S th rest hS _ 3 (by omega) (by omega) _ 1 (by omega) (by omega)) kv_X4_196 14 rfl rfl rfl rfl (Nat.le_of_ble_eq_true rfl) ⟨(Nat.le_of_ble_eq_true rfl), (Nat.le_of_ble_eq_true rfl)⟩ ⟨(Nat.le_of_ble_eq_true rfl), (Nat.le_of_ble_eq_true rfl)⟩ dX4_houseTold_17 (fun _ _ z => False.elim z) (fun v9 ws9 h72 => ?_)
          obtain ⟨rfl, hw9⟩ := h72
          subst ws9
          dsimp only [mPush]
          have hto72 := zTo_b (sse S 3) (sna S 3) (sow S 3) (sse S 1) (sna S 1) (sow S 1)
          refine r_if_geZ (tgt := 26) hX dX4_houseTold_20 (by decide) (by omega) (fun c73 => ?_) (fun c73 => ?_)
          · refine r_aload_n hX dX4_houseTold_26 rfl rfl ?_
            refine r_get hX kf_X4_13 14 rfl rfl dX4_houseTold_27 ?_
            refine r_iload hX dX4_houseTold_30 rfl ?_
            refine r_laldZ hX 16 1 rfl rfl 3 (by decide) (by decide) (by decide) dX4_houseTold_32 ?_
            refine r_aload_n hX dX4_houseTold_33 rfl rfl ?_
            refine r_get hX kf_X4_13 14 rfl rfl dX4_houseTold_34 ?_
            refine r_iload_n hX dX4_houseTold_37 rfl rfl ?_
            refine r_laldZ hX 16 1 rfl rfl 2 (by decide) (by decide) (by decide) dX4_houseTold_38 ?_
            refine r_lif_geZ (tgt := 46) hX dX4_houseTold_39 dX4_houseTold_40 (by decide) (by omega) (by omega) (fun c74 => ?_) (fun c74 => ?_)
            · refine r_iincZ (z := 1) (y := 4) hX dX4_houseTold_46 rfl (by decide) rfl rfl ?_
              refine r_goto (tgt := 7) hX dX4_houseTold_49 (by decide) ?_
              refine r_iload hX dX4_houseTold_7 rfl ?_
              refine r_iconstZ hX dX4_houseTold_9 ?_
              refine r_icmp_geZ (tgt := 52) hX dX4_houseTold_10 (by decide) (by decide) (by decide) (fun _ => ?_) (fun q => absurd (by decide) q)
              have ed : zFD S = 1 := zFst_1 (x := true) (a := 1) (y := false) (b := 1) (z := false) (decide_eq_true (by omega)) rfl (decide_eq_false (by omega)) rfl (decide_eq_false (by omega)) rfl
              have em : zFM S = 2 := zFst_1 (x := true) (a := 1) (y := true) (b := 2) (z := false) (decide_eq_true (by omega)) rfl (decide_eq_true (by omega)) rfl (decide_eq_false (by omega)) rfl
              exact r_loc (lv' := [(0, some (.ref (ae 0))), (1, some (.int (iZ w))), (2, some (.int (iZ 1))), (3, some (.int (iZ 2)))]) (by exact ⟨rfl, rfl, rfl, rfl, trivial⟩) (Nat.le_refl _) (Nat.le_refl _) (fin 1 2 (by rw [ed]; rfl) (by rw [em]; rfl))
            · refine r_iload hX dX4_houseTold_43 rfl ?_
              refine r_istore_n hX dX4_houseTold_45 rfl (by decide) rfl ?_
              refine r_iincZ (z := 1) (y := 4) hX dX4_houseTold_46 rfl (by decide) rfl rfl ?_
              refine r_goto (tgt := 7) hX dX4_houseTold_49 (by decide) ?_
              refine r_iload hX dX4_houseTold_7 rfl ?_
              refine r_iconstZ hX dX4_houseTold_9 ?_
              refine r_icmp_geZ (tgt := 52) hX dX4_houseTold_10 (by decide) (by decide) (by decide) (fun _ => ?_) (fun q => absurd (by decide) q)
              have ed : zFD S = 1 := zFst_1 (x := true) (a := 1) (y := false) (b := 1) (z := false) (decide_eq_true (by omega)) rfl (decide_eq_false (by omega)) rfl (decide_eq_false (by omega)) rfl
              have em : zFM S = 3 := zFst_1 (x := true) (a := 1) (y := true) (b := 2) (z := true) (decide_eq_true (by omega)) rfl (decide_eq_true (by omega)) rfl (decide_eq_true (by omega)) rfl
              exact r_loc (lv' := [(0, some (.ref (ae 0))), (1, some (.int (iZ w))), (2, some (.int (iZ 1))), (3, some (.int (iZ 3)))]) (by exact ⟨rfl, rfl, rfl, rfl, trivial⟩) (Nat.le_refl _) (Nat.le_refl _) (fin 1 3 (by rw [ed]; rfl) (by rw [em]; rfl))
          · refine r_iload hX dX4_houseTold_23 rfl ?_
            refine r_istore_n hX dX4_houseTold_25 rfl (by decide) rfl ?_
            refine r_aload_n hX dX4_houseTold_26 rfl rfl ?_
            refine r_get hX kf_X4_13 14 rfl rfl dX4_houseTold_27 ?_
            refine r_iload hX dX4_houseTold_30 rfl ?_
            refine r_laldZ hX 16 1 rfl rfl 3 (by decide) (by decide) (by decide) dX4_houseTold_32 ?_
            refine r_aload_n hX dX4_houseTold_33 rfl rfl ?_
            refine r_get hX kf_X4_13 14 rfl rfl dX4_houseTold_34 ?_
            refine r_iload_n hX dX4_houseTold_37 rfl rfl ?_
            refine r_laldZ hX 16 1 rfl rfl 2 (by decide) (by decide) (by decide) dX4_houseTold_38 ?_
            refine r_lif_geZ (tgt := 46) hX dX4_houseTold_39 dX4_houseTold_40 (by decide) (by omega) (by omega) (fun c75 => ?_) (fun c75 => ?_)
            · refine r_iincZ (z := 1) (y := 4) hX dX4_houseTold_46 rfl (by decide) rfl rfl ?_
              refine r_goto (tgt := 7) hX dX4_houseTold_49 (by decide) ?_
              refine r_iload hX dX4_houseTold_7 rfl ?_
              refine r_iconstZ hX dX4_houseTold_9 ?_
              refine r_icmp_geZ (tgt := 52) hX dX4_houseTold_10 (by decide) (by decide) (by decide) (fun _ => ?_) (fun q => absurd (by decide) q)
              have ed : zFD S = 3 := zFst_1 (x := true) (a := 1) (y := false) (b := 1) (z := true) (decide_eq_true (by omega)) rfl (decide_eq_false (by omega)) rfl (decide_eq_true (by omega)) rfl
              have em : zFM S = 2 := zFst_1 (x := true) (a := 1) (y := true) (b := 2) (z := false) (decide_eq_true (by omega)) rfl (decide_eq_true (by omega)) rfl (decide_eq_false (by omega)) rfl
              exact r_loc (lv' := [(0, some (.ref (ae 0))), (1, some (.int (iZ w))), (2, some (.int (iZ 3))), (3, some (.int (iZ 2)))]) (by exact ⟨rfl, rfl, rfl, rfl, trivial⟩) (Nat.le_refl _) (Nat.le_refl _) (fin 3 2 (by rw [ed]; rfl) (by rw [em]; rfl))
            · refine r_iload hX dX4_houseTold_43 rfl ?_
              refine r_istore_n hX dX4_houseTold_45 rfl (by decide) rfl ?_
              refine r_iincZ (z := 1) (y := 4) hX dX4_houseTold_46 rfl (by decide) rfl rfl ?_
              refine r_goto (tgt := 7) hX dX4_houseTold_49 (by decide) ?_
              refine r_iload hX dX4_houseTold_7 rfl ?_
              refine r_iconstZ hX dX4_houseTold_9 ?_
              refine r_icmp_geZ (tgt := 52) hX dX4_houseTold_10 (by decide) (by decide) (by decide) (fun _ => ?_) (fun q => absurd (by decide) q)
              have ed : zFD S = 3 := zFst_1 (x := true) (a := 1) (y := false) (b := 1) (z := true) (decide_eq_true (by omega)) rfl (decide_eq_false (by omega)) rfl (decide_eq_true (by omega)) rfl
              have em : zFM S = 3 := zFst_1 (x := true) (a := 1) (y := true) (b := 2) (z := true) (decide_eq_true (by omega)) rfl (decide_eq_true (by omega)) rfl (decide_eq_true (by omega)) rfl
              exact r_loc (lv' := [(0, some (.ref (ae 0))), (1, some (.int (iZ w))), (2, some (.int (iZ 3))), (3, some (.int (iZ 3)))]) (by exact ⟨rfl, rfl, rfl, rfl, trivial⟩) (Nat.le_refl _) (Nat.le_refl _) (fin 3 3 (by rw [ed]; rfl) (by rw [em]; rfl))
      · refine r_iload hX dX4_houseTold_23 rfl ?_
        refine r_istore_n hX dX4_houseTold_25 rfl (by decide) rfl ?_
        refine r_aload_n hX dX4_houseTold_26 rfl rfl ?_
        refine r_get hX kf_X4_13 14 rfl rfl dX4_houseTold_27 ?_
        refine r_iload hX dX4_houseTold_30 rfl ?_
        refine r_laldZ hX 16 1 rfl rfl 2 (by decide) (by decide) (by decide) dX4_houseTold_32 ?_
        refine r_aload_n hX dX4_houseTold_33 rfl rfl ?_
        refine r_get hX kf_X4_13 14 rfl rfl dX4_houseTold_34 ?_
        refine r_iload_n hX dX4_houseTold_37 rfl rfl ?_
        refine r_laldZ hX 16 1 rfl rfl 1 (by decide) (by decide) (by decide) dX4_houseTold_38 ?_
        refine r_lif_geZ (tgt := 46) hX dX4_houseTold_39 dX4_houseTold_40 (by decide) (by omega) (by omega) (fun c76 => ?_) (fun c76 => ?_)
        · refine r_iincZ (z := 1) (y := 3) hX dX4_houseTold_46 rfl (by decide) rfl rfl ?_
          refine r_goto (tgt := 7) hX dX4_houseTold_49 (by decide) ?_
          refine r_iload hX dX4_houseTold_7 rfl ?_
          refine r_iconstZ hX dX4_houseTold_9 ?_
          refine r_icmp_geZ (tgt := 52) hX dX4_houseTold_10 (by decide) (by decide) (by decide) (fun q => absurd q (by decide)) (fun _ => ?_)
          refine r_aload_n hX dX4_houseTold_13 rfl rfl ?_
          refine r_iload hX dX4_houseTold_14 rfl ?_
          refine r_iload_n hX dX4_houseTold_16 rfl rfl ?_
          refine r_callV hX (z_X4_ordered ad ae cs K S th rest hS _ 3 (by omega) (by omega) _ 2 (by omega) (by omega)) kv_X4_196 14 rfl rfl rfl rfl (Nat.le_of_ble_eq_true rfl) ⟨(Nat.le_of_ble_eq_true rfl), (Nat.le_of_ble_eq_true rfl)⟩ ⟨(Nat.le_of_ble_eq_true rfl), (Nat.le_of_ble_eq_true rfl)⟩ dX4_houseTold_17 (fun _ _ z => False.elim z) (fun v9 ws9 h77 => ?_)
          obtain ⟨rfl, hw9⟩ := h77
          subst ws9
          dsimp only [mPush]
          have hto77 := zTo_b (sse S 3) (sna S 3) (sow S 3) (sse S 2) (sna S 2) (sow S 2)
          refine r_if_geZ (tgt := 26) hX dX4_houseTold_20 (by decide) (by omega) (fun c78 => ?_) (fun c78 => ?_)
          · refine r_aload_n hX dX4_houseTold_26 rfl rfl ?_
            refine r_get hX kf_X4_13 14 rfl rfl dX4_houseTold_27 ?_
            refine r_iload hX dX4_houseTold_30 rfl ?_
            refine r_laldZ hX 16 1 rfl rfl 3 (by decide) (by decide) (by decide) dX4_houseTold_32 ?_
            refine r_aload_n hX dX4_houseTold_33 rfl rfl ?_
            refine r_get hX kf_X4_13 14 rfl rfl dX4_houseTold_34 ?_
            refine r_iload_n hX dX4_houseTold_37 rfl rfl ?_
            refine r_laldZ hX 16 1 rfl rfl 1 (by decide) (by decide) (by decide) dX4_houseTold_38 ?_
            refine r_lif_geZ (tgt := 46) hX dX4_houseTold_39 dX4_houseTold_40 (by decide) (by omega) (by omega) (fun c79 => ?_) (fun c79 => ?_)
            · refine r_iincZ (z := 1) (y := 4) hX dX4_houseTold_46 rfl (by decide) rfl rfl ?_
              refine r_goto (tgt := 7) hX dX4_houseTold_49 (by decide) ?_
              refine r_iload hX dX4_houseTold_7 rfl ?_
              refine r_iconstZ hX dX4_houseTold_9 ?_
              refine r_icmp_geZ (tgt := 52) hX dX4_houseTold_10 (by decide) (by decide) (by decide) (fun _ => ?_) (fun q => absurd (by decide) q)
              have ed : zFD S = 2 := zFst_1 (x := true) (a := 1) (y := true) (b := 2) (z := false) (decide_eq_true (by omega)) rfl (decide_eq_true (by omega)) rfl (decide_eq_false (by omega)) rfl
              have em : zFM S = 1 := zFst_1 (x := true) (a := 1) (y := false) (b := 1) (z := false) (decide_eq_true (by omega)) rfl (decide_eq_false (by omega)) rfl (decide_eq_false (by omega)) rfl
              exact r_loc (lv' := [(0, some (.ref (ae 0))), (1, some (.int (iZ w))), (2, some (.int (iZ 2))), (3, some (.int (iZ 1)))]) (by exact ⟨rfl, rfl, rfl, rfl, trivial⟩) (Nat.le_refl _) (Nat.le_refl _) (fin 2 1 (by rw [ed]; rfl) (by rw [em]; rfl))
            · refine r_iload hX dX4_houseTold_43 rfl ?_
              refine r_istore_n hX dX4_houseTold_45 rfl (by decide) rfl ?_
              refine r_iincZ (z := 1) (y := 4) hX dX4_houseTold_46 rfl (by decide) rfl rfl ?_
              refine r_goto (tgt := 7) hX dX4_houseTold_49 (by decide) ?_
              refine r_iload hX dX4_houseTold_7 rfl ?_
              refine r_iconstZ hX dX4_houseTold_9 ?_
              refine r_icmp_geZ (tgt := 52) hX dX4_houseTold_10 (by decide) (by decide) (by decide) (fun _ => ?_) (fun q => absurd (by decide) q)
              have ed : zFD S = 2 := zFst_1 (x := true) (a := 1) (y := true) (b := 2) (z := false) (decide_eq_true (by omega)) rfl (decide_eq_true (by omega)) rfl (decide_eq_false (by omega)) rfl
              have em : zFM S = 3 := zFst_1 (x := true) (a := 1) (y := false) (b := 1) (z := true) (decide_eq_true (by omega)) rfl (decide_eq_false (by omega)) rfl (decide_eq_true (by omega)) rfl
              exact r_loc (lv' := [(0, some (.ref (ae 0))), (1, some (.int (iZ w))), (2, some (.int (iZ 2))), (3, some (.int (iZ 3)))]) (by exact ⟨rfl, rfl, rfl, rfl, trivial⟩) (Nat.le_refl _) (Nat.le_refl _) (fin 2 3 (by rw [ed]; rfl) (by rw [em]; rfl))
          · refine r_iload hX dX4_houseTold_23 rfl ?_
            refine r_istore_n hX dX4_houseTold_25 rfl (by decide) rfl ?_
            refine r_aload_n hX dX4_houseTold_26 rfl rfl ?_
            refine r_get hX kf_X4_13 14 rfl rfl dX4_houseTold_27 ?_
            refine r_iload hX dX4_houseTold_30 rfl ?_
            refine r_laldZ hX 16 1 rfl rfl 3 (by decide) (by decide) (by decide) dX4_houseTold_32 ?_
            refine r_aload_n hX dX4_houseTold_33 rfl rfl ?_
            refine r_get hX kf_X4_13 14 rfl rfl dX4_houseTold_34 ?_
            refine r_iload_n hX dX4_houseTold_37 rfl rfl ?_
            refine r_laldZ hX 16 1 rfl rfl 1 (by decide) (by decide) (by decide) dX4_houseTold_38 ?_
            refine r_lif_geZ (tgt := 46) hX dX4_houseTold_39 dX4_houseTold_40 (by decide) (by omega) (by omega) (fun c80 => ?_) (fun c80 => ?_)
            · refine r_iincZ (z := 1) (y := 4) hX dX4_houseTold_46 rfl (by decide) rfl rfl ?_
              refine r_goto (tgt := 7) hX dX4_houseTold_49 (by decide) ?_
              refine r_iload hX dX4_houseTold_7 rfl ?_
              refine r_iconstZ hX dX4_houseTold_9 ?_
              refine r_icmp_geZ (tgt := 52) hX dX4_houseTold_10 (by decide) (by decide) (by decide) (fun _ => ?_) (fun q => absurd (by decide) q)
              have ed : zFD S = 3 := zFst_1 (x := true) (a := 1) (y := true) (b := 2) (z := true) (decide_eq_true (by omega)) rfl (decide_eq_true (by omega)) rfl (decide_eq_true (by omega)) rfl
              have em : zFM S = 1 := zFst_1 (x := true) (a := 1) (y := false) (b := 1) (z := false) (decide_eq_true (by omega)) rfl (decide_eq_false (by omega)) rfl (decide_eq_false (by omega)) rfl
              exact r_loc (lv' := [(0, some (.ref (ae 0))), (1, some (.int (iZ w))), (2, some (.int (iZ 3))), (3, some (.int (iZ 1)))]) (by exact ⟨rfl, rfl, rfl, rfl, trivial⟩) (Nat.le_refl _) (Nat.le_refl _) (fin 3 1 (by rw [ed]; rfl) (by rw [em]; rfl))
            · refine r_iload hX dX4_houseTold_43 rfl ?_
              refine r_istore_n hX dX4_houseTold_45 rfl (by decide) rfl ?_
              refine r_iincZ (z := 1) (y := 4) hX dX4_houseTold_46 rfl (by decide) rfl rfl ?_
              refine r_goto (tgt := 7) hX dX4_houseTold_49 (by decide) ?_
              refine r_iload hX dX4_houseTold_7 rfl ?_
              refine r_iconstZ hX dX4_houseTold_9 ?_
              refine r_icmp_geZ (tgt := 52) hX dX4_houseTold_10 (by decide) (by decide) (by decide) (fun _ => ?_) (fun q => absurd (by decide) q)
              have ed : zFD S = 3 := zFst_1 (x := true) (a := 1) (y := true) (b := 2) (z := true) (decide_eq_true (by omega)) rfl (decide_eq_true (by omega)) rfl (decide_eq_true (by omega)) rfl
              have em : zFM S = 3 := zFst_1 (x := true) (a := 1) (y := false) (b := 1) (z := true) (decide_eq_true (by omega)) rfl (decide_eq_false (by omega)) rfl (decide_eq_true (by omega)) rfl
              exact r_loc (lv' := [(0, some (.ref (ae 0))), (1, some (.int (iZ w))), (2, some (.int (iZ 3))), (3, some (.int (iZ 3)))]) (by exact ⟨rfl, rfl, rfl, rfl, trivial⟩) (Nat.le_refl _) (Nat.le_refl _) (fin 3 3 (by rw [ed]; rfl) (by rw [em]; rfl))
        · refine r_iload hX dX4_houseTold_43 rfl ?_
          refine r_istore_n hX dX4_houseTold_45 rfl (by decide) rfl ?_
          refine r_iincZ (z := 1) (y := 3) hX dX4_houseTold_46 rfl (by decide) rfl rfl ?_
          refine r_goto (tgt := 7) hX dX4_houseTold_49 (by decide) ?_
          refine r_iload hX dX4_houseTold_7 rfl ?_
          refine r_iconstZ hX dX4_houseTold_9 ?_
          refine r_icmp_geZ (tgt := 52) hX dX4_houseTold_10 (by decide) (by decide) (by decide) (fun q => absurd q (by decide)) (fun _ => ?_)
          refine r_aload_n hX dX4_houseTold_13 rfl rfl ?_
          refine r_iload hX dX4_houseTold_14 rfl ?_
          refine r_iload_n hX dX4_houseTold_16 rfl rfl ?_
          refine r_callV hX (z_X4_ordered ad ae cs K S th rest hS _ 3 (by omega) (by omega) _ 2 (by omega) (by omega)) kv_X4_196 14 rfl rfl rfl rfl (Nat.le_of_ble_eq_true rfl) ⟨(Nat.le_of_ble_eq_true rfl), (Nat.le_of_ble_eq_true rfl)⟩ ⟨(Nat.le_of_ble_eq_true rfl), (Nat.le_of_ble_eq_true rfl)⟩ dX4_houseTold_17 (fun _ _ z => False.elim z) (fun v9 ws9 h81 => ?_)
          obtain ⟨rfl, hw9⟩ := h81
          subst ws9
          dsimp only [mPush]
          have hto81 := zTo_b (sse S 3) (sna S 3) (sow S 3) (sse S 2) (sna S 2) (sow S 2)
          refine r_if_geZ (tgt := 26) hX dX4_houseTold_20 (by decide) (by omega) (fun c82 => ?_) (fun c82 => ?_)
          · refine r_aload_n hX dX4_houseTold_26 rfl rfl ?_
            refine r_get hX kf_X4_13 14 rfl rfl dX4_houseTold_27 ?_
            refine r_iload hX dX4_houseTold_30 rfl ?_
            refine r_laldZ hX 16 1 rfl rfl 3 (by decide) (by decide) (by decide) dX4_houseTold_32 ?_
            refine r_aload_n hX dX4_houseTold_33 rfl rfl ?_
            refine r_get hX kf_X4_13 14 rfl rfl dX4_houseTold_34 ?_
            refine r_iload_n hX dX4_houseTold_37 rfl rfl ?_
            refine r_laldZ hX 16 1 rfl rfl 2 (by decide) (by decide) (by decide) dX4_houseTold_38 ?_
            refine r_lif_geZ (tgt := 46) hX dX4_houseTold_39 dX4_houseTold_40 (by decide) (by omega) (by omega) (fun c83 => ?_) (fun c83 => ?_)
            · refine r_iincZ (z := 1) (y := 4) hX dX4_houseTold_46 rfl (by decide) rfl rfl ?_
              refine r_goto (tgt := 7) hX dX4_houseTold_49 (by decide) ?_
              refine r_iload hX dX4_houseTold_7 rfl ?_
              refine r_iconstZ hX dX4_houseTold_9 ?_
              refine r_icmp_geZ (tgt := 52) hX dX4_houseTold_10 (by decide) (by decide) (by decide) (fun _ => ?_) (fun q => absurd (by decide) q)
              have ed : zFD S = 2 := zFst_1 (x := true) (a := 1) (y := true) (b := 2) (z := false) (decide_eq_true (by omega)) rfl (decide_eq_true (by omega)) rfl (decide_eq_false (by omega)) rfl
              have em : zFM S = 2 := zFst_1 (x := true) (a := 1) (y := true) (b := 2) (z := false) (decide_eq_true (by omega)) rfl (decide_eq_true (by omega)) rfl (decide_eq_false (by omega)) rfl
              exact r_loc (lv' := [(0, some (.ref (ae 0))), (1, some (.int (iZ w))), (2, some (.int (iZ 2))), (3, some (.int (iZ 2)))]) (by exact ⟨rfl, rfl, rfl, rfl, trivial⟩) (Nat.le_refl _) (Nat.le_refl _) (fin 2 2 (by rw [ed]; rfl) (by rw [em]; rfl))
            · refine r_iload hX dX4_houseTold_43 rfl ?_
              refine r_istore_n hX dX4_houseTold_45 rfl (by decide) rfl ?_
              refine r_iincZ (z := 1) (y := 4) hX dX4_houseTold_46 rfl (by decide) rfl rfl ?_
              refine r_goto (tgt := 7) hX dX4_houseTold_49 (by decide) ?_
              refine r_iload hX dX4_houseTold_7 rfl ?_
              refine r_iconstZ hX dX4_houseTold_9 ?_
              refine r_icmp_geZ (tgt := 52) hX dX4_houseTold_10 (by decide) (by decide) (by decide) (fun _ => ?_) (fun q => absurd (by decide) q)
              have ed : zFD S = 2 := zFst_1 (x := true) (a := 1) (y := true) (b := 2) (z := false) (decide_eq_true (by omega)) rfl (decide_eq_true (by omega)) rfl (decide_eq_false (by omega)) rfl
              have em : zFM S = 3 := zFst_1 (x := true) (a := 1) (y := true) (b := 2) (z := true) (decide_eq_true (by omega)) rfl (decide_eq_true (by omega)) rfl (decide_eq_true (by omega)) rfl
              exact r_loc (lv' := [(0, some (.ref (ae 0))), (1, some (.int (iZ w))), (2, some (.int (iZ 2))), (3, some (.int (iZ 3)))]) (by exact ⟨rfl, rfl, rfl, rfl, trivial⟩) (Nat.le_refl _) (Nat.le_refl _) (fin 2 3 (by rw [ed]; rfl) (by rw [em]; rfl))
          · refine r_iload hX dX4_houseTold_23 rfl ?_
            refine r_istore_n hX dX4_houseTold_25 rfl (by decide) rfl ?_
            refine r_aload_n hX dX4_houseTold_26 rfl rfl ?_
            refine r_get hX kf_X4_13 14 rfl rfl dX4_houseTold_27 ?_
            refine r_iload hX dX4_houseTold_30 rfl ?_
            refine r_laldZ hX 16 1 rfl rfl 3 (by decide) (by decide) (by decide) dX4_houseTold_32 ?_
            refine r_aload_n hX dX4_houseTold_33 rfl rfl ?_
            refine r_get hX kf_X4_13 14 rfl rfl dX4_houseTold_34 ?_
            refine r_iload_n hX dX4_houseTold_37 rfl rfl ?_
            refine r_laldZ hX 16 1 rfl rfl 2 (by decide) (by decide) (by decide) dX4_houseTold_38 ?_
            refine r_lif_geZ (tgt := 46) hX dX4_houseTold_39 dX4_houseTold_40 (by decide) (by omega) (by omega) (fun c84 => ?_) (fun c84 => ?_)
            · refine r_iincZ (z := 1) (y := 4) hX dX4_houseTold_46 rfl (by decide) rfl rfl ?_
              refine r_goto (tgt := 7) hX dX4_houseTold_49 (by decide) ?_
              refine r_iload hX dX4_houseTold_7 rfl ?_
              refine r_iconstZ hX dX4_houseTold_9 ?_
              refine r_icmp_geZ (tgt := 52) hX dX4_houseTold_10 (by decide) (by decide) (by decide) (fun _ => ?_) (fun q => absurd (by decide) q)
              have ed : zFD S = 3 := zFst_1 (x := true) (a := 1) (y := true) (b := 2) (z := true) (decide_eq_true (by omega)) rfl (decide_eq_true (by omega)) rfl (decide_eq_true (by omega)) rfl
              have em : zFM S = 2 := zFst_1 (x := true) (a := 1) (y := true) (b := 2) (z := false) (decide_eq_true (by omega)) rfl (decide_eq_true (by omega)) rfl (decide_eq_false (by omega)) rfl
              exact r_loc (lv' := [(0, some (.ref (ae 0))), (1, some (.int (iZ w))), (2, some (.int (iZ 3))), (3, some (.int (iZ 2)))]) (by exact ⟨rfl, rfl, rfl, rfl, trivial⟩) (Nat.le_refl _) (Nat.le_refl _) (fin 3 2 (by rw [ed]; rfl) (by rw [em]; rfl))
            · refine r_iload hX dX4_houseTold_43 rfl ?_
              refine r_istore_n hX dX4_houseTold_45 rfl (by decide) rfl ?_
              refine r_iincZ (z := 1) (y := 4) hX dX4_houseTold_46 rfl (by decide) rfl rfl ?_
              refine r_goto (tgt := 7) hX dX4_houseTold_49 (by decide) ?_
              refine r_iload hX dX4_houseTold_7 rfl ?_
              refine r_iconstZ hX dX4_houseTold_9 ?_
              refine r_icmp_geZ (tgt := 52) hX dX4_houseTold_10 (by decide) (by decide) (by decide) (fun _ => ?_) (fun q => absurd (by decide) q)
              have ed : zFD S = 3 := zFst_1 (x := true) (a := 1) (y := true) (b := 2) (z := true) (decide_eq_true (by omega)) rfl (decide_eq_true (by omega)) rfl (decide_eq_true (by omega)) rfl
              have em : zFM S = 3 := zFst_1 (x := true) (a := 1) (y := true) (b := 2) (z := true) (decide_eq_true (by omega)) rfl (decide_eq_true (by omega)) rfl (decide_eq_true (by omega)) rfl
              exact r_loc (lv' := [(0, some (.ref (ae 0))), (1, some (.int (iZ w))), (2, some (.int (iZ 3))), (3, some (.int (iZ 3)))]) (by exact ⟨rfl, rfl, rfl, rfl, trivial⟩) (Nat.le_refl _) (Nat.le_refl _) (fin 3 3 (by rw [ed]; rfl) (by rw [em]; rfl))
set_option maxHeartbeats 4000000 in
set_option maxRecDepth 20000 in
theorem z_X4_house (ad ae : Nat → Nat) (cs : ClassId × ClassId × ClassId) (K : mK) (S : mS) (th : Int32) (rest : va_W) (hS : sWF S) (a0 : Int) (h0 : rJ a0)  : mCt (mTy cs) yX4_house cX4_house 2 (some .int) ⟨4, 0, 0, 89⟩ [.ref (ae 0), .int (iZ a0)] (mRw ad ae cs K (mJof S th) rest) (fun v ws' => ∃ r : Int32, v = some (.int r) ∧ (((0 ≤ a0 ∧ a0 ≤ 3) ∧ r = zHo S a0 ∧ ws' = mRw ad ae cs K (mJof S 0) rest) ∨ (¬ (0 ≤ a0 ∧ a0 ≤ 3) ∧ ws' = mRw ad ae cs K (mJof S 1) rest))) mNo := by
  refine mCt.of (by decide +kernel) (Nat.le_of_ble_eq_true rfl) (fun X hX hE => ?_)
  replace hX : mOK X RX4 cX4_house 2 ⟨4, 0, 0, 89⟩ [] (mTy cs) := hX
  refine r_aload_n hX dX4_house_0 rfl rfl ?_
  refine r_iload_n hX dX4_house_1 rfl rfl ?_
  refine r_i2lZ hX dX4_house_2 (by omega) ?_
  refine r_lconstZ (v := 0) hX dX4_house_3 rfl ?_
  refine r_ldc2Z (z := 3) hX kc_X4_36 (by decide) dX4_house_4 ?_
  refine r_callS hX (z_X4_isIn _ _ _ _ _ (by omega) (by omega) (by omega)) ks_X4_38 rfl rfl (Nat.le_of_ble_eq_true rfl) ⟨(Nat.le_of_ble_eq_true rfl), (Nat.le_of_ble_eq_true rfl)⟩ ⟨(Nat.le_of_ble_eq_true rfl), (Nat.le_of_ble_eq_true rfl)⟩ dX4_house_7 (fun _ _ z => False.elim z) (fun v9 ws9 h1 => ?_)
  obtain ⟨rfl, hw9⟩ := h1
  subst ws9
  dsimp only [mPush]
  refine r_if_neB (tgt := 17) hX dX4_house_10 (by decide) (fun c2 => ?_) (fun c2 => ?_)
  · have c2 := of_decide_eq_true c2
    refine r_iconst (v := b2i false) hX dX4_house_17 (by decide) ?_
    refine r_iconst (v := b2i false) hX dX4_house_18 (by decide) ?_
    refine r_callV hX (z_X4_isStopped ad ae cs K S th rest false false) kv_X4_68 14 rfl rfl rfl rfl (Nat.le_of_ble_eq_true rfl) ⟨(Nat.le_of_ble_eq_true rfl), (Nat.le_of_ble_eq_true rfl)⟩ ⟨(Nat.le_of_ble_eq_true rfl), (Nat.le_of_ble_eq_true rfl)⟩ dX4_house_19 (fun _ _ z => False.elim z) (fun v9 ws9 h3 => ?_)
    obtain ⟨rfl, hw9⟩ := h3
    subst ws9
    dsimp only [mPush]
    refine r_if_eqB (tgt := 29) hX dX4_house_22 (by decide) (fun c4 => ?_) (fun c4 => ?_)
    · obtain ⟨⟨hx, hy⟩, e0⟩ := zst0 c4
      rw [e0]
      refine r_aload_n hX dX4_house_29 rfl rfl ?_
      refine r_iload_n hX dX4_house_30 rfl rfl ?_
      refine r_callV hX (z_X4_houseTold ad ae cs K S 0 rest hS _ (by omega)) kv_X4_222 14 rfl rfl rfl rfl (Nat.le_of_ble_eq_true rfl) ⟨(Nat.le_of_ble_eq_true rfl), (Nat.le_of_ble_eq_true rfl)⟩ ⟨(Nat.le_of_ble_eq_true rfl), (Nat.le_of_ble_eq_true rfl)⟩ dX4_house_31 (fun _ _ z => False.elim z) (fun v9 ws9 h5 => ?_)
      obtain ⟨rfl, hw9⟩ := h5
      subst ws9
      dsimp only [mPush]
      exact r_iret hX hE dX4_house_34 (Nat.le_of_ble_eq_true rfl) (Nat.le_of_ble_eq_true rfl) ⟨_, rfl, Or.inl ⟨by omega, rfl, rfl⟩⟩
    · rcases zst1 c4 with ⟨hx, e0⟩ | ⟨hx, hy, e0⟩
      · exact absurd hx (by decide)
      · exact absurd hy (by decide)
  · have c2 := of_decide_eq_false c2
    refine r_iconst (v := b2i true) hX dX4_house_13 (by decide) ?_
    refine r_goto (tgt := 18) hX dX4_house_14 (by decide) ?_
    refine r_iconst (v := b2i false) hX dX4_house_18 (by decide) ?_
    refine r_callV hX (z_X4_isStopped ad ae cs K S th rest true false) kv_X4_68 14 rfl rfl rfl rfl (Nat.le_of_ble_eq_true rfl) ⟨(Nat.le_of_ble_eq_true rfl), (Nat.le_of_ble_eq_true rfl)⟩ ⟨(Nat.le_of_ble_eq_true rfl), (Nat.le_of_ble_eq_true rfl)⟩ dX4_house_19 (fun _ _ z => False.elim z) (fun v9 ws9 h6 => ?_)
    obtain ⟨rfl, hw9⟩ := h6
    subst ws9
    dsimp only [mPush]
    refine r_if_eqB (tgt := 29) hX dX4_house_22 (by decide) (fun c7 => ?_) (fun c7 => ?_)
    · exact absurd c7 (by simp)
    · rcases zst1 c7 with ⟨hx, e0⟩ | ⟨hx, hy, e0⟩
      · rw [e0]
        refine r_iconstZ hX dX4_house_25 ?_
        refine r_goto (tgt := 34) hX dX4_house_26 (by decide) ?_
        exact r_iret hX hE dX4_house_34 (Nat.le_of_ble_eq_true rfl) (Nat.le_of_ble_eq_true rfl) ⟨_, rfl, Or.inr ⟨by omega, rfl⟩⟩
      · exact absurd hx (by decide)

