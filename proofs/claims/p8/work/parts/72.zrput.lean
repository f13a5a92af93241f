/-! The reference, exact (rows by a program of this repository). -/
theorem zRw_len {ad ae : Nat → Nat} {cs : ClassId × ClassId × ClassId} {K : mK} {J : mJ} {rest : va_W} : (mRw ad ae cs K J rest).length = 21 + rest.length := by
  show rest.length + 21 = 21 + rest.length
  omega
theorem zRw_last {ad ae : Nat → Nat} {cs : ClassId × ClassId × ClassId} {K : mK} {J : mJ} {rest : va_W} {x : Nat × va_E} : (mRw ad ae cs K J (rest ++ [x]))[21 + rest.length]? = some x := by
  rw [← mRw_app, ← zRw_len (ad := ad) (ae := ae) (cs := cs) (K := K) (J := J)]
  exact mLast
theorem zJ_day {S : mS} {th : Int32} {k : Nat} {day : Int} : (((mJof S th).1, (mJof S th).2.1, (mJof S th).2.2.1, upd (mJof S th).2.2.2.1 k (iZ day), (mJof S th).2.2.2.2) : mJ) = mJof (sLo S k (day * 86400 + sse S k % 86400, sna S k, sow S k)) th := by
  rw [← zJ_put (S := S) (th := th) (k := k) (day := day) (sec := sse S k % 86400) (n := sna S k) (o := sow S k) (by omega)]
  have u : ∀ (f : Nat → Int32) (x : Int32), f k = x → upd f k x = f := by
    intro f x h
    funext j
    show (if j = k then x else f j) = f j
    by_cases e : j = k
    · subst e; rw [if_pos rfl, h]
    · rw [if_neg e]
  have u1 : upd (mJof S th).2.2.2.2.1 k (iZ (sse S k % 86400)) = (mJof S th).2.2.2.2.1 := u _ _ rfl
  have u2 : upd (mJof S th).2.2.2.2.2.1 k (iZ (sna S k)) = (mJof S th).2.2.2.2.2.1 := u _ _ rfl
  have u3 : upd (mJof S th).2.2.2.2.2.2 k (iZ (sow S k)) = (mJof S th).2.2.2.2.2.2 := u _ _ rfl
  first
    | (rw [u1, u2, u3]; done)
    | (rw [u1, u2, u3]; rfl)
theorem zlo_day {S : mS} {k : Nat} {z n o : Int} : sse (sLo S k (z, n, o)) k = z := by
  show (zup S.2.2.1 k (z, n, o) k).1 = z
  rw [zup_eq]
set_option maxHeartbeats 4000000 in
set_option maxRecDepth 20000 in
theorem z_X4_put (ad ae : Nat → Nat) (cs : ClassId × ClassId × ClassId) (K : mK) (S : mS) (th : Int32) (rest : va_W) (hS : sWF S) (i : Int) (j : Nat) (hij : i = (j : Int)) (hj : j < 7) (day sec n o : Int) (hsec : 0 ≤ sec ∧ sec ≤ 86399)  : mCt (mTy cs) yX4_put cX4_put 6 (some .int) ⟨0, 0, 0, 0⟩ [.ref (ae 0), .int (iZ i), .int (iZ day), .int (iZ sec), .int (iZ n), .int (iZ o)] (mRw ad ae cs K (mJof S th) rest) (fun v ws' => v = some (.int (iZ day)) ∧ ws' = mRw ad ae cs K (mJof (sLo S j (day * 86400 + sec, n, o)) th) rest) mNo := by
  refine mCt.of (by decide +kernel) (Nat.le_of_ble_eq_true rfl) (fun X hX hE => ?_)
  replace hX : mOK X RX4 cX4_put 6 ⟨0, 0, 0, 0⟩ [] (mTy cs) := hX
  refine r_aload_n hX dX4_put_0 rfl rfl ?_
  refine r_get hX kf_X4_17 14 rfl rfl dX4_put_1 ?_
  refine r_iload_n hX dX4_put_4 rfl rfl ?_
  refine r_iload_n hX dX4_put_5 rfl rfl ?_
  refine r_iastZ hX 17 0 rfl rfl j (by omega) (by omega) (by decide) dX4_put_6 ?_
  refine r_eqw (ws' := mRw ad ae cs K ((mJof S th).1, (mJof S th).2.1, (mJof S th).2.2.1, upd (mJof S th).2.2.2.1 j (iZ day), (mJof S th).2.2.2.2) rest) rfl ?_
  refine r_aload_n hX dX4_put_7 rfl rfl ?_
  refine r_get hX kf_X4_20 14 rfl rfl dX4_put_8 ?_
  refine r_iload_n hX dX4_put_11 rfl rfl ?_
  refine r_iload_n hX dX4_put_12 rfl rfl ?_
  refine r_iastZ hX 18 0 rfl rfl j (by omega) (by omega) (by decide) dX4_put_13 ?_
  refine r_eqw (ws' := mRw ad ae cs K ((mJof S th).1, (mJof S th).2.1, (mJof S th).2.2.1, upd (mJof S th).2.2.2.1 j (iZ day), upd (mJof S th).2.2.2.2.1 j (iZ sec), (mJof S th).2.2.2.2.2) rest) rfl ?_
  refine r_aload_n hX dX4_put_14 rfl rfl ?_
  refine r_get hX kf_X4_23 14 rfl rfl dX4_put_15 ?_
  refine r_iload_n hX dX4_put_18 rfl rfl ?_
  refine r_iload hX dX4_put_19 rfl ?_
  refine r_iastZ hX 19 0 rfl rfl j (by omega) (by omega) (by decide) dX4_put_21 ?_
  refine r_eqw (ws' := mRw ad ae cs K ((mJof S th).1, (mJof S th).2.1, (mJof S th).2.2.1, upd (mJof S th).2.2.2.1 j (iZ day), upd (mJof S th).2.2.2.2.1 j (iZ sec), upd (mJof S th).2.2.2.2.2.1 j (iZ n), (mJof S th).2.2.2.2.2.2) rest) rfl ?_
  refine r_aload_n hX dX4_put_22 rfl rfl ?_
  refine r_get hX kf_X4_26 14 rfl rfl dX4_put_23 ?_
  refine r_iload_n hX dX4_put_26 rfl rfl ?_
  refine r_iload hX dX4_put_27 rfl ?_
  refine r_iastZ hX 20 0 rfl rfl j (by omega) (by omega) (by decide) dX4_put_29 ?_
  refine r_eqw (ws' := mRw ad ae cs K ((mJof S th).1, (mJof S th).2.1, (mJof S th).2.2.1, upd (mJof S th).2.2.2.1 j (iZ day), upd (mJof S th).2.2.2.2.1 j (iZ sec), upd (mJof S th).2.2.2.2.2.1 j (iZ n), upd (mJof S th).2.2.2.2.2.2 j (iZ o)) rest) rfl ?_
  refine r_eqw (congrArg (fun J => mRw ad ae cs K J rest) (zJ_put (by omega))) ?_
  refine r_iload_n hX dX4_put_30 rfl rfl ?_
  refine r_iret hX hE dX4_put_31 (Nat.le_of_ble_eq_true rfl) (Nat.le_of_ble_eq_true rfl) ?_
  exact ⟨rfl, rfl⟩
set_option maxHeartbeats 4000000 in
set_option maxRecDepth 20000 in
theorem z_X4_isDay (tys : List (ClassId × FieldType)) (ws : va_W) (d : Int) (hd : rL d)  : mCt tys yX4_isDay cX4_isDay 2 (some .boolean) ⟨3, 0, 0, 70⟩ [.long (lZ d)] ws (fun v ws' => v = some (.int (b2i (decide (-21915 ≤ d ∧ d ≤ 22279)))) ∧ ws' = ws) mNo := by
  refine mCt.of (by decide +kernel) (Nat.le_of_ble_eq_true rfl) (fun X hX hE => ?_)
  replace hX : mOK X RX4 cX4_isDay 2 ⟨3, 0, 0, 70⟩ [] tys := hX
  refine r_lload_n hX dX4_isDay_0 rfl rfl ?_
  refine r_sipushZ hX dX4_isDay_1 (by decide) ?_
  refine r_callS hX (z_X4_firstOf _ _ _ 1910 (by omega) (by omega)) ks_X4_52 rfl rfl (Nat.le_of_ble_eq_true rfl) ⟨(Nat.le_of_ble_eq_true rfl), (Nat.le_of_ble_eq_true rfl)⟩ ⟨(Nat.le_of_ble_eq_true rfl), (Nat.le_of_ble_eq_true rfl)⟩ dX4_isDay_4 (fun _ _ z => False.elim z) (fun v9 ws9 h1 => ?_)
  rw [FO_1910] at h1
  obtain ⟨rfl, hw9⟩ := h1
  subst ws9
  dsimp only [mPush]
  refine r_i2lZ hX dX4_isDay_7 (by decide) ?_
  refine r_sipushZ hX dX4_isDay_8 (by decide) ?_
  refine r_callS hX (z_X4_firstOf _ _ _ 2031 (by omega) (by omega)) ks_X4_52 rfl rfl (Nat.le_of_ble_eq_true rfl) ⟨(Nat.le_of_ble_eq_true rfl), (Nat.le_of_ble_eq_true rfl)⟩ ⟨(Nat.le_of_ble_eq_true rfl), (Nat.le_of_ble_eq_true rfl)⟩ dX4_isDay_11 (fun _ _ z => False.elim z) (fun v9 ws9 h2 => ?_)
  rw [FO_2031] at h2
  obtain ⟨rfl, hw9⟩ := h2
  subst ws9
  dsimp only [mPush]
  refine r_iconstZ hX dX4_isDay_14 ?_
  refine r_isubZ hX dX4_isDay_15 ?_
  refine r_i2lZ hX dX4_isDay_16 (by decide) ?_
  refine r_callS hX (z_X4_isIn _ _ _ _ _ (by omega) (by omega) (by omega)) ks_X4_38 rfl rfl (Nat.le_of_ble_eq_true rfl) ⟨(Nat.le_of_ble_eq_true rfl), (Nat.le_of_ble_eq_true rfl)⟩ ⟨(Nat.le_of_ble_eq_true rfl), (Nat.le_of_ble_eq_true rfl)⟩ dX4_isDay_17 (fun _ _ z => False.elim z) (fun v9 ws9 h3 => ?_)
  obtain ⟨rfl, hw9⟩ := h3
  subst ws9
  dsimp only [mPush]
  refine r_zret hX hE dX4_isDay_20 (b2i_n _) (Nat.le_of_ble_eq_true rfl) (Nat.le_of_ble_eq_true rfl) ⟨zb ?_, rfl⟩
  exact decide_eq_decide.mpr (by omega)
set_option maxHeartbeats 4000000 in
set_option maxRecDepth 20000 in
theorem z_X4_isTime (tys : List (ClassId × FieldType)) (ws : va_W) (s n : Int) (hs : rJ s) (hn : rJ n)  : mCt tys yX4_isTime cX4_isTime 2 (some .boolean) ⟨1, 0, 0, 25⟩ [.int (iZ s), .int (iZ n)] ws (fun v ws' => v = some (.int (b2i (decide ((0 ≤ s ∧ s ≤ 86399) ∧ (0 ≤ n ∧ n ≤ 999999999))))) ∧ ws' = ws) mNo := by
  refine mCt.of (by decide +kernel) (Nat.le_of_ble_eq_true rfl) (fun X hX hE => ?_)
  replace hX : mOK X RX4 cX4_isTime 2 ⟨1, 0, 0, 25⟩ [] tys := hX
  refine r_iload_n hX dX4_isTime_0 rfl rfl ?_
  refine r_i2lZ hX dX4_isTime_1 (by omega) ?_
  refine r_lconstZ (v := 0) hX dX4_isTime_2 rfl ?_
  refine r_ldc2Z (z := 86399) hX kc_X4_143 (by decide) dX4_isTime_3 ?_
  refine r_callS hX (z_X4_isIn _ _ _ _ _ (by omega) (by omega) (by omega)) ks_X4_38 rfl rfl (Nat.le_of_ble_eq_true rfl) ⟨(Nat.le_of_ble_eq_true rfl), (Nat.le_of_ble_eq_true rfl)⟩ ⟨(Nat.le_of_ble_eq_true rfl), (Nat.le_of_ble_eq_true rfl)⟩ dX4_isTime_6 (fun _ _ z => False.elim z) (fun v9 ws9 h1 => ?_)
  obtain ⟨rfl, hw9⟩ := h1
  subst ws9
  dsimp only [mPush]
  refine r_if_eqB (tgt := 28) hX dX4_isTime_9 (by decide) (fun c2 => ?_) (fun c2 => ?_)
  · have c2 := of_decide_eq_false c2
    refine r_iconstZ hX dX4_isTime_28 ?_
    refine r_zret hX hE dX4_isTime_29 (by decide) (Nat.le_of_ble_eq_true rfl) (Nat.le_of_ble_eq_true rfl) ⟨zb0 ?_, rfl⟩
    exact decide_eq_false (by omega)
  · have c2 := of_decide_eq_true c2
    refine r_iload_n hX dX4_isTime_12 rfl rfl ?_
    refine r_i2lZ hX dX4_isTime_13 (by omega) ?_
    refine r_lconstZ (v := 0) hX dX4_isTime_14 rfl ?_
    refine r_ldc2Z (z := 999999999) hX kc_X4_145 (by decide) dX4_isTime_15 ?_
    refine r_callS hX (z_X4_isIn _ _ _ _ _ (by omega) (by omega) (by omega)) ks_X4_38 rfl rfl (Nat.le_of_ble_eq_true rfl) ⟨(Nat.le_of_ble_eq_true rfl), (Nat.le_of_ble_eq_true rfl)⟩ ⟨(Nat.le_of_ble_eq_true rfl), (Nat.le_of_ble_eq_true rfl)⟩ dX4_isTime_18 (fun _ _ z => False.elim z) (fun v9 ws9 h3 => ?_)
    obtain ⟨rfl, hw9⟩ := h3
    subst ws9
    dsimp only [mPush]
    refine r_if_eqB (tgt := 28) hX dX4_isTime_21 (by decide) (fun c4 => ?_) (fun c4 => ?_)
    · have c4 := of_decide_eq_false c4
      refine r_iconstZ hX dX4_isTime_28 ?_
      refine r_zret hX hE dX4_isTime_29 (by decide) (Nat.le_of_ble_eq_true rfl) (Nat.le_of_ble_eq_true rfl) ⟨zb0 ?_, rfl⟩
      exact decide_eq_false (by omega)
    · have c4 := of_decide_eq_true c4
      refine r_iconstZ hX dX4_isTime_24 ?_
      refine r_goto (tgt := 29) hX dX4_isTime_25 (by decide) ?_
      refine r_zret hX hE dX4_isTime_29 (by decide) (Nat.le_of_ble_eq_true rfl) (Nat.le_of_ble_eq_true rfl) ⟨zb1 ?_, rfl⟩
      exact decide_eq_true (by omega)
set_option maxHeartbeats 4000000 in
set_option maxRecDepth 20000 in
theorem z_X4_isThere (tys : List (ClassId × FieldType)) (ws : va_W) (y m d : Int) (hy : rJ y) (hm : rJ m) (hd : rJ d)  : mCt tys yX4_isThere cX4_isThere 3 (some .boolean) ⟨2, 0, 0, 41⟩ [.int (iZ y), .int (iZ m), .int (iZ d)] ws (fun v ws' => v = some (.int (b2i (decide ((1910 ≤ y ∧ y ≤ 2030) ∧ (1 ≤ m ∧ m ≤ 12) ∧ 1 ≤ d ∧ d ≤ (dm y.toNat m.toNat : Nat))))) ∧ ws' = ws) mNo := by
  refine mCt.of (by decide +kernel) (Nat.le_of_ble_eq_true rfl) (fun X hX hE => ?_)
  replace hX : mOK X RX4 cX4_isThere 3 ⟨2, 0, 0, 41⟩ [] tys := hX
  refine r_iload_n hX dX4_isThere_0 rfl rfl ?_
  refine r_i2lZ hX dX4_isThere_1 (by omega) ?_
  refine r_ldc2Z (z := 1910) hX kc_X4_147 (by decide) dX4_isThere_2 ?_
  refine r_ldc2Z (z := 2030) hX kc_X4_149 (by decide) dX4_isThere_5 ?_
  refine r_callS hX (z_X4_isIn _ _ _ _ _ (by omega) (by omega) (by omega)) ks_X4_38 rfl rfl (Nat.le_of_ble_eq_true rfl) ⟨(Nat.le_of_ble_eq_true rfl), (Nat.le_of_ble_eq_true rfl)⟩ ⟨(Nat.le_of_ble_eq_true rfl), (Nat.le_of_ble_eq_true rfl)⟩ dX4_isThere_8 (fun _ _ z => False.elim z) (fun v9 ws9 h1 => ?_)
  obtain ⟨rfl, hw9⟩ := h1
  subst ws9
  dsimp only [mPush]
  refine r_if_eqB (tgt := 45) hX dX4_isThere_11 (by decide) (fun c2 => ?_) (fun c2 => ?_)
  · have c2 := of_decide_eq_false c2
    refine r_iconstZ hX dX4_isThere_45 ?_
    refine r_zret hX hE dX4_isThere_46 (by decide) (Nat.le_of_ble_eq_true rfl) (Nat.le_of_ble_eq_true rfl) ⟨zb0 ?_, rfl⟩
    exact decide_eq_false (by omega)
  · have c2 := of_decide_eq_true c2
    refine r_iload_n hX dX4_isThere_14 rfl rfl ?_
    refine r_i2lZ hX dX4_isThere_15 (by omega) ?_
    refine r_lconstZ (v := 1) hX dX4_isThere_16 rfl ?_
    refine r_ldc2Z (z := 12) hX kc_X4_151 (by decide) dX4_isThere_17 ?_
    refine r_callS hX (z_X4_isIn _ _ _ _ _ (by omega) (by omega) (by omega)) ks_X4_38 rfl rfl (Nat.le_of_ble_eq_true rfl) ⟨(Nat.le_of_ble_eq_true rfl), (Nat.le_of_ble_eq_true rfl)⟩ ⟨(Nat.le_of_ble_eq_true rfl), (Nat.le_of_ble_eq_true rfl)⟩ dX4_isThere_20 (fun _ _ z => False.elim z) (fun v9 ws9 h3 => ?_)
    obtain ⟨rfl, hw9⟩ := h3
    subst ws9
    dsimp only [mPush]
    refine r_if_eqB (tgt := 45) hX dX4_isThere_23 (by decide) (fun c4 => ?_) (fun c4 => ?_)
    · have c4 := of_decide_eq_false c4
      refine r_iconstZ hX dX4_isThere_45 ?_
      refine r_zret hX hE dX4_isThere_46 (by decide) (Nat.le_of_ble_eq_true rfl) (Nat.le_of_ble_eq_true rfl) ⟨zb0 ?_, rfl⟩
      exact decide_eq_false (by omega)
    · have c4 := of_decide_eq_true c4
      refine r_iload_n hX dX4_isThere_26 rfl rfl ?_
      refine r_i2lZ hX dX4_isThere_27 (by omega) ?_
      refine r_lconstZ (v := 1) hX dX4_isThere_28 rfl ?_
      refine r_iload_n hX dX4_isThere_29 rfl rfl ?_
      refine r_iload_n hX dX4_isThere_30 rfl rfl ?_
      refine r_callS hX (z_X4_daysOf _ _ _ y.toNat (by omega) (by omega) _ m.toNat (by omega) (by omega)) ks_X4_55 rfl rfl (Nat.le_of_ble_eq_true rfl) ⟨(Nat.le_of_ble_eq_true rfl), (Nat.le_of_ble_eq_true rfl)⟩ ⟨(Nat.le_of_ble_eq_true rfl), (Nat.le_of_ble_eq_true rfl)⟩ dX4_isThere_31 (fun _ _ z => False.elim z) (fun v9 ws9 h5 => ?_)
      obtain ⟨rfl, hw9⟩ := h5
      subst ws9
      dsimp only [mPush]
      have hdm5 := dm_b y.toNat m.toNat
      refine r_i2lZ hX dX4_isThere_34 (by omega) ?_
      refine r_callS hX (z_X4_isIn _ _ _ _ _ (by omega) (by omega) (by omega)) ks_X4_38 rfl rfl (Nat.le_of_ble_eq_true rfl) ⟨(Nat.le_of_ble_eq_true rfl), (Nat.le_of_ble_eq_true rfl)⟩ ⟨(Nat.le_of_ble_eq_true rfl), (Nat.le_of_ble_eq_true rfl)⟩ dX4_isThere_35 (fun _ _ z => False.elim z) (fun v9 ws9 h6 => ?_)
      obtain ⟨rfl, hw9⟩ := h6
      subst ws9
      dsimp only [mPush]
      refine r_if_eqB (tgt := 45) hX dX4_isThere_38 (by decide) (fun c7 => ?_) (fun c7 => ?_)
      · have c7 := of_decide_eq_false c7
        refine r_iconstZ hX dX4_isThere_45 ?_
        refine r_zret hX hE dX4_isThere_46 (by decide) (Nat.le_of_ble_eq_true rfl) (Nat.le_of_ble_eq_true rfl) ⟨zb0 ?_, rfl⟩
        exact decide_eq_false (by omega)
      · have c7 := of_decide_eq_true c7
        refine r_iconstZ hX dX4_isThere_41 ?_
        refine r_goto (tgt := 46) hX dX4_isThere_42 (by decide) ?_
        refine r_zret hX hE dX4_isThere_46 (by decide) (Nat.le_of_ble_eq_true rfl) (Nat.le_of_ble_eq_true rfl) ⟨zb1 ?_, rfl⟩
        exact decide_eq_true (by omega)
set_option maxHeartbeats 4000000 in
set_option maxRecDepth 20000 in
theorem z_X4_put_ (ad ae : Nat → Nat) (cs : ClassId × ClassId × ClassId) (K : mK) (S : mS) (th : Int32) (rest : va_W) (hS : sWF S) (i : Int) (j : Nat) (hij : i = (j : Int)) (hj : j < 7) (day sec n o : Int) (hday : -100000000000 ≤ day ∧ day ≤ 100000000000000000) (hsec : -100000000000000000 ≤ sec ∧ sec ≤ 100000000000000000)  : mCt (mTy cs) yX4_put_ cX4_put_ 10 (some .int) ⟨4, 0, 0, 91⟩ [.ref (ae 0), .int (iZ i), .long (lZ day), .long (lZ sec), .int (iZ n), .int (iZ o)] (mRw ad ae cs K (mJof S th) rest) (fun v ws' => v = some (.int (iZ (oLoc S j (day * 86400 + sec) n o).1)) ∧ ws' = mRw ad ae cs K (mJof (oLoc S j (day * 86400 + sec) n o).2 th) rest) mNo := by
  refine mCt.of (by decide +kernel) (Nat.le_of_ble_eq_true rfl) (fun X hX hE => ?_)
  replace hX : mOK X RX4 cX4_put_ 10 ⟨4, 0, 0, 91⟩ [] (mTy cs) := hX
  refine r_lload_n hX dX4_put__0 rfl rfl ?_
  refine r_lload hX dX4_put__1 rfl ?_
  refine r_ldc2Z (z := 86400) hX kc_X4_113 (by decide) dX4_put__3 ?_
  refine r_callS hX (c_X4_whole_x _ _ _ _ (by omega) (by omega) (by omega) (by omega)) ks_X4_92 rfl rfl (Nat.le_of_ble_eq_true rfl) ⟨(Nat.le_of_ble_eq_true rfl), (Nat.le_of_ble_eq_true rfl)⟩ ⟨(Nat.le_of_ble_eq_true rfl), (Nat.le_of_ble_eq_true rfl)⟩ dX4_put__6 (fun _ _ z => False.elim z) (fun v9 ws9 h1 => ?_)
  obtain ⟨rfl, hw9⟩ := h1
  subst ws9
  dsimp only [mPush]
  refine r_laddZ hX dX4_put__9 ?_
  refine r_lstore hX dX4_put__10 (by decide) rfl ?_
  refine r_lload hX dX4_put__12 rfl ?_
  refine r_callS hX (z_X4_isDay _ _ _ (by omega)) ks_X4_135 rfl rfl (Nat.le_of_ble_eq_true rfl) ⟨(Nat.le_of_ble_eq_true rfl), (Nat.le_of_ble_eq_true rfl)⟩ ⟨(Nat.le_of_ble_eq_true rfl), (Nat.le_of_ble_eq_true rfl)⟩ dX4_put__14 (fun _ _ z => False.elim z) (fun v9 ws9 h2 => ?_)
  obtain ⟨rfl, hw9⟩ := h2
  subst ws9
  dsimp only [mPush]
  refine r_if_eqB (tgt := 43) hX dX4_put__17 (by decide) (fun c3 => ?_) (fun c3 => ?_)
  · have c3 := of_decide_eq_false c3
    refine r_aload_n hX dX4_put__43 rfl rfl ?_
    refine r_callV hX (z_X4_no ad ae cs K S th rest) kv_X4_80 14 rfl rfl rfl rfl (Nat.le_of_ble_eq_true rfl) ⟨(Nat.le_of_ble_eq_true rfl), (Nat.le_of_ble_eq_true rfl)⟩ ⟨(Nat.le_of_ble_eq_true rfl), (Nat.le_of_ble_eq_true rfl)⟩ dX4_put__44 (fun _ _ z => False.elim z) (fun v9 ws9 h4 => ?_)
    obtain ⟨rfl, hw9⟩ := h4
    subst ws9
    dsimp only [mPush]
    refine r_iret hX hE dX4_put__47 (Nat.le_of_ble_eq_true rfl) (Nat.le_of_ble_eq_true rfl) ?_
    rw [oLoc_n (by omega)]
    exact ⟨rfl, rfl⟩
  · have c3 := of_decide_eq_true c3
    refine r_aload_n hX dX4_put__20 rfl rfl ?_
    refine r_iload_n hX dX4_put__21 rfl rfl ?_
    refine r_lload hX dX4_put__22 rfl ?_
    refine r_l2iZ hX dX4_put__24 ?_
    refine r_lload hX dX4_put__25 rfl ?_
    refine r_ldc2Z (z := 86400) hX kc_X4_113 (by decide) dX4_put__27 ?_
    refine r_callS hX (c_X4_rest_x _ _ _ _ (by omega) (by omega) (by omega) (by omega)) ks_X4_102 rfl rfl (Nat.le_of_ble_eq_true rfl) ⟨(Nat.le_of_ble_eq_true rfl), (Nat.le_of_ble_eq_true rfl)⟩ ⟨(Nat.le_of_ble_eq_true rfl), (Nat.le_of_ble_eq_true rfl)⟩ dX4_put__30 (fun _ _ z => False.elim z) (fun v9 ws9 h5 => ?_)
    obtain ⟨rfl, hw9⟩ := h5
    subst ws9
    dsimp only [mPush]
    refine r_iload hX dX4_put__33 rfl ?_
    refine r_iload hX dX4_put__35 rfl ?_
    refine r_callV hX (z_X4_put ad ae cs K S th rest hS _ j (by omega) (by omega) _ _ _ _ (by omega)) kv_X4_139 14 rfl rfl rfl rfl (Nat.le_of_ble_eq_true rfl) ⟨(Nat.le_of_ble_eq_true rfl), (Nat.le_of_ble_eq_true rfl)⟩ ⟨(Nat.le_of_ble_eq_true rfl), (Nat.le_of_ble_eq_true rfl)⟩ dX4_put__37 (fun _ _ z => False.elim z) (fun v9 ws9 h6 => ?_)
    obtain ⟨rfl, hw9⟩ := h6
    subst ws9
    dsimp only [mPush]
    refine r_goto (tgt := 47) hX dX4_put__40 (by decide) ?_
    refine r_iret hX hE dX4_put__47 (Nat.le_of_ble_eq_true rfl) (Nat.le_of_ble_eq_true rfl) ?_
    rw [oLoc_y (by omega)]
    exact ⟨zi (by omega), by rw [show (day + sec / 86400) * 86400 + sec % 86400 = day * 86400 + sec by omega]⟩
set_option maxHeartbeats 4000000 in
set_option maxRecDepth 20000 in
theorem z_X4_putDay (ad ae : Nat → Nat) (cs : ClassId × ClassId × ClassId) (K : mK) (S : mS) (th : Int32) (rest : va_W) (hS : sWF S) (i : Int) (j : Nat) (hij : i = (j : Int)) (hj : j < 7) (Y : Int) (y : Nat) (hY : Y = (y : Int)) (hy : 1910 ≤ y ∧ y ≤ 2030) (M : Int) (m : Nat) (hM : M = (m : Int)) (hm : 1 ≤ m ∧ m ≤ 12) (E0 : Int) (hE0 : 1 ≤ E0 ∧ E0 ≤ 31)  : mCt (mTy cs) yX4_putDay cX4_putDay 5 (some .int) ⟨4, 0, 0, 94⟩ [.ref (ae 0), .int (iZ i), .int (iZ Y), .int (iZ M), .int (iZ E0)] (mRw ad ae cs K (mJof S th) rest) (fun v ws' => v = some (.int (iZ (FO y + DB y m + zMin E0 (dm y m : Nat) - 1))) ∧ ws' = mRw ad ae cs K (mJof (sLo S j ((FO y + DB y m + zMin E0 (dm y m : Nat) - 1) * 86400 + sse S j % 86400, sna S j, sow S j)) th) rest) mNo := by
  refine mCt.of (by decide +kernel) (Nat.le_of_ble_eq_true rfl) (fun X hX hE => ?_)
  replace hX : mOK X RX4 cX4_putDay 5 ⟨4, 0, 0, 94⟩ [] (mTy cs) := hX
  refine r_aload_n hX dX4_putDay_0 rfl rfl ?_
  refine r_get hX kf_X4_17 14 rfl rfl dX4_putDay_1 ?_
  refine r_iload_n hX dX4_putDay_4 rfl rfl ?_
  refine r_iload_n hX dX4_putDay_5 rfl rfl ?_
  refine r_iload_n hX dX4_putDay_6 rfl rfl ?_
  refine r_iload hX dX4_putDay_7 rfl ?_
  refine r_iload_n hX dX4_putDay_9 rfl rfl ?_
  refine r_iload_n hX dX4_putDay_10 rfl rfl ?_
  refine r_callS hX (z_X4_daysOf _ _ _ y (by omega) (by omega) _ m (by omega) (by omega)) ks_X4_55 rfl rfl (Nat.le_of_ble_eq_true rfl) ⟨(Nat.le_of_ble_eq_true rfl), (Nat.le_of_ble_eq_true rfl)⟩ ⟨(Nat.le_of_ble_eq_true rfl), (Nat.le_of_ble_eq_true rfl)⟩ dX4_putDay_11 (fun _ _ z => False.elim z) (fun v9 ws9 h1 => ?_)
  obtain ⟨rfl, hw9⟩ := h1
  subst ws9
  dsimp only [mPush]
  have hdm1 := dm_b y m
  refine r_callS hX (z_J9_min _ _ _ _ (by omega) (by omega)) ks_X4_178 rfl rfl (Nat.le_of_ble_eq_true rfl) ⟨(Nat.le_of_ble_eq_true rfl), (Nat.le_of_ble_eq_true rfl)⟩ ⟨(Nat.le_of_ble_eq_true rfl), (Nat.le_of_ble_eq_true rfl)⟩ dX4_putDay_14 (fun _ _ z => False.elim z) (fun v9 ws9 h2 => ?_)
  obtain ⟨rfl, hw9⟩ := h2
  subst ws9
  dsimp only [mPush]
  have hmin : 1 ≤ zMin E0 (dm y m : Nat) ∧ zMin E0 (dm y m : Nat) ≤ 31 := by unfold zMin; split <;> omega
  refine r_callS hX (z_X4_dayOf _ _ _ y (by omega) (by omega) _ m (by omega) (by omega) _ (by omega)) ks_X4_163 rfl rfl (Nat.le_of_ble_eq_true rfl) ⟨(Nat.le_of_ble_eq_true rfl), (Nat.le_of_ble_eq_true rfl)⟩ ⟨(Nat.le_of_ble_eq_true rfl), (Nat.le_of_ble_eq_true rfl)⟩ dX4_putDay_17 (fun _ _ z => False.elim z) (fun v9 ws9 h3 => ?_)
  obtain ⟨rfl, hw9⟩ := h3
  subst ws9
  dsimp only [mPush]
  refine r_iastZ hX 17 0 rfl rfl j (by omega) (by omega) (by decide) dX4_putDay_20 ?_
  refine r_eqw (ws' := mRw ad ae cs K ((mJof S th).1, (mJof S th).2.1, (mJof S th).2.2.1, upd (mJof S th).2.2.2.1 j (iZ (FO y + DB y m + (zMin E0 (dm y m : Nat)) - 1)), (mJof S th).2.2.2.2) rest) rfl ?_
  refine r_eqw (congrArg (fun J => mRw ad ae cs K J rest) zJ_day) ?_
  refine r_aload_n hX dX4_putDay_21 rfl rfl ?_
  refine r_get hX kf_X4_17 14 rfl rfl dX4_putDay_22 ?_
  refine r_iload_n hX dX4_putDay_25 rfl rfl ?_
  refine r_ialdZ hX 17 0 rfl rfl j (by omega) (by omega) (by decide) dX4_putDay_26 ?_
  refine r_iret hX hE dX4_putDay_27 (Nat.le_of_ble_eq_true rfl) (Nat.le_of_ble_eq_true rfl) ?_
  refine ⟨zi ?_, rfl⟩
  rw [zlo_day]
  omega

