-- 72 zrput
section
/-! The reference, exact (rows by a program of this repository). -/
theorem zRw_len {ad ae : Nat → Nat} {cs : ClassId × ClassId × ClassId} {K : mK} {J : mJ} {rest : va_W} : (mRw ad ae cs K J rest).length = 21 + rest.length := by
  show rest.length + 21 = 21 + rest.length
  omega
theorem zRw_last {ad ae : Nat → Nat} {cs : ClassId × ClassId × ClassId} {K : mK} {J : mJ} {rest : va_W} {x : Nat × va_E} : (mRw ad ae cs K J (rest ++ [x]))[21 + rest.length]? = some x := by
  rw [← mRw_app, ← zRw_len (ad := ad) (ae := ae) (cs := cs) (K := K) (J := J)]
  exact mLast
theorem zJ_day {S : mS} {th : Int32} {k : Nat} {day : Int} : (((mJof S th).1, (mJof S th).2.1, (mJof S th).2.2.1, upd (mJof S th).2.2.2.1 k (iZ day), (mJof S th).2.2.2.2) : mJ) = mJof (sLo S k (day * 86400 + sse S k % 86400, sna S k, sow S k)) th := by
  rw [← zJ_put (S := S) (th := th) (k := k) (day := day) (sec := sse S k % 86400) (n := sna S k) (o := sow S k) (by omega)]
  have u : ∀ (f : Nat → Int32) (x : Int32), f k = x → upd f k x = f := by
    intro f x h
    funext j
    show (if j = k then x else f j) = f j
    by_cases e : j = k
    · subst e; rw [if_pos rfl, h]
    · rw [if_neg e]
  have u1 : upd (mJof S th).2.2.2.2.1 k (iZ (sse S k % 86400)) = (mJof S th).2.2.2.2.1 := u _ _ rfl
  have u2 : upd (mJof S th).2.2.2.2.2.1 k (iZ (sna S k)) = (mJof S th).2.2.2.2.2.1 := u _ _ rfl
  have u3 : upd (mJof S th).2.2.2.2.2.2 k (iZ (sow S k)) = (mJof S th).2.2.2.2.2.2 := u _ _ rfl
  first
    | (rw [u1, u2, u3]; done)
    | (rw [u1, u2, u3]; rfl)
theorem zlo_day {S : mS} {k : Nat} {z n o : Int} : sse (sLo S k (z, n, o)) k = z := by
  show (zup S.2.2.1 k (z, n, o) k).1 = z
  rw [zup_eq]
set_option maxHeartbeats 4000000 in
set_option maxRecDepth 20000 in
theorem z_X4_put (ad ae : Nat → Nat) (cs : ClassId × ClassId × ClassId) (K : mK) (S : mS) (th : Int32) (rest : va_W) (hS : sWF S) (i : Int) (j : Nat) (hij : i = (j : Int)) (hj : j < 7) (day sec n o : Int) (hsec : 0 ≤ sec ∧ sec ≤ 86399)  : mCt (mTy cs) yX4_put cX4_put 6 (some .int) ⟨0, 0, 0, 0⟩ [.ref (ae 0), .int (iZ i), .int (iZ day), .int (iZ sec), .int (iZ n), .int (iZ o)] (mRw ad ae cs K (mJof S th) rest) (fun v ws' => v = some (.int (iZ day)) ∧ ws' = mRw ad ae cs K (mJof (sLo S j (day * 86400 + sec, n, o)) th) rest) mNo := by
  refine mCt.of (by decide +kernel) (Nat.le_of_ble_eq_true rfl) (fun X hX hE => ?_)
  replace hX : mOK X RX4 cX4_put 6 ⟨0, 0, 0, 0⟩ [] (mTy cs) := hX
  refine r_aload_n hX dX4_put_0 rfl rfl (r_get hX kf_X4_17 14 rfl rfl dX4_put_1 (r_iload_n hX dX4_put_4 rfl rfl (r_iload_n hX dX4_put_5 rfl rfl (r_iastZ hX 17 0 rfl rfl j (by first | with_reducible assumption | decide | omega) (by first | with_reducible assumption | decide | omega) (by decide) dX4_put_6 (r_eqw (ws' := mRw ad ae cs K ((mJof S th).1, (mJof S th).2.1, (mJof S th).2.2.1, upd (mJof S th).2.2.2.1 j (iZ day), (mJof S th).2.2.2.2) rest) rfl (r_aload_n hX dX4_put_7 rfl rfl (r_get hX kf_X4_20 14 rfl rfl dX4_put_8 ?_)))))))
  refine r_iload_n hX dX4_put_11 rfl rfl (r_iload_n hX dX4_put_12 rfl rfl (r_iastZ hX 18 0 rfl rfl j (by first | with_reducible assumption | decide | omega) (by first | with_reducible assumption | decide | omega) (by decide) dX4_put_13 (r_eqw (ws' := mRw ad ae cs K ((mJof S th).1, (mJof S th).2.1, (mJof S th).2.2.1, upd (mJof S th).2.2.2.1 j (iZ day), upd (mJof S th).2.2.2.2.1 j (iZ sec), (mJof S th).2.2.2.2.2) rest) rfl (r_aload_n hX dX4_put_14 rfl rfl (r_get hX kf_X4_23 14 rfl rfl dX4_put_15 (r_iload_n hX dX4_put_18 rfl rfl (r_iload hX dX4_put_19 rfl ?_)))))))
  refine r_iastZ hX 19 0 rfl rfl j (by first | with_reducible assumption | decide | omega) (by first | with_reducible assumption | decide | omega) (by decide) dX4_put_21 (r_eqw (ws' := mRw ad ae cs K ((mJof S th).1, (mJof S th).2.1, (mJof S th).2.2.1, upd (mJof S th).2.2.2.1 j (iZ day), upd (mJof S th).2.2.2.2.1 j (iZ sec), upd (mJof S th).2.2.2.2.2.1 j (iZ n), (mJof S th).2.2.2.2.2.2) rest) rfl (r_aload_n hX dX4_put_22 rfl rfl (r_get hX kf_X4_26 14 rfl rfl dX4_put_23 (r_iload_n hX dX4_put_26 rfl rfl (r_iload hX dX4_put_27 rfl (r_iastZ hX 20 0 rfl rfl j (by first | with_reducible assumption | decide | omega) (by first | with_reducible assumption | decide | omega) (by decide) dX4_put_29 (r_eqw (ws' := mRw ad ae cs K ((mJof S th).1, (mJof S th).2.1, (mJof S th).2.2.1, upd (mJof S th).2.2.2.1 j (iZ day), upd (mJof S th).2.2.2.2.1 j (iZ sec), upd (mJof S th).2.2.2.2.2.1 j (iZ n), upd (mJof S th).2.2.2.2.2.2 j (iZ o)) rest) rfl ?_)))))))
  refine r_eqw (congrArg (fun J => mRw ad ae cs K J rest) (zJ_put (by first | with_reducible assumption | decide | omega))) (r_iload_n hX dX4_put_30 rfl rfl (r_iret hX hE dX4_put_31 (Nat.le_of_ble_eq_true rfl) (Nat.le_of_ble_eq_true rfl) ?_))
  exact ⟨rfl, rfl⟩
set_option maxHeartbeats 4000000 in
set_option maxRecDepth 20000 in
theorem z_X4_isDay (tys : List (ClassId × FieldType)) (ws : va_W) (d : Int) (hd : rL d)  : mCt tys yX4_isDay cX4_isDay 2 (some .boolean) ⟨3, 0, 0, 70⟩ [.long (lZ d)] ws (fun v ws' => v = some (.int (b2i (decide (-21915 ≤ d ∧ d ≤ 22279)))) ∧ ws' = ws) mNo := by
  refine mCt.of (by decide +kernel) (Nat.le_of_ble_eq_true rfl) (fun X hX hE => ?_)
  replace hX : mOK X RX4 cX4_isDay 2 ⟨3, 0, 0, 70⟩ [] tys := hX
  refine r_lload_n hX dX4_isDay_0 rfl rfl (r_sipushZ hX dX4_isDay_1 (by decide +kernel) (r_callS hX (z_X4_firstOf _ _ _ 1910 (by first | with_reducible assumption | decide | omega) (by first | with_reducible assumption | decide | omega)) ks_X4_52 rfl rfl (Nat.le_of_ble_eq_true rfl) ⟨(Nat.le_of_ble_eq_true rfl), (Nat.le_of_ble_eq_true rfl)⟩ ⟨(Nat.le_of_ble_eq_true rfl), (Nat.le_of_ble_eq_true rfl)⟩ dX4_isDay_4 (fun _ _ z => False.elim z) (fun v9 ws9 h1 => ?_)))
  rw [FO_1910] at h1
  obtain ⟨rfl, hw9⟩ := h1
  subst ws9
  dsimp only [mPush]
  refine r_i2lZ hX dX4_isDay_7 (by decide) (r_sipushZ hX dX4_isDay_8 (by decide +kernel) (r_callS hX (z_X4_firstOf _ _ _ 2031 (by first | with_reducible assumption | decide | omega) (by first | with_reducible assumption | decide | omega)) ks_X4_52 rfl rfl (Nat.le_of_ble_eq_true rfl) ⟨(Nat.le_of_ble_eq_true rfl), (Nat.le_of_ble_eq_true rfl)⟩ ⟨(Nat.le_of_ble_eq_true rfl), (Nat.le_of_ble_eq_true rfl)⟩ dX4_isDay_11 (fun _ _ z => False.elim z) (fun v9 ws9 h2 => ?_)))
  rw [FO_2031] at h2
  obtain ⟨rfl, hw9⟩ := h2
  subst ws9
  dsimp only [mPush]
  refine r_iconstZ hX dX4_isDay_14 (r_isubZ hX dX4_isDay_15 (r_i2lZ hX dX4_isDay_16 (by decide) (r_callS hX (z_X4_isIn _ _ _ _ _ (by first | with_reducible assumption | decide | omega) (by first | with_reducible assumption | decide | omega) (by first | with_reducible assumption | decide | omega)) ks_X4_38 rfl rfl (Nat.le_of_ble_eq_true rfl) ⟨(Nat.le_of_ble_eq_true rfl), (Nat.le_of_ble_eq_true rfl)⟩ ⟨(Nat.le_of_ble_eq_true rfl), (Nat.le_of_ble_eq_true rfl)⟩ dX4_isDay_17 (fun _ _ z => False.elim z) (fun v9 ws9 h3 => ?_))))
  obtain ⟨rfl, hw9⟩ := h3
  subst ws9
  dsimp only [mPush]
  refine r_zret hX hE dX4_isDay_20 (b2i_n _) (Nat.le_of_ble_eq_true rfl) (Nat.le_of_ble_eq_true rfl) ⟨zb ?_, rfl⟩
  exact decide_eq_decide.mpr (by omega)
set_option maxHeartbeats 4000000 in
set_option maxRecDepth 20000 in
theorem z_X4_isTime (tys : List (ClassId × FieldType)) (ws : va_W) (s n : Int) (hs : rJ s) (hn : rJ n)  : mCt tys yX4_isTime cX4_isTime 2 (some .boolean) ⟨1, 0, 0, 25⟩ [.int (iZ s), .int (iZ n)] ws (fun v ws' => v = some (.int (b2i (decide ((0 ≤ s ∧ s ≤ 86399) ∧ (0 ≤ n ∧ n ≤ 999999999))))) ∧ ws' = ws) mNo := by
  refine mCt.of (by decide +kernel) (Nat.le_of_ble_eq_true rfl) (fun X hX hE => ?_)
  replace hX : mOK X RX4 cX4_isTime 2 ⟨1, 0, 0, 25⟩ [] tys := hX
  refine r_iload_n hX dX4_isTime_0 rfl rfl (r_i2lZ hX dX4_isTime_1 (by first | with_reducible assumption | decide | omega) (r_lconstZ (v := 0) hX dX4_isTime_2 rfl (r_ldc2Z (z := 86399) hX kc_X4_143 (by decide +kernel) dX4_isTime_3 (r_callS hX (z_X4_isIn _ _ _ _ _ (by first | with_reducible assumption | decide | omega) (by first | with_reducible assumption | decide | omega) (by first | with_reducible assumption | decide | omega)) ks_X4_38 rfl rfl (Nat.le_of_ble_eq_true rfl) ⟨(Nat.le_of_ble_eq_true rfl), (Nat.le_of_ble_eq_true rfl)⟩ ⟨(Nat.le_of_ble_eq_true rfl), (Nat.le_of_ble_eq_true rfl)⟩ dX4_isTime_6 (fun _ _ z => False.elim z) (fun v9 ws9 h1 => ?_)))))
  obtain ⟨rfl, hw9⟩ := h1
  subst ws9
  dsimp only [mPush]
  refine r_if_eqB (tgt := 28) hX dX4_isTime_9 (by decide) (fun c2 => ?_) (fun c2 => ?_)
  · have c2 := of_decide_eq_false c2
    refine r_iconstZ hX dX4_isTime_28 (r_zret hX hE dX4_isTime_29 (by decide) (Nat.le_of_ble_eq_true rfl) (Nat.le_of_ble_eq_true rfl) ⟨zb0 ?_, rfl⟩)
    exact decide_eq_false (by omega)
  · have c2 := of_decide_eq_true c2
    refine r_iload_n hX dX4_isTime_12 rfl rfl (r_i2lZ hX dX4_isTime_13 (by first | with_reducible assumption | decide | omega) (r_lconstZ (v := 0) hX dX4_isTime_14 rfl (r_ldc2Z (z := 999999999) hX kc_X4_145 (by decide +kernel) dX4_isTime_15 (r_callS hX (z_X4_isIn _ _ _ _ _ (by first | with_reducible assumption | decide | omega) (by first | with_reducible assumption | decide | omega) (by first | with_reducible assumption | decide | omega)) ks_X4_38 rfl rfl (Nat.le_of_ble_eq_true rfl) ⟨(Nat.le_of_ble_eq_true rfl), (Nat.le_of_ble_eq_true rfl)⟩ ⟨(Nat.le_of_ble_eq_true rfl), (Nat.le_of_ble_eq_true rfl)⟩ dX4_isTime_18 (fun _ _ z => False.elim z) (fun v9 ws9 h3 => ?_)))))
    obtain ⟨rfl, hw9⟩ := h3
    subst ws9
    dsimp only [mPush]
    refine r_if_eqB (tgt := 28) hX dX4_isTime_21 (by decide) (fun c4 => ?_) (fun c4 => ?_)
    · have c4 := of_decide_eq_false c4
      refine r_iconstZ hX dX4_isTime_28 (r_zret hX hE dX4_isTime_29 (by decide) (Nat.le_of_ble_eq_true rfl) (Nat.le_of_ble_eq_true rfl) ⟨zb0 ?_, rfl⟩)
      exact decide_eq_false (by omega)
    · have c4 := of_decide_eq_true c4
      refine r_iconstZ hX dX4_isTime_24 (r_goto (tgt := 29) hX dX4_isTime_25 (by decide) (r_zret hX hE dX4_isTime_29 (by decide) (Nat.le_of_ble_eq_true rfl) (Nat.le_of_ble_eq_true rfl) ⟨zb1 ?_, rfl⟩))
      exact decide_eq_true (by omega)
set_option maxHeartbeats 4000000 in
set_option maxRecDepth 20000 in
theorem z_X4_isThere (tys : List (ClassId × FieldType)) (ws : va_W) (y m d : Int) (hy : rJ y) (hm : rJ m) (hd : rJ d)  : mCt tys yX4_isThere cX4_isThere 3 (some .boolean) ⟨2, 0, 0, 41⟩ [.int (iZ y), .int (iZ m), .int (iZ d)] ws (fun v ws' => v = some (.int (b2i (decide ((1910 ≤ y ∧ y ≤ 2030) ∧ (1 ≤ m ∧ m ≤ 12) ∧ 1 ≤ d ∧ d ≤ (dm y.toNat m.toNat : Nat))))) ∧ ws' = ws) mNo := by
  refine mCt.of (by decide +kernel) (Nat.le_of_ble_eq_true rfl) (fun X hX hE => ?_)
  replace hX : mOK X RX4 cX4_isThere 3 ⟨2, 0, 0, 41⟩ [] tys := hX
  refine r_iload_n hX dX4_isThere_0 rfl rfl (r_i2lZ hX dX4_isThere_1 (by first | with_reducible assumption | decide | omega) (r_ldc2Z (z := 1910) hX kc_X4_147 (by decide +kernel) dX4_isThere_2 (r_ldc2Z (z := 2030) hX kc_X4_149 (by decide +kernel) dX4_isThere_5 (r_callS hX (z_X4_isIn _ _ _ _ _ (by first | with_reducible assumption | decide | omega) (by first | with_reducible assumption | decide | omega) (by first | with_reducible assumption | decide | omega)) ks_X4_38 rfl rfl (Nat.le_of_ble_eq_true rfl) ⟨(Nat.le_of_ble_eq_true rfl), (Nat.le_of_ble_eq_true rfl)⟩ ⟨(Nat.le_of_ble_eq_true rfl), (Nat.le_of_ble_eq_true rfl)⟩ dX4_isThere_8 (fun _ _ z => False.elim z) (fun v9 ws9 h1 => ?_)))))
  obtain ⟨rfl, hw9⟩ := h1
  subst ws9
  dsimp only [mPush]
  refine r_if_eqB (tgt := 45) hX dX4_isThere_11 (by decide) (fun c2 => ?_) (fun c2 => ?_)
  · have c2 := of_decide_eq_false c2
    refine r_iconstZ hX dX4_isThere_45 (r_zret hX hE dX4_isThere_46 (by decide) (Nat.le_of_ble_eq_true rfl) (Nat.le_of_ble_eq_true rfl) ⟨zb0 ?_, rfl⟩)
    exact decide_eq_false (by omega)
  · have c2 := of_decide_eq_true c2
    refine r_iload_n hX dX4_isThere_14 rfl rfl (r_i2lZ hX dX4_isThere_15 (by first | with_reducible assumption | decide | omega) (r_lconstZ (v := 1) hX dX4_isThere_16 rfl (r_ldc2Z (z := 12) hX kc_X4_151 (by decide +kernel) dX4_isThere_17 (r_callS hX (z_X4_isIn _ _ _ _ _ (by first | with_reducible assumption | decide | omega) (by first | with_reducible assumption | decide | omega) (by first | with_reducible assumption | decide | omega)) ks_X4_38 rfl rfl (Nat.le_of_ble_eq_true rfl) ⟨(Nat.le_of_ble_eq_true rfl), (Nat.le_of_ble_eq_true rfl)⟩ ⟨(Nat.le_of_ble_eq_true rfl), (Nat.le_of_ble_eq_true rfl)⟩ dX4_isThere_20 (fun _ _ z => False.elim z) (fun v9 ws9 h3 => ?_)))))
    obtain ⟨rfl, hw9⟩ := h3
    subst ws9
    dsimp only [mPush]
    refine r_if_eqB (tgt := 45) hX dX4_isThere_23 (by decide) (fun c4 => ?_) (fun c4 => ?_)
    · have c4 := of_decide_eq_false c4
      refine r_iconstZ hX dX4_isThere_45 (r_zret hX hE dX4_isThere_46 (by decide) (Nat.le_of_ble_eq_true rfl) (Nat.le_of_ble_eq_true rfl) ⟨zb0 ?_, rfl⟩)
      exact decide_eq_false (by omega)
    · have c4 := of_decide_eq_true c4
      refine r_iload_n hX dX4_isThere_26 rfl rfl (r_i2lZ hX dX4_isThere_27 (by first | with_reducible assumption | decide | omega) (r_lconstZ (v := 1) hX dX4_isThere_28 rfl (r_iload_n hX dX4_isThere_29 rfl rfl (r_iload_n hX dX4_isThere_30 rfl rfl (r_callS hX (z_X4_daysOf _ _ _ y.toNat (by first | with_reducible assumption | decide | omega) (by first | with_reducible assumption | decide | omega) _ m.toNat (by first | with_reducible assumption | decide | omega) (by first | with_reducible assumption | decide | omega)) ks_X4_55 rfl rfl (Nat.le_of_ble_eq_true rfl) ⟨(Nat.le_of_ble_eq_true rfl), (Nat.le_of_ble_eq_true rfl)⟩ ⟨(Nat.le_of_ble_eq_true rfl), (Nat.le_of_ble_eq_true rfl)⟩ dX4_isThere_31 (fun _ _ z => False.elim z) (fun v9 ws9 h5 => ?_))))))
      obtain ⟨rfl, hw9⟩ := h5
      subst ws9
      dsimp only [mPush]
      have hdm5 := dm_b y.toNat m.toNat
      refine r_i2lZ hX dX4_isThere_34 (by first | with_reducible assumption | decide | omega) (r_callS hX (z_X4_isIn _ _ _ _ _ (by first | with_reducible assumption | decide | omega) (by first | with_reducible assumption | decide | omega) (by first | with_reducible assumption | decide | omega)) ks_X4_38 rfl rfl (Nat.le_of_ble_eq_true rfl) ⟨(Nat.le_of_ble_eq_true rfl), (Nat.le_of_ble_eq_true rfl)⟩ ⟨(Nat.le_of_ble_eq_true rfl), (Nat.le_of_ble_eq_true rfl)⟩ dX4_isThere_35 (fun _ _ z => False.elim z) (fun v9 ws9 h6 => ?_))
      obtain ⟨rfl, hw9⟩ := h6
      subst ws9
      dsimp only [mPush]
      refine r_if_eqB (tgt := 45) hX dX4_isThere_38 (by decide) (fun c7 => ?_) (fun c7 => ?_)
      · have c7 := of_decide_eq_false c7
        refine r_iconstZ hX dX4_isThere_45 (r_zret hX hE dX4_isThere_46 (by decide) (Nat.le_of_ble_eq_true rfl) (Nat.le_of_ble_eq_true rfl) ⟨zb0 ?_, rfl⟩)
        exact decide_eq_false (by omega)
      · have c7 := of_decide_eq_true c7
        refine r_iconstZ hX dX4_isThere_41 (r_goto (tgt := 46) hX dX4_isThere_42 (by decide) (r_zret hX hE dX4_isThere_46 (by decide) (Nat.le_of_ble_eq_true rfl) (Nat.le_of_ble_eq_true rfl) ⟨zb1 ?_, rfl⟩))
        exact decide_eq_true (by omega)
set_option maxHeartbeats 4000000 in
set_option maxRecDepth 20000 in
theorem z_X4_put_ (ad ae : Nat → Nat) (cs : ClassId × ClassId × ClassId) (K : mK) (S : mS) (th : Int32) (rest : va_W) (hS : sWF S) (i : Int) (j : Nat) (hij : i = (j : Int)) (hj : j < 7) (day sec n o : Int) (hday : -100000000000 ≤ day ∧ day ≤ 100000000000000000) (hsec : -100000000000000000 ≤ sec ∧ sec ≤ 100000000000000000)  : mCt (mTy cs) yX4_put_ cX4_put_ 10 (some .int) ⟨4, 0, 0, 91⟩ [.ref (ae 0), .int (iZ i), .long (lZ day), .long (lZ sec), .int (iZ n), .int (iZ o)] (mRw ad ae cs K (mJof S th) rest) (fun v ws' => v = some (.int (iZ (oLoc S j (day * 86400 + sec) n o).1)) ∧ ws' = mRw ad ae cs K (mJof (oLoc S j (day * 86400 + sec) n o).2 th) rest) mNo := by
  refine mCt.of (by decide +kernel) (Nat.le_of_ble_eq_true rfl) (fun X hX hE => ?_)
  replace hX : mOK X RX4 cX4_put_ 10 ⟨4, 0, 0, 91⟩ [] (mTy cs) := hX
  refine r_lload_n hX dX4_put__0 rfl rfl (r_lload hX dX4_put__1 rfl (r_ldc2Z (z := 86400) hX kc_X4_113 (by decide +kernel) dX4_put__3 (r_callS hX (c_X4_whole_x _ _ _ _ (by first | with_reducible assumption | decide | omega) (by first | with_reducible assumption | decide | omega) (by first | with_reducible assumption | decide | omega) (by first | with_reducible assumption | decide | omega)) ks_X4_92 rfl rfl (Nat.le_of_ble_eq_true rfl) ⟨(Nat.le_of_ble_eq_true rfl), (Nat.le_of_ble_eq_true rfl)⟩ ⟨(Nat.le_of_ble_eq_true rfl), (Nat.le_of_ble_eq_true rfl)⟩ dX4_put__6 (fun _ _ z => False.elim z) (fun v9 ws9 h1 => ?_))))
  obtain ⟨rfl, hw9⟩ := h1
  subst ws9
  dsimp only [mPush]
  refine r_laddZ hX dX4_put__9 (r_lstore hX dX4_put__10 (by decide) rfl (r_lload hX dX4_put__12 rfl (r_callS hX (z_X4_isDay _ _ _ (by first | with_reducible assumption | decide | omega)) ks_X4_135 rfl rfl (Nat.le_of_ble_eq_true rfl) ⟨(Nat.le_of_ble_eq_true rfl), (Nat.le_of_ble_eq_true rfl)⟩ ⟨(Nat.le_of_ble_eq_true rfl), (Nat.le_of_ble_eq_true rfl)⟩ dX4_put__14 (fun _ _ z => False.elim z) (fun v9 ws9 h2 => ?_))))
  obtain ⟨rfl, hw9⟩ := h2
  subst ws9
  dsimp only [mPush]
  refine r_if_eqB (tgt := 43) hX dX4_put__17 (by decide) (fun c3 => ?_) (fun c3 => ?_)
  · have c3 := of_decide_eq_false c3
    refine r_aload_n hX dX4_put__43 rfl rfl (r_callV hX (z_X4_no ad ae cs K S th rest) kv_X4_80 14 rfl rfl rfl rfl (Nat.le_of_ble_eq_true rfl) ⟨(Nat.le_of_ble_eq_true rfl), (Nat.le_of_ble_eq_true rfl)⟩ ⟨(Nat.le_of_ble_eq_true rfl), (Nat.le_of_ble_eq_true rfl)⟩ dX4_put__44 (fun _ _ z => False.elim z) (fun v9 ws9 h4 => ?_))
    obtain ⟨rfl, hw9⟩ := h4
    subst ws9
    dsimp only [mPush]
    refine r_iret hX hE dX4_put__47 (Nat.le_of_ble_eq_true rfl) (Nat.le_of_ble_eq_true rfl) ?_
    rw [oLoc_n (by omega)]
    exact ⟨rfl, rfl⟩
  · have c3 := of_decide_eq_true c3
    refine r_aload_n hX dX4_put__20 rfl rfl (r_iload_n hX dX4_put__21 rfl rfl (r_lload hX dX4_put__22 rfl (r_l2iZ hX dX4_put__24 (r_lload hX dX4_put__25 rfl (r_ldc2Z (z := 86400) hX kc_X4_113 (by decide +kernel) dX4_put__27 (r_callS hX (c_X4_rest_x _ _ _ _ (by first | with_reducible assumption | decide | omega) (by first | with_reducible assumption | decide | omega) (by first | with_reducible assumption | decide | omega) (by first | with_reducible assumption | decide | omega)) ks_X4_102 rfl rfl (Nat.le_of_ble_eq_true rfl) ⟨(Nat.le_of_ble_eq_true rfl), (Nat.le_of_ble_eq_true rfl)⟩ ⟨(Nat.le_of_ble_eq_true rfl), (Nat.le_of_ble_eq_true rfl)⟩ dX4_put__30 (fun _ _ z => False.elim z) (fun v9 ws9 h5 => ?_)))))))
    obtain ⟨rfl, hw9⟩ := h5
    subst ws9
    dsimp only [mPush]
    refine r_iload hX dX4_put__33 rfl (r_iload hX dX4_put__35 rfl (r_callV hX (z_X4_put ad ae cs K S th rest hS _ j (by first | with_reducible assumption | decide | omega) (by first | with_reducible assumption | decide | omega) _ _ _ _ (by first | with_reducible assumption | decide | omega)) kv_X4_139 14 rfl rfl rfl rfl (Nat.le_of_ble_eq_true rfl) ⟨(Nat.le_of_ble_eq_true rfl), (Nat.le_of_ble_eq_true rfl)⟩ ⟨(Nat.le_of_ble_eq_true rfl), (Nat.le_of_ble_eq_true rfl)⟩ dX4_put__37 (fun _ _ z => False.elim z) (fun v9 ws9 h6 => ?_)))
    obtain ⟨rfl, hw9⟩ := h6
    subst ws9
    dsimp only [mPush]
    refine r_goto (tgt := 47) hX dX4_put__40 (by decide) (r_iret hX hE dX4_put__47 (Nat.le_of_ble_eq_true rfl) (Nat.le_of_ble_eq_true rfl) ?_)
    rw [oLoc_y (by omega)]
    exact ⟨zi (by omega), by rw [show (day + sec / 86400) * 86400 + sec % 86400 = day * 86400 + sec by omega]⟩
set_option maxHeartbeats 4000000 in
set_option maxRecDepth 20000 in
theorem z_X4_putDay (ad ae : Nat → Nat) (cs : ClassId × ClassId × ClassId) (K : mK) (S : mS) (th : Int32) (rest : va_W) (hS : sWF S) (i : Int) (j : Nat) (hij : i = (j : Int)) (hj : j < 7) (Y : Int) (y : Nat) (hY : Y = (y : Int)) (hy : 1910 ≤ y ∧ y ≤ 2030) (M : Int) (m : Nat) (hM : M = (m : Int)) (hm : 1 ≤ m ∧ m ≤ 12) (E0 : Int) (hE0 : 1 ≤ E0 ∧ E0 ≤ 31)  : mCt (mTy cs) yX4_putDay cX4_putDay 5 (some .int) ⟨4, 0, 0, 94⟩ [.ref (ae 0), .int (iZ i), .int (iZ Y), .int (iZ M), .int (iZ E0)] (mRw ad ae cs K (mJof S th) rest) (fun v ws' => v = some (.int (iZ (FO y + DB y m + zMin E0 (dm y m : Nat) - 1))) ∧ ws' = mRw ad ae cs K (mJof (sLo S j ((FO y + DB y m + zMin E0 (dm y m : Nat) - 1) * 86400 + sse S j % 86400, sna S j, sow S j)) th) rest) mNo := by
  refine mCt.of (by decide +kernel) (Nat.le_of_ble_eq_true rfl) (fun X hX hE => ?_)
  replace hX : mOK X RX4 cX4_putDay 5 ⟨4, 0, 0, 94⟩ [] (mTy cs) := hX
  refine r_aload_n hX dX4_putDay_0 rfl rfl (r_get hX kf_X4_17 14 rfl rfl dX4_putDay_1 (r_iload_n hX dX4_putDay_4 rfl rfl (r_iload_n hX dX4_putDay_5 rfl rfl (r_iload_n hX dX4_putDay_6 rfl rfl (r_iload hX dX4_putDay_7 rfl (r_iload_n hX dX4_putDay_9 rfl rfl (r_iload_n hX dX4_putDay_10 rfl rfl ?_)))))))
  refine r_callS hX (z_X4_daysOf _ _ _ y (by first | with_reducible assumption | decide | omega) (by first | with_reducible assumption | decide | omega) _ m (by first | with_reducible assumption | decide | omega) (by first | with_reducible assumption | decide | omega)) ks_X4_55 rfl rfl (Nat.le_of_ble_eq_true rfl) ⟨(Nat.le_of_ble_eq_true rfl), (Nat.le_of_ble_eq_true rfl)⟩ ⟨(Nat.le_of_ble_eq_true rfl), (Nat.le_of_ble_eq_true rfl)⟩ dX4_putDay_11 (fun _ _ z => False.elim z) (fun v9 ws9 h1 => ?_)
  obtain ⟨rfl, hw9⟩ := h1
  subst ws9
  dsimp only [mPush]
  have hdm1 := dm_b y m
  refine r_callS hX (z_J9_min _ _ _ _ (by first | with_reducible assumption | decide | omega) (by first | with_reducible assumption | decide | omega)) ks_X4_178 rfl rfl (Nat.le_of_ble_eq_true rfl) ⟨(Nat.le_of_ble_eq_true rfl), (Nat.le_of_ble_eq_true rfl)⟩ ⟨(Nat.le_of_ble_eq_true rfl), (Nat.le_of_ble_eq_true rfl)⟩ dX4_putDay_14 (fun _ _ z => False.elim z) (fun v9 ws9 h2 => ?_)
  obtain ⟨rfl, hw9⟩ := h2
  subst ws9
  dsimp only [mPush]
  have hmin : 1 ≤ zMin E0 (dm y m : Nat) ∧ zMin E0 (dm y m : Nat) ≤ 31 := by unfold zMin; split <;> omega
  refine r_callS hX (z_X4_dayOf _ _ _ y (by first | with_reducible assumption | decide | omega) (by first | with_reducible assumption | decide | omega) _ m (by first | with_reducible assumption | decide | omega) (by first | with_reducible assumption | decide | omega) _ (by first | with_reducible assumption | decide | omega)) ks_X4_163 rfl rfl (Nat.le_of_ble_eq_true rfl) ⟨(Nat.le_of_ble_eq_true rfl), (Nat.le_of_ble_eq_true rfl)⟩ ⟨(Nat.le_of_ble_eq_true rfl), (Nat.le_of_ble_eq_true rfl)⟩ dX4_putDay_17 (fun _ _ z => False.elim z) (fun v9 ws9 h3 => ?_)
  obtain ⟨rfl, hw9⟩ := h3
  subst ws9
  dsimp only [mPush]
  refine r_iastZ hX 17 0 rfl rfl j (by first | with_reducible assumption | decide | omega) (by first | with_reducible assumption | decide | omega) (by decide) dX4_putDay_20 (r_eqw (ws' := mRw ad ae cs K ((mJof S th).1, (mJof S th).2.1, (mJof S th).2.2.1, upd (mJof S th).2.2.2.1 j (iZ (FO y + DB y m + (zMin E0 (dm y m : Nat)) - 1)), (mJof S th).2.2.2.2) rest) rfl (r_eqw (congrArg (fun J => mRw ad ae cs K J rest) zJ_day) (r_aload_n hX dX4_putDay_21 rfl rfl (r_get hX kf_X4_17 14 rfl rfl dX4_putDay_22 (r_iload_n hX dX4_putDay_25 rfl rfl (r_ialdZ hX 17 0 rfl rfl j (by first | with_reducible assumption | decide | omega) (by first | with_reducible assumption | decide | omega) (by decide) dX4_putDay_26 (r_iret hX hE dX4_putDay_27 (Nat.le_of_ble_eq_true rfl) (Nat.le_of_ble_eq_true rfl) ?_)))))))
  refine ⟨zi ?_, rfl⟩
  rw [zlo_day]
  omega
end
-- 73 zrtold
section
/-! The reference, exact (rows by a program of this repository). -/
theorem day_inZ {y m : Nat} {e : Int} (h1 : 1910 ≤ y) (h2 : y ≤ 2030) (h3 : 1 ≤ m) (h4 : m ≤ 12) (h5 : 1 ≤ e) (h6 : e ≤ (dm y m : Nat)) : -21915 ≤ FO y + DB y m + e - 1 ∧ FO y + DB y m + e - 1 ≤ 22279 := by
  have := day_in (d := e.toNat) h1 h2 h3 h4 (by omega) (by omega)
  omega
theorem zMin_r (a b : Int) : zMin a b ≤ b := by unfold zMin; split <;> omega
theorem zlo_own {S : mS} {k : Nat} {z n o : Int} : sow (sLo S k (z, n, o)) k = o := by
  show (zup S.2.2.1 k (z, n, o) k).2.2 = o
  rw [zup_eq]
theorem zdp_cp {s n o w : Int} (h : 0 ≤ w ∧ w < 4) : zDP s n o (4 + w) = zCP s n o w := by
  rcases (show w = 0 ∨ w = 1 ∨ w = 2 ∨ w = 3 by omega) with rfl | rfl | rfl | rfl <;> rfl
set_option maxHeartbeats 4000000 in
set_option maxRecDepth 20000 in
theorem z_X4_moveMonths (ad ae : Nat → Nat) (cs : ClassId × ClassId × ClassId) (K : mK) (S : mS) (th : Int32) (rest : va_W) (hS : sWF S) (i : Int) (j : Nat) (hij : i = (j : Int)) (hj : j < 4) (months : Int) (hm : -100000000000 ≤ months ∧ months ≤ 100000000000)  : mCt (mTy cs) yX4_moveMonths cX4_moveMonths 9 (some .int) ⟨5, 1, 4, 119⟩ [.ref (ae 0), .int (iZ i), .long (lZ months)] (mRw ad ae cs K (mJof S th) rest) (fun v ws' => v = some (.int (iZ (oMon S j (12 * (YR (sse S j / 86400) : Nat) + (MO (sse S j / 86400) : Nat) - 1 + months)).1)) ∧ ws' = mRw ad ae cs K (mJof (oMon S j (12 * (YR (sse S j / 86400) : Nat) + (MO (sse S j / 86400) : Nat) - 1 + months)).2 th) rest) mNo := by
  refine mCt.of (by decide +kernel) (Nat.le_of_ble_eq_true rfl) (fun X hX hE => ?_)
  replace hX : mOK X RX4 cX4_moveMonths 9 ⟨5, 1, 4, 119⟩ [] (mTy cs) := hX
  have hr := zrg hS (d := j) (by omega)
  have hse := hS.2.2.2.1 j hj
  have hsd : -21915 ≤ sse S j / 86400 ∧ sse S j / 86400 ≤ 22279 := by omega
  have hyr := YR_spec hsd.1 hsd.2
  have hmo := MO_b (sse S j / 86400)
  have hdom := DOM_b hsd.1 hsd.2
  have hdmb := dm_b (YR (sse S j / 86400)) (MO (sse S j / 86400))
  refine r_aload_n hX dX4_moveMonths_0 rfl rfl (r_get hX kf_X4_17 14 rfl rfl dX4_moveMonths_1 (r_iload_n hX dX4_moveMonths_4 rfl rfl (r_ialdZ hX 17 0 rfl rfl j (by first | with_reducible assumption | decide | omega) (by first | with_reducible assumption | decide | omega) (by decide) dX4_moveMonths_5 (r_callS hX (z_X4_parts _ _ _ (by first | with_reducible assumption | decide | omega)) ks_X4_170 rfl rfl (Nat.le_of_ble_eq_true rfl) ⟨(Nat.le_of_ble_eq_true rfl), (Nat.le_of_ble_eq_true rfl)⟩ ⟨(Nat.le_of_ble_eq_true rfl), (Nat.le_of_ble_eq_true rfl)⟩ dX4_moveMonths_6 (fun _ _ z => False.elim z) (fun v9 ws9 h1 => ?_)))))
  obtain ⟨f2, q3, hf4, rfl, hw9⟩ := h1
  subst ws9
  dsimp only [mPush]
  refine r_eqw mRw_app (r_astore hX dX4_moveMonths_9 (by decide) rfl (r_ldc2Z (z := 12) hX kc_X4_151 (by decide +kernel) dX4_moveMonths_11 (r_aload hX dX4_moveMonths_14 rfl (r_iconstZ hX dX4_moveMonths_16 (r_ialdZ hX (21 + (rest).length) 0 zRw_last rfl 0 (by decide) (by decide) (by decide) dX4_moveMonths_17 ?_)))))
  rw [hf4.1]
  refine r_i2lZ hX dX4_moveMonths_18 (by first | with_reducible assumption | decide | omega) (r_lmulZ hX dX4_moveMonths_19 (r_aload hX dX4_moveMonths_20 rfl (r_iconstZ hX dX4_moveMonths_22 (r_ialdZ hX (21 + (rest).length) 0 zRw_last rfl 1 (by decide) (by decide) (by decide) dX4_moveMonths_23 ?_))))
  rw [hf4.2.1]
  refine r_i2lZ hX dX4_moveMonths_24 (by first | with_reducible assumption | decide | omega) (r_laddZ hX dX4_moveMonths_25 (r_lconstZ (v := 1) hX dX4_moveMonths_26 rfl (r_lsubZ hX dX4_moveMonths_27 (r_lload_n hX dX4_moveMonths_28 rfl rfl (r_laddZ hX dX4_moveMonths_29 (r_lstore hX dX4_moveMonths_30 (by decide) rfl (r_lload hX dX4_moveMonths_32 rfl ?_)))))))
  refine r_ldc2Z (z := 12) hX kc_X4_151 (by decide +kernel) dX4_moveMonths_34 (r_callS hX (c_X4_whole_x _ _ _ _ (by first | with_reducible assumption | decide | omega) (by first | with_reducible assumption | decide | omega) (by first | with_reducible assumption | decide | omega) (by first | with_reducible assumption | decide | omega)) ks_X4_92 rfl rfl (Nat.le_of_ble_eq_true rfl) ⟨(Nat.le_of_ble_eq_true rfl), (Nat.le_of_ble_eq_true rfl)⟩ ⟨(Nat.le_of_ble_eq_true rfl), (Nat.le_of_ble_eq_true rfl)⟩ dX4_moveMonths_37 (fun _ _ z => False.elim z) (fun v9 ws9 h5 => ?_))
  obtain ⟨rfl, hw9⟩ := h5
  subst ws9
  dsimp only [mPush]
  refine r_lstore hX dX4_moveMonths_40 (by decide) rfl (r_lload hX dX4_moveMonths_42 rfl (r_ldc2Z (z := 1910) hX kc_X4_147 (by decide +kernel) dX4_moveMonths_44 (r_ldc2Z (z := 2030) hX kc_X4_149 (by decide +kernel) dX4_moveMonths_47 (r_callS hX (z_X4_isIn _ _ _ _ _ (by first | with_reducible assumption | decide | omega) (by first | with_reducible assumption | decide | omega) (by first | with_reducible assumption | decide | omega)) ks_X4_38 rfl rfl (Nat.le_of_ble_eq_true rfl) ⟨(Nat.le_of_ble_eq_true rfl), (Nat.le_of_ble_eq_true rfl)⟩ ⟨(Nat.le_of_ble_eq_true rfl), (Nat.le_of_ble_eq_true rfl)⟩ dX4_moveMonths_50 (fun _ _ z => False.elim z) (fun v9 ws9 h6 => ?_)))))
  obtain ⟨rfl, hw9⟩ := h6
  subst ws9
  dsimp only [mPush]
  refine r_if_neB (tgt := 61) hX dX4_moveMonths_53 (by decide) (fun c7 => ?_) (fun c7 => ?_)
  · have c7 := of_decide_eq_true c7
    refine r_aload_n hX dX4_moveMonths_61 rfl rfl (r_iload_n hX dX4_moveMonths_62 rfl rfl (r_lload hX dX4_moveMonths_63 rfl (r_l2iZ hX dX4_moveMonths_65 (r_lload hX dX4_moveMonths_66 rfl (r_ldc2Z (z := 12) hX kc_X4_151 (by decide +kernel) dX4_moveMonths_68 (r_callS hX (c_X4_rest_x _ _ _ _ (by first | with_reducible assumption | decide | omega) (by first | with_reducible assumption | decide | omega) (by first | with_reducible assumption | decide | omega) (by first | with_reducible assumption | decide | omega)) ks_X4_102 rfl rfl (Nat.le_of_ble_eq_true rfl) ⟨(Nat.le_of_ble_eq_true rfl), (Nat.le_of_ble_eq_true rfl)⟩ ⟨(Nat.le_of_ble_eq_true rfl), (Nat.le_of_ble_eq_true rfl)⟩ dX4_moveMonths_71 (fun _ _ z => False.elim z) (fun v9 ws9 h8 => ?_)))))))
    obtain ⟨rfl, hw9⟩ := h8
    subst ws9
    dsimp only [mPush]
    refine r_iconstZ hX dX4_moveMonths_74 (r_iaddZ hX dX4_moveMonths_75 (r_aload hX dX4_moveMonths_76 rfl (r_iconstZ hX dX4_moveMonths_78 (r_ialdZ hX (21 + (rest).length) 0 zRw_last rfl 2 (by decide) (by decide) (by decide) dX4_moveMonths_79 ?_))))
    rw [hf4.2.2.1]
    refine r_callV hX (z_X4_putDay ad ae cs K S th (rest ++ [(q3, .inl (cs.1, 4, .inl f2))]) hS _ j (by first | with_reducible assumption | decide | omega) (by first | with_reducible assumption | decide | omega) _ ((((((12 * (YR (sse S j / 86400) : Nat)) + (MO (sse S j / 86400) : Nat)) - 1) + months) / 12)).toNat (by first | with_reducible assumption | decide | omega) (by first | with_reducible assumption | decide | omega) _ ((((((12 * (YR (sse S j / 86400) : Nat)) + (MO (sse S j / 86400) : Nat)) - 1) + months) % 12) + 1).toNat (by first | with_reducible assumption | decide | omega) (by first | with_reducible assumption | decide | omega) _ (by first | with_reducible assumption | decide | omega)) kv_X4_174 14 rfl rfl rfl rfl (Nat.le_of_ble_eq_true rfl) ⟨(Nat.le_of_ble_eq_true rfl), (Nat.le_of_ble_eq_true rfl)⟩ ⟨(Nat.le_of_ble_eq_true rfl), (Nat.le_of_ble_eq_true rfl)⟩ dX4_moveMonths_80 (fun _ _ z => False.elim z) (fun v9 ws9 h9 => ?_)
    obtain ⟨rfl, hw9⟩ := h9
    subst ws9
    dsimp only [mPush]
    refine r_eqw (mRw_app (rest := rest)).symm (r_drop ?_)
    refine r_iret hX hE dX4_moveMonths_83 (Nat.le_of_ble_eq_true rfl) (Nat.le_of_ble_eq_true rfl) ?_
    have hdmq := dm_b ((((((12 * (YR (sse S j / 86400) : Nat)) + (MO (sse S j / 86400) : Nat)) - 1) + months) / 12)).toNat ((((((12 * (YR (sse S j / 86400) : Nat)) + (MO (sse S j / 86400) : Nat)) - 1) + months) % 12) + 1).toNat
    have hin := day_inZ (y := ((((((12 * (YR (sse S j / 86400) : Nat)) + (MO (sse S j / 86400) : Nat)) - 1) + months) / 12)).toNat) (m := ((((((12 * (YR (sse S j / 86400) : Nat)) + (MO (sse S j / 86400) : Nat)) - 1) + months) % 12) + 1).toNat) (e := zMin (DOM (sse S j / 86400)) (dm ((((((12 * (YR (sse S j / 86400) : Nat)) + (MO (sse S j / 86400) : Nat)) - 1) + months) / 12)).toNat ((((((12 * (YR (sse S j / 86400) : Nat)) + (MO (sse S j / 86400) : Nat)) - 1) + months) % 12) + 1).toNat : Nat)) (by omega) (by omega) (by omega) (by omega) (by unfold zMin; split <;> omega) (zMin_r _ _)
    unfold oMon
    rw [if_pos (by omega), oLoc_y (by omega)]
    exact ⟨zi (by omega), rfl⟩
  · have c7 := of_decide_eq_false c7
    refine r_aload_n hX dX4_moveMonths_56 rfl rfl (r_callV hX (z_X4_no ad ae cs K S th (rest ++ [(q3, .inl (cs.1, 4, .inl f2))])) kv_X4_80 14 rfl rfl rfl rfl (Nat.le_of_ble_eq_true rfl) ⟨(Nat.le_of_ble_eq_true rfl), (Nat.le_of_ble_eq_true rfl)⟩ ⟨(Nat.le_of_ble_eq_true rfl), (Nat.le_of_ble_eq_true rfl)⟩ dX4_moveMonths_57 (fun _ _ z => False.elim z) (fun v9 ws9 h10 => ?_))
    obtain ⟨rfl, hw9⟩ := h10
    subst ws9
    dsimp only [mPush]
    refine r_eqw (mRw_app (rest := rest)).symm (r_drop ?_)
    refine r_iret hX hE dX4_moveMonths_60 (Nat.le_of_ble_eq_true rfl) (Nat.le_of_ble_eq_true rfl) ?_
    unfold oMon
    rw [if_neg (by omega)]
    exact ⟨rfl, rfl⟩
def zSf (u : Int) : Int := if u = 4 then 3600 else if u = 5 then 60 else if u = 6 then 1 else 0
theorem zSf_m {u b : Int} (hb : -2147483648 ≤ b ∧ b ≤ 2147483648) : -10000000000000 ≤ b * zSf u ∧ b * zSf u ≤ 10000000000000 := by
  unfold zSf
  repeat' split
  all_goals omega
set_option maxHeartbeats 4000000 in
set_option maxRecDepth 20000 in
theorem z_X4_secondsOf (tys : List (ClassId × FieldType)) (ws : va_W) (u : Int) (hu : rJ u)  : mCt tys yX4_secondsOf cX4_secondsOf 1 (some .int) ⟨1, 0, 0, 20⟩ [.int (iZ u)] ws (fun v ws' => v = some (.int (iZ (zSf u))) ∧ ws' = ws) mNo := by
  refine mCt.of (by decide +kernel) (Nat.le_of_ble_eq_true rfl) (fun X hX hE => ?_)
  replace hX : mOK X RX4 cX4_secondsOf 1 ⟨1, 0, 0, 20⟩ [] tys := hX
  refine r_iload_n hX dX4_secondsOf_0 rfl rfl (r_iconstZ hX dX4_secondsOf_1 (r_icmp_neZ (tgt := 11) hX dX4_secondsOf_2 (by decide) (by first | with_reducible assumption | decide | omega) (by decide) (fun c1 => ?_) (fun c1 => ?_)))
  · refine r_iload_n hX dX4_secondsOf_11 rfl rfl (r_iconstZ hX dX4_secondsOf_12 (r_icmp_neZ (tgt := 21) hX dX4_secondsOf_13 (by decide) (by first | with_reducible assumption | decide | omega) (by decide) (fun c2 => ?_) (fun c2 => ?_)))
    · refine r_iload_n hX dX4_secondsOf_21 rfl rfl (r_bipushZ hX dX4_secondsOf_22 (by decide +kernel) (r_icmp_neZ (tgt := 31) hX dX4_secondsOf_24 (by decide) (by first | with_reducible assumption | decide | omega) (by decide) (fun c3 => ?_) (fun c3 => ?_)))
      · refine r_iconstZ hX dX4_secondsOf_31 (r_callS hX (z_X4_one _ _ _ (by first | with_reducible assumption | decide | omega)) ks_X4_84 rfl rfl (Nat.le_of_ble_eq_true rfl) ⟨(Nat.le_of_ble_eq_true rfl), (Nat.le_of_ble_eq_true rfl)⟩ ⟨(Nat.le_of_ble_eq_true rfl), (Nat.le_of_ble_eq_true rfl)⟩ dX4_secondsOf_32 (fun _ _ z => False.elim z) (fun v9 ws9 h4 => ?_))
        obtain ⟨rfl, hw9⟩ := h4
        subst ws9
        dsimp only [mPush]
        refine r_iret hX hE dX4_secondsOf_35 (Nat.le_of_ble_eq_true rfl) (Nat.le_of_ble_eq_true rfl) ⟨zi ?_, rfl⟩
        unfold zSf
        repeat' split
        all_goals omega
      · refine r_iconstZ hX dX4_secondsOf_27 (r_goto (tgt := 32) hX dX4_secondsOf_28 (by decide) (r_callS hX (z_X4_one _ _ _ (by first | with_reducible assumption | decide | omega)) ks_X4_84 rfl rfl (Nat.le_of_ble_eq_true rfl) ⟨(Nat.le_of_ble_eq_true rfl), (Nat.le_of_ble_eq_true rfl)⟩ ⟨(Nat.le_of_ble_eq_true rfl), (Nat.le_of_ble_eq_true rfl)⟩ dX4_secondsOf_32 (fun _ _ z => False.elim z) (fun v9 ws9 h5 => ?_)))
        obtain ⟨rfl, hw9⟩ := h5
        subst ws9
        dsimp only [mPush]
        refine r_iret hX hE dX4_secondsOf_35 (Nat.le_of_ble_eq_true rfl) (Nat.le_of_ble_eq_true rfl) ⟨zi ?_, rfl⟩
        unfold zSf
        repeat' split
        all_goals omega
    · refine r_bipushZ hX dX4_secondsOf_16 (by decide +kernel) (r_goto (tgt := 35) hX dX4_secondsOf_18 (by decide) (r_iret hX hE dX4_secondsOf_35 (Nat.le_of_ble_eq_true rfl) (Nat.le_of_ble_eq_true rfl) ⟨zi ?_, rfl⟩))
      unfold zSf
      repeat' split
      all_goals omega
  · refine r_sipushZ hX dX4_secondsOf_5 (by decide +kernel) (r_goto (tgt := 35) hX dX4_secondsOf_8 (by decide) (r_iret hX hE dX4_secondsOf_35 (Nat.le_of_ble_eq_true rfl) (Nat.le_of_ble_eq_true rfl) ⟨zi ?_, rfl⟩))
    unfold zSf
    repeat' split
    all_goals omega
set_option maxHeartbeats 4000000 in
set_option maxRecDepth 20000 in
theorem z_X4_told (ad ae : Nat → Nat) (cs : ClassId × ClassId × ClassId) (K : mK) (S : mS) (th : Int32) (rest : va_W) (hS : sWF S) (i : Int) (j : Nat) (hij : i = (j : Int)) (hj : j < 7) (w : Int) (hw : 0 ≤ w ∧ w ≤ 12)  : mCt (mTy cs) yX4_told cX4_told 4 (some .int) ⟨5, 1, 4, 119⟩ [.ref (ae 0), .int (iZ i), .int (iZ w)] (mRw ad ae cs K (mJof S th) rest) (fun v ws' => v = some (.int (iZ (zDP (sse S j) (sna S j) (sow S j) w))) ∧ ws' = (mRw ad ae cs K (mJof S th) rest)) mNo := by
  refine mCt.of (by decide +kernel) (Nat.le_of_ble_eq_true rfl) (fun X hX hE => ?_)
  replace hX : mOK X RX4 cX4_told 4 ⟨5, 1, 4, 119⟩ [] (mTy cs) := hX
  have hr := zrg hS (d := j) (by omega)
  have hse7 := hS.se hj
  have hsd : -21915 ≤ sse S j / 86400 ∧ sse S j / 86400 ≤ 22279 := by omega
  refine r_aload_n hX dX4_told_0 rfl rfl (r_get hX kf_X4_20 14 rfl rfl dX4_told_1 (r_iload_n hX dX4_told_4 rfl rfl (r_ialdZ hX 18 0 rfl rfl j (by first | with_reducible assumption | decide | omega) (by first | with_reducible assumption | decide | omega) (by decide) dX4_told_5 (r_istore_n hX dX4_told_6 rfl (by decide) rfl (r_iload_n hX dX4_told_7 rfl rfl (r_iconstZ hX dX4_told_8 (r_icmp_geZ (tgt := 24) hX dX4_told_9 (by decide) (by first | with_reducible assumption | decide | omega) (by decide) (fun c1 => ?_) (fun c1 => ?_))))))))
  · refine r_iload_n hX dX4_told_24 rfl rfl ?_
    by_cases s2 : w = 4
    · refine r_tableInZ (z := 4) (off := 47) (tgt := 72) hX dX4_told_25 s2 (by decide) (by decide) (by decide) rfl (by decide) (r_iload_n hX dX4_told_72 rfl rfl (r_sipushZ hX dX4_told_73 (by decide +kernel) (r_idivZ hX dX4_told_76 (by first | with_reducible assumption | decide | omega) (by decide) (r_iret hX hE dX4_told_77 (Nat.le_of_ble_eq_true rfl) (Nat.le_of_ble_eq_true rfl) ⟨zi ?_, rfl⟩))))
      unfold zDP
      rw [if_neg (by first | (rw [s2]; decide) | omega)]
      rw [if_neg (by first | (rw [s2]; decide) | omega)]
      rw [if_neg (by first | (rw [s2]; decide) | omega)]
      rw [if_neg (by first | (rw [s2]; decide) | omega)]
      rw [if_pos (by first | (rw [s2]; decide) | omega)]
      all_goals omega
    by_cases s3 : w = 5
    · refine r_tableInZ (z := 5) (off := 53) (tgt := 78) hX dX4_told_25 s3 (by decide) (by decide) (by decide) rfl (by decide) (r_iload_n hX dX4_told_78 rfl rfl (r_bipushZ hX dX4_told_79 (by decide +kernel) (r_idivZ hX dX4_told_81 (by first | with_reducible assumption | decide | omega) (by decide) (r_bipushZ hX dX4_told_82 (by decide +kernel) (r_iremZ hX dX4_told_84 (by first | with_reducible assumption | decide | omega) (by decide) (r_iret hX hE dX4_told_85 (Nat.le_of_ble_eq_true rfl) (Nat.le_of_ble_eq_true rfl) ⟨zi ?_, rfl⟩))))))
      unfold zDP
      rw [if_neg (by first | (rw [s3]; decide) | omega)]
      rw [if_neg (by first | (rw [s3]; decide) | omega)]
      rw [if_neg (by first | (rw [s3]; decide) | omega)]
      rw [if_neg (by first | (rw [s3]; decide) | omega)]
      rw [if_neg (by first | (rw [s3]; decide) | omega)]
      rw [if_pos (by first | (rw [s3]; decide) | omega)]
      all_goals omega
    by_cases s4 : w = 6
    · refine r_tableInZ (z := 6) (off := 61) (tgt := 86) hX dX4_told_25 s4 (by decide) (by decide) (by decide) rfl (by decide) (r_iload_n hX dX4_told_86 rfl rfl (r_bipushZ hX dX4_told_87 (by decide +kernel) (r_iremZ hX dX4_told_89 (by first | with_reducible assumption | decide | omega) (by decide) (r_iret hX hE dX4_told_90 (Nat.le_of_ble_eq_true rfl) (Nat.le_of_ble_eq_true rfl) ⟨zi ?_, rfl⟩))))
      unfold zDP
      rw [if_neg (by first | (rw [s4]; decide) | omega)]
      rw [if_neg (by first | (rw [s4]; decide) | omega)]
      rw [if_neg (by first | (rw [s4]; decide) | omega)]
      rw [if_neg (by first | (rw [s4]; decide) | omega)]
      rw [if_neg (by first | (rw [s4]; decide) | omega)]
      rw [if_neg (by first | (rw [s4]; decide) | omega)]
      rw [if_pos (by first | (rw [s4]; decide) | omega)]
      all_goals omega
    by_cases s5 : w = 7
    · refine r_tableInZ (z := 7) (off := 66) (tgt := 91) hX dX4_told_25 s5 (by decide) (by decide) (by decide) rfl (by decide) (r_aload_n hX dX4_told_91 rfl rfl (r_get hX kf_X4_23 14 rfl rfl dX4_told_92 (r_iload_n hX dX4_told_95 rfl rfl (r_ialdZ hX 19 0 rfl rfl j (by first | with_reducible assumption | decide | omega) (by first | with_reducible assumption | decide | omega) (by decide) dX4_told_96 (r_iret hX hE dX4_told_97 (Nat.le_of_ble_eq_true rfl) (Nat.le_of_ble_eq_true rfl) ⟨zi ?_, rfl⟩)))))
      unfold zDP
      rw [if_neg (by first | (rw [s5]; decide) | omega)]
      rw [if_neg (by first | (rw [s5]; decide) | omega)]
      rw [if_neg (by first | (rw [s5]; decide) | omega)]
      rw [if_neg (by first | (rw [s5]; decide) | omega)]
      rw [if_neg (by first | (rw [s5]; decide) | omega)]
      rw [if_neg (by first | (rw [s5]; decide) | omega)]
      rw [if_neg (by first | (rw [s5]; decide) | omega)]
      rw [if_pos (by first | (rw [s5]; decide) | omega)]
      all_goals omega
    by_cases s6 : w = 8
    · refine r_tableInZ (z := 8) (off := 73) (tgt := 98) hX dX4_told_25 s6 (by decide) (by decide) (by decide) rfl (by decide) (r_aload_n hX dX4_told_98 rfl rfl (r_get hX kf_X4_17 14 rfl rfl dX4_told_99 (r_iload_n hX dX4_told_102 rfl rfl (r_ialdZ hX 17 0 rfl rfl j (by first | with_reducible assumption | decide | omega) (by first | with_reducible assumption | decide | omega) (by decide) dX4_told_103 (r_i2lZ hX dX4_told_104 (by first | with_reducible assumption | decide | omega) (r_ldc2Z (z := 3) hX kc_X4_36 (by decide +kernel) dX4_told_105 (r_laddZ hX dX4_told_108 ?_)))))))
      refine r_ldc2Z (z := 7) hX kc_X4_183 (by decide +kernel) dX4_told_109 (r_callS hX (c_X4_rest_x _ _ _ _ (by first | with_reducible assumption | decide | omega) (by first | with_reducible assumption | decide | omega) (by first | with_reducible assumption | decide | omega) (by first | with_reducible assumption | decide | omega)) ks_X4_102 rfl rfl (Nat.le_of_ble_eq_true rfl) ⟨(Nat.le_of_ble_eq_true rfl), (Nat.le_of_ble_eq_true rfl)⟩ ⟨(Nat.le_of_ble_eq_true rfl), (Nat.le_of_ble_eq_true rfl)⟩ dX4_told_112 (fun _ _ z => False.elim z) (fun v9 ws9 h7 => ?_))
      obtain ⟨rfl, hw9⟩ := h7
      subst ws9
      dsimp only [mPush]
      refine r_iconstZ hX dX4_told_115 (r_iaddZ hX dX4_told_116 (r_iret hX hE dX4_told_117 (Nat.le_of_ble_eq_true rfl) (Nat.le_of_ble_eq_true rfl) ⟨zi ?_, rfl⟩))
      unfold zDP
      rw [if_neg (by first | (rw [s6]; decide) | omega)]
      rw [if_neg (by first | (rw [s6]; decide) | omega)]
      rw [if_neg (by first | (rw [s6]; decide) | omega)]
      rw [if_neg (by first | (rw [s6]; decide) | omega)]
      rw [if_neg (by first | (rw [s6]; decide) | omega)]
      rw [if_neg (by first | (rw [s6]; decide) | omega)]
      rw [if_neg (by first | (rw [s6]; decide) | omega)]
      rw [if_neg (by first | (rw [s6]; decide) | omega)]
      rw [if_pos (by first | (rw [s6]; decide) | omega)]
      all_goals omega
    by_cases s8 : w = 9
    · refine r_tableInZ (z := 9) (off := 93) (tgt := 118) hX dX4_told_25 s8 (by decide) (by decide) (by decide) rfl (by decide) (r_aload_n hX dX4_told_118 rfl rfl (r_get hX kf_X4_26 14 rfl rfl dX4_told_119 (r_iload_n hX dX4_told_122 rfl rfl (r_ialdZ hX 20 0 rfl rfl j (by first | with_reducible assumption | decide | omega) (by first | with_reducible assumption | decide | omega) (by decide) dX4_told_123 (r_iret hX hE dX4_told_124 (Nat.le_of_ble_eq_true rfl) (Nat.le_of_ble_eq_true rfl) ⟨zi ?_, rfl⟩)))))
      unfold zDP
      rw [if_neg (by first | (rw [s8]; decide) | omega)]
      rw [if_neg (by first | (rw [s8]; decide) | omega)]
      rw [if_neg (by first | (rw [s8]; decide) | omega)]
      rw [if_neg (by first | (rw [s8]; decide) | omega)]
      rw [if_neg (by first | (rw [s8]; decide) | omega)]
      rw [if_neg (by first | (rw [s8]; decide) | omega)]
      rw [if_neg (by first | (rw [s8]; decide) | omega)]
      rw [if_neg (by first | (rw [s8]; decide) | omega)]
      rw [if_neg (by first | (rw [s8]; decide) | omega)]
      rw [if_pos (by first | (rw [s8]; decide) | omega)]
      all_goals omega
    by_cases s9 : w = 10
    · refine r_tableInZ (z := 10) (off := 100) (tgt := 125) hX dX4_told_25 s9 (by decide) (by decide) (by decide) rfl (by decide) (r_aload_n hX dX4_told_125 rfl rfl (r_iload_n hX dX4_told_126 rfl rfl (r_callV hX (z_X4_number ad ae cs K S th rest hS _ j (by first | with_reducible assumption | decide | omega) (by first | with_reducible assumption | decide | omega)) kv_X4_115 14 rfl rfl rfl rfl (Nat.le_of_ble_eq_true rfl) ⟨(Nat.le_of_ble_eq_true rfl), (Nat.le_of_ble_eq_true rfl)⟩ ⟨(Nat.le_of_ble_eq_true rfl), (Nat.le_of_ble_eq_true rfl)⟩ dX4_told_127 (fun _ _ z => False.elim z) (fun v9 ws9 h10 => ?_))))
      obtain ⟨rfl, hw9⟩ := h10
      subst ws9
      dsimp only [mPush]
      refine r_ldc2Z (z := 1000000000) hX kc_X4_96 (by decide +kernel) dX4_told_130 (r_callS hX (c_X4_whole_x _ _ _ _ (by first | with_reducible assumption | decide | omega) (by first | with_reducible assumption | decide | omega) (by first | with_reducible assumption | decide | omega) (by first | with_reducible assumption | decide | omega)) ks_X4_92 rfl rfl (Nat.le_of_ble_eq_true rfl) ⟨(Nat.le_of_ble_eq_true rfl), (Nat.le_of_ble_eq_true rfl)⟩ ⟨(Nat.le_of_ble_eq_true rfl), (Nat.le_of_ble_eq_true rfl)⟩ dX4_told_133 (fun _ _ z => False.elim z) (fun v9 ws9 h11 => ?_))
      obtain ⟨rfl, hw9⟩ := h11
      subst ws9
      dsimp only [mPush]
      refine r_l2iZ hX dX4_told_136 (r_iret hX hE dX4_told_137 (Nat.le_of_ble_eq_true rfl) (Nat.le_of_ble_eq_true rfl) ⟨zi ?_, rfl⟩)
      unfold zDP
      rw [if_neg (by first | (rw [s9]; decide) | omega)]
      rw [if_neg (by first | (rw [s9]; decide) | omega)]
      rw [if_neg (by first | (rw [s9]; decide) | omega)]
      rw [if_neg (by first | (rw [s9]; decide) | omega)]
      rw [if_neg (by first | (rw [s9]; decide) | omega)]
      rw [if_neg (by first | (rw [s9]; decide) | omega)]
      rw [if_neg (by first | (rw [s9]; decide) | omega)]
      rw [if_neg (by first | (rw [s9]; decide) | omega)]
      rw [if_neg (by first | (rw [s9]; decide) | omega)]
      rw [if_neg (by first | (rw [s9]; decide) | omega)]
      rw [if_pos (by first | (rw [s9]; decide) | omega)]
      all_goals omega
    by_cases s12 : w = 11
    · refine r_tableInZ (z := 11) (off := 113) (tgt := 138) hX dX4_told_25 s12 (by decide) (by decide) (by decide) rfl (by decide) (r_aload_n hX dX4_told_138 rfl rfl (r_get hX kf_X4_17 14 rfl rfl dX4_told_139 (r_iload_n hX dX4_told_142 rfl rfl (r_ialdZ hX 17 0 rfl rfl j (by first | with_reducible assumption | decide | omega) (by first | with_reducible assumption | decide | omega) (by decide) dX4_told_143 (r_iret hX hE dX4_told_144 (Nat.le_of_ble_eq_true rfl) (Nat.le_of_ble_eq_true rfl) ⟨zi ?_, rfl⟩)))))
      unfold zDP
      rw [if_neg (by first | (rw [s12]; decide) | omega)]
      rw [if_neg (by first | (rw [s12]; decide) | omega)]
      rw [if_neg (by first | (rw [s12]; decide) | omega)]
      rw [if_neg (by first | (rw [s12]; decide) | omega)]
      rw [if_neg (by first | (rw [s12]; decide) | omega)]
      rw [if_neg (by first | (rw [s12]; decide) | omega)]
      rw [if_neg (by first | (rw [s12]; decide) | omega)]
      rw [if_neg (by first | (rw [s12]; decide) | omega)]
      rw [if_neg (by first | (rw [s12]; decide) | omega)]
      rw [if_neg (by first | (rw [s12]; decide) | omega)]
      rw [if_neg (by first | (rw [s12]; decide) | omega)]
      rw [if_pos (by first | (rw [s12]; decide) | omega)]
      all_goals omega
    refine r_tableOutZ (tgt := 145) hX dX4_told_25 (by first | with_reducible assumption | decide | omega) (by first | with_reducible assumption | decide | omega) (by decide) (r_iload_n hX dX4_told_145 rfl rfl (r_iret hX hE dX4_told_146 (Nat.le_of_ble_eq_true rfl) (Nat.le_of_ble_eq_true rfl) ⟨zi ?_, rfl⟩))
    unfold zDP
    rw [if_neg (by omega)]
    rw [if_neg (by omega)]
    rw [if_neg (by omega)]
    rw [if_neg (by omega)]
    rw [if_neg (by omega)]
    rw [if_neg (by omega)]
    rw [if_neg (by omega)]
    rw [if_neg (by omega)]
    rw [if_neg (by omega)]
    rw [if_neg (by omega)]
    rw [if_neg (by omega)]
    rw [if_neg (by omega)]
    all_goals omega
  · refine r_aload_n hX dX4_told_12 rfl rfl (r_get hX kf_X4_17 14 rfl rfl dX4_told_13 (r_iload_n hX dX4_told_16 rfl rfl (r_ialdZ hX 17 0 rfl rfl j (by first | with_reducible assumption | decide | omega) (by first | with_reducible assumption | decide | omega) (by decide) dX4_told_17 (r_callS hX (z_X4_parts _ _ _ (by first | with_reducible assumption | decide | omega)) ks_X4_170 rfl rfl (Nat.le_of_ble_eq_true rfl) ⟨(Nat.le_of_ble_eq_true rfl), (Nat.le_of_ble_eq_true rfl)⟩ ⟨(Nat.le_of_ble_eq_true rfl), (Nat.le_of_ble_eq_true rfl)⟩ dX4_told_18 (fun _ _ z => False.elim z) (fun v9 ws9 h13 => ?_)))))
    obtain ⟨f14, q15, hf16, rfl, hw9⟩ := h13
    subst ws9
    dsimp only [mPush]
    refine r_eqw mRw_app (r_iload_n hX dX4_told_21 rfl rfl (r_ialdZ hX (21 + (rest).length) 0 zRw_last rfl (w).toNat (by first | with_reducible assumption | decide | omega) (by first | with_reducible assumption | decide | omega) (by decide) dX4_told_22 (r_eqw (mRw_app (rest := rest)).symm (r_drop ?_))))
    refine r_iret hX hE dX4_told_23 (Nat.le_of_ble_eq_true rfl) (Nat.le_of_ble_eq_true rfl) ⟨?_, rfl⟩
    rcases (show w = 0 ∨ w = 1 ∨ w = 2 ∨ w = 3 by omega) with rfl | rfl | rfl | rfl
    · exact congrArg (fun x => some (Value.int x)) hf16.1
    · exact congrArg (fun x => some (Value.int x)) hf16.2.1
    · exact congrArg (fun x => some (Value.int x)) hf16.2.2.1
    · exact congrArg (fun x => some (Value.int x)) hf16.2.2.2
set_option maxHeartbeats 4000000 in
set_option maxRecDepth 20000 in
theorem z_X4_ordered (ad ae : Nat → Nat) (cs : ClassId × ClassId × ClassId) (K : mK) (S : mS) (th : Int32) (rest : va_W) (hS : sWF S) (i : Int) (j : Nat) (hij : i = (j : Int)) (hj : j < 7) (i2 : Int) (j2 : Nat) (hij2 : i2 = (j2 : Int)) (hj2 : j2 < 7)  : mCt (mTy cs) yX4_ordered cX4_ordered 3 (some .int) ⟨2, 0, 0, 43⟩ [.ref (ae 0), .int (iZ i), .int (iZ i2)] (mRw ad ae cs K (mJof S th) rest) (fun v ws' => v = some (.int (iZ (zTo (sse S j) (sna S j) (sow S j) (sse S j2) (sna S j2) (sow S j2)))) ∧ ws' = (mRw ad ae cs K (mJof S th) rest)) mNo := by
  refine mCt.of (by decide +kernel) (Nat.le_of_ble_eq_true rfl) (fun X hX hE => ?_)
  replace hX : mOK X RX4 cX4_ordered 3 ⟨2, 0, 0, 43⟩ [] (mTy cs) := hX
  have hr := zrg hS hj
  have hr2 := zrg hS hj2
  have hse7 := hS.se hj
  have hse72 := hS.se hj2
  refine r_aload_n hX dX4_ordered_0 rfl rfl (r_iload_n hX dX4_ordered_1 rfl rfl (r_callV hX (z_X4_number ad ae cs K S th rest hS _ j (by first | with_reducible assumption | decide | omega) (by first | with_reducible assumption | decide | omega)) kv_X4_115 14 rfl rfl rfl rfl (Nat.le_of_ble_eq_true rfl) ⟨(Nat.le_of_ble_eq_true rfl), (Nat.le_of_ble_eq_true rfl)⟩ ⟨(Nat.le_of_ble_eq_true rfl), (Nat.le_of_ble_eq_true rfl)⟩ dX4_ordered_2 (fun _ _ z => False.elim z) (fun v9 ws9 h1 => ?_)))
  obtain ⟨rfl, hw9⟩ := h1
  subst ws9
  dsimp only [mPush]
  refine r_aload_n hX dX4_ordered_5 rfl rfl (r_iload_n hX dX4_ordered_6 rfl rfl (r_callV hX (z_X4_number ad ae cs K S th rest hS _ j2 (by first | with_reducible assumption | decide | omega) (by first | with_reducible assumption | decide | omega)) kv_X4_115 14 rfl rfl rfl rfl (Nat.le_of_ble_eq_true rfl) ⟨(Nat.le_of_ble_eq_true rfl), (Nat.le_of_ble_eq_true rfl)⟩ ⟨(Nat.le_of_ble_eq_true rfl), (Nat.le_of_ble_eq_true rfl)⟩ dX4_ordered_7 (fun _ _ z => False.elim z) (fun v9 ws9 h2 => ?_)))
  obtain ⟨rfl, hw9⟩ := h2
  subst ws9
  dsimp only [mPush]
  refine r_lif_eqZ (tgt := 28) hX dX4_ordered_10 dX4_ordered_11 (by decide) (by first | with_reducible assumption | decide | omega) (by first | with_reducible assumption | decide | omega) (fun c3 => ?_) (fun c3 => ?_)
  · refine r_aload_n hX dX4_ordered_28 rfl rfl (r_get hX kf_X4_17 14 rfl rfl dX4_ordered_29 (r_iload_n hX dX4_ordered_32 rfl rfl (r_ialdZ hX 17 0 rfl rfl j (by first | with_reducible assumption | decide | omega) (by first | with_reducible assumption | decide | omega) (by decide) dX4_ordered_33 (r_aload_n hX dX4_ordered_34 rfl rfl (r_get hX kf_X4_17 14 rfl rfl dX4_ordered_35 (r_iload_n hX dX4_ordered_38 rfl rfl (r_ialdZ hX 17 0 rfl rfl j2 (by first | with_reducible assumption | decide | omega) (by first | with_reducible assumption | decide | omega) (by decide) dX4_ordered_39 ?_)))))))
    refine r_icmp_eqZ (tgt := 63) hX dX4_ordered_40 (by decide) (by first | with_reducible assumption | decide | omega) (by first | with_reducible assumption | decide | omega) (fun c4 => ?_) (fun c4 => ?_)
    · refine r_aload_n hX dX4_ordered_63 rfl rfl (r_get hX kf_X4_20 14 rfl rfl dX4_ordered_64 (r_iload_n hX dX4_ordered_67 rfl rfl (r_ialdZ hX 18 0 rfl rfl j (by first | with_reducible assumption | decide | omega) (by first | with_reducible assumption | decide | omega) (by decide) dX4_ordered_68 (r_i2lZ hX dX4_ordered_69 (by first | with_reducible assumption | decide | omega) (r_aload_n hX dX4_ordered_70 rfl rfl (r_get hX kf_X4_20 14 rfl rfl dX4_ordered_71 (r_iload_n hX dX4_ordered_74 rfl rfl ?_)))))))
      refine r_ialdZ hX 18 0 rfl rfl j2 (by first | with_reducible assumption | decide | omega) (by first | with_reducible assumption | decide | omega) (by decide) dX4_ordered_75 (r_i2lZ hX dX4_ordered_76 (by first | with_reducible assumption | decide | omega) (r_callS hX (z_X4_order _ _ _ _ (by first | with_reducible assumption | decide | omega) (by first | with_reducible assumption | decide | omega)) ks_X4_88 rfl rfl (Nat.le_of_ble_eq_true rfl) ⟨(Nat.le_of_ble_eq_true rfl), (Nat.le_of_ble_eq_true rfl)⟩ ⟨(Nat.le_of_ble_eq_true rfl), (Nat.le_of_ble_eq_true rfl)⟩ dX4_ordered_77 (fun _ _ z => False.elim z) (fun v9 ws9 h5 => ?_)))
      obtain ⟨rfl, hw9⟩ := h5
      subst ws9
      dsimp only [mPush]
      have hcm5 := cmpZ_b (sse S j % 86400) (sse S j2 % 86400)
      refine r_iret hX hE dX4_ordered_80 (Nat.le_of_ble_eq_true rfl) (Nat.le_of_ble_eq_true rfl) ⟨zi ?_, rfl⟩
      have s1 := cmpZ_s ((sse S j - sow S j) * 1000000000 + sna S j) ((sse S j2 - sow S j2) * 1000000000 + sna S j2)
      have s2 := cmpZ_s (sse S j) (sse S j2)
      have s3 := cmpZ_s (sse S j / 86400) (sse S j2 / 86400)
      have s4 := cmpZ_s (sse S j % 86400) (sse S j2 % 86400)
      have s5 := zMo_s (sse S j) (sna S j) (sow S j) (sse S j2) (sna S j2) (sow S j2)
      have s6 := zTo_s (sse S j) (sna S j) (sow S j) (sse S j2) (sna S j2) (sow S j2)
      omega
    · refine r_aload_n hX dX4_ordered_43 rfl rfl (r_get hX kf_X4_17 14 rfl rfl dX4_ordered_44 (r_iload_n hX dX4_ordered_47 rfl rfl (r_ialdZ hX 17 0 rfl rfl j (by first | with_reducible assumption | decide | omega) (by first | with_reducible assumption | decide | omega) (by decide) dX4_ordered_48 (r_i2lZ hX dX4_ordered_49 (by first | with_reducible assumption | decide | omega) (r_aload_n hX dX4_ordered_50 rfl rfl (r_get hX kf_X4_17 14 rfl rfl dX4_ordered_51 (r_iload_n hX dX4_ordered_54 rfl rfl ?_)))))))
      refine r_ialdZ hX 17 0 rfl rfl j2 (by first | with_reducible assumption | decide | omega) (by first | with_reducible assumption | decide | omega) (by decide) dX4_ordered_55 (r_i2lZ hX dX4_ordered_56 (by first | with_reducible assumption | decide | omega) (r_callS hX (z_X4_order _ _ _ _ (by first | with_reducible assumption | decide | omega) (by first | with_reducible assumption | decide | omega)) ks_X4_88 rfl rfl (Nat.le_of_ble_eq_true rfl) ⟨(Nat.le_of_ble_eq_true rfl), (Nat.le_of_ble_eq_true rfl)⟩ ⟨(Nat.le_of_ble_eq_true rfl), (Nat.le_of_ble_eq_true rfl)⟩ dX4_ordered_57 (fun _ _ z => False.elim z) (fun v9 ws9 h6 => ?_)))
      obtain ⟨rfl, hw9⟩ := h6
      subst ws9
      dsimp only [mPush]
      have hcm6 := cmpZ_b (sse S j / 86400) (sse S j2 / 86400)
      refine r_goto (tgt := 80) hX dX4_ordered_60 (by decide) (r_iret hX hE dX4_ordered_80 (Nat.le_of_ble_eq_true rfl) (Nat.le_of_ble_eq_true rfl) ⟨zi ?_, rfl⟩)
      have s1 := cmpZ_s ((sse S j - sow S j) * 1000000000 + sna S j) ((sse S j2 - sow S j2) * 1000000000 + sna S j2)
      have s2 := cmpZ_s (sse S j) (sse S j2)
      have s3 := cmpZ_s (sse S j / 86400) (sse S j2 / 86400)
      have s4 := cmpZ_s (sse S j % 86400) (sse S j2 % 86400)
      have s5 := zMo_s (sse S j) (sna S j) (sow S j) (sse S j2) (sna S j2) (sow S j2)
      have s6 := zTo_s (sse S j) (sna S j) (sow S j) (sse S j2) (sna S j2) (sow S j2)
      omega
  · refine r_aload_n hX dX4_ordered_14 rfl rfl (r_iload_n hX dX4_ordered_15 rfl rfl (r_callV hX (z_X4_number ad ae cs K S th rest hS _ j (by first | with_reducible assumption | decide | omega) (by first | with_reducible assumption | decide | omega)) kv_X4_115 14 rfl rfl rfl rfl (Nat.le_of_ble_eq_true rfl) ⟨(Nat.le_of_ble_eq_true rfl), (Nat.le_of_ble_eq_true rfl)⟩ ⟨(Nat.le_of_ble_eq_true rfl), (Nat.le_of_ble_eq_true rfl)⟩ dX4_ordered_16 (fun _ _ z => False.elim z) (fun v9 ws9 h7 => ?_)))
    obtain ⟨rfl, hw9⟩ := h7
    subst ws9
    dsimp only [mPush]
    refine r_aload_n hX dX4_ordered_19 rfl rfl (r_iload_n hX dX4_ordered_20 rfl rfl (r_callV hX (z_X4_number ad ae cs K S th rest hS _ j2 (by first | with_reducible assumption | decide | omega) (by first | with_reducible assumption | decide | omega)) kv_X4_115 14 rfl rfl rfl rfl (Nat.le_of_ble_eq_true rfl) ⟨(Nat.le_of_ble_eq_true rfl), (Nat.le_of_ble_eq_true rfl)⟩ ⟨(Nat.le_of_ble_eq_true rfl), (Nat.le_of_ble_eq_true rfl)⟩ dX4_ordered_21 (fun _ _ z => False.elim z) (fun v9 ws9 h8 => ?_)))
    obtain ⟨rfl, hw9⟩ := h8
    subst ws9
    dsimp only [mPush]
    refine r_callS hX (z_X4_order _ _ _ _ (by first | with_reducible assumption | decide | omega) (by first | with_reducible assumption | decide | omega)) ks_X4_88 rfl rfl (Nat.le_of_ble_eq_true rfl) ⟨(Nat.le_of_ble_eq_true rfl), (Nat.le_of_ble_eq_true rfl)⟩ ⟨(Nat.le_of_ble_eq_true rfl), (Nat.le_of_ble_eq_true rfl)⟩ dX4_ordered_24 (fun _ _ z => False.elim z) (fun v9 ws9 h9 => ?_)
    obtain ⟨rfl, hw9⟩ := h9
    subst ws9
    dsimp only [mPush]
    have hcm9 := cmpZ_b ((sse S j - sow S j) * 1000000000 + sna S j) ((sse S j2 - sow S j2) * 1000000000 + sna S j2)
    refine r_iret hX hE dX4_ordered_27 (Nat.le_of_ble_eq_true rfl) (Nat.le_of_ble_eq_true rfl) ⟨zi ?_, rfl⟩
    have s1 := cmpZ_s ((sse S j - sow S j) * 1000000000 + sna S j) ((sse S j2 - sow S j2) * 1000000000 + sna S j2)
    have s2 := cmpZ_s (sse S j) (sse S j2)
    have s3 := cmpZ_s (sse S j / 86400) (sse S j2 / 86400)
    have s4 := cmpZ_s (sse S j % 86400) (sse S j2 % 86400)
    have s5 := zMo_s (sse S j) (sna S j) (sow S j) (sse S j2) (sna S j2) (sow S j2)
    have s6 := zTo_s (sse S j) (sna S j) (sow S j) (sse S j2) (sna S j2) (sow S j2)
    omega
set_option maxHeartbeats 4000000 in
set_option maxRecDepth 20000 in
theorem z_X4_is (ad ae : Nat → Nat) (cs : ClassId × ClassId × ClassId) (K : mK) (S : mS) (th : Int32) (rest : va_W) (hS : sWF S) (i : Int) (j : Nat) (hij : i = (j : Int)) (hj : j < 7) (i2 : Int) (j2 : Nat) (hij2 : i2 = (j2 : Int)) (hj2 : j2 < 7) (w : Int) (hw : 0 ≤ w ∧ w ≤ 3)  : mCt (mTy cs) yX4_is cX4_is 4 (some .boolean) ⟨2, 0, 0, 43⟩ [.ref (ae 0), .int (iZ i), .int (iZ i2), .int (iZ w)] (mRw ad ae cs K (mJof S th) rest) (fun v ws' => v = some (.int (b2i (zSo (sse S j) (sna S j) (sow S j) (sse S j2) (sna S j2) (sow S j2) w))) ∧ ws' = (mRw ad ae cs K (mJof S th) rest)) mNo := by
  refine mCt.of (by decide +kernel) (Nat.le_of_ble_eq_true rfl) (fun X hX hE => ?_)
  replace hX : mOK X RX4 cX4_is 4 ⟨2, 0, 0, 43⟩ [] (mTy cs) := hX
  have hr := zrg hS hj
  have hr2 := zrg hS hj2
  have hse7 := hS.se hj
  have hse72 := hS.se hj2
  refine r_iload_n hX dX4_is_0 rfl rfl (r_iconstZ hX dX4_is_1 (r_icmp_neZ (tgt := 71) hX dX4_is_2 (by decide) (by first | with_reducible assumption | decide | omega) (by decide) (fun c1 => ?_) (fun c1 => ?_)))
  · refine r_aload_n hX dX4_is_71 rfl rfl (r_iload_n hX dX4_is_72 rfl rfl (r_callV hX (z_X4_number ad ae cs K S th rest hS _ j (by first | with_reducible assumption | decide | omega) (by first | with_reducible assumption | decide | omega)) kv_X4_115 14 rfl rfl rfl rfl (Nat.le_of_ble_eq_true rfl) ⟨(Nat.le_of_ble_eq_true rfl), (Nat.le_of_ble_eq_true rfl)⟩ ⟨(Nat.le_of_ble_eq_true rfl), (Nat.le_of_ble_eq_true rfl)⟩ dX4_is_73 (fun _ _ z => False.elim z) (fun v9 ws9 h2 => ?_)))
    obtain ⟨rfl, hw9⟩ := h2
    subst ws9
    dsimp only [mPush]
    refine r_aload_n hX dX4_is_76 rfl rfl (r_iload_n hX dX4_is_77 rfl rfl (r_callV hX (z_X4_number ad ae cs K S th rest hS _ j2 (by first | with_reducible assumption | decide | omega) (by first | with_reducible assumption | decide | omega)) kv_X4_115 14 rfl rfl rfl rfl (Nat.le_of_ble_eq_true rfl) ⟨(Nat.le_of_ble_eq_true rfl), (Nat.le_of_ble_eq_true rfl)⟩ ⟨(Nat.le_of_ble_eq_true rfl), (Nat.le_of_ble_eq_true rfl)⟩ dX4_is_78 (fun _ _ z => False.elim z) (fun v9 ws9 h3 => ?_)))
    obtain ⟨rfl, hw9⟩ := h3
    subst ws9
    dsimp only [mPush]
    refine r_callS hX (z_X4_order _ _ _ _ (by first | with_reducible assumption | decide | omega) (by first | with_reducible assumption | decide | omega)) ks_X4_88 rfl rfl (Nat.le_of_ble_eq_true rfl) ⟨(Nat.le_of_ble_eq_true rfl), (Nat.le_of_ble_eq_true rfl)⟩ ⟨(Nat.le_of_ble_eq_true rfl), (Nat.le_of_ble_eq_true rfl)⟩ dX4_is_81 (fun _ _ z => False.elim z) (fun v9 ws9 h4 => ?_)
    obtain ⟨rfl, hw9⟩ := h4
    subst ws9
    dsimp only [mPush]
    have hcm4 := cmpZ_b ((sse S j - sow S j) * 1000000000 + sna S j) ((sse S j2 - sow S j2) * 1000000000 + sna S j2)
    refine r_iload_n hX dX4_is_84 rfl rfl (r_if_neZ (tgt := 92) hX dX4_is_85 (by decide) (by first | with_reducible assumption | decide | omega) (fun c5 => ?_) (fun c5 => ?_))
    · refine r_iload_n hX dX4_is_92 rfl rfl (r_iconstZ hX dX4_is_93 (r_icmp_neZ (tgt := 101) hX dX4_is_94 (by decide) (by first | with_reducible assumption | decide | omega) (by decide) (fun c6 => ?_) (fun c6 => ?_)))
      · refine r_iconstZ hX dX4_is_101 (r_icmp_neZ (tgt := 109) hX dX4_is_102 (by decide) (by first | with_reducible assumption | decide | omega) (by decide) (fun c7 => ?_) (fun c7 => ?_))
        · refine r_iconstZ hX dX4_is_109 (r_zret hX hE dX4_is_110 (by decide) (Nat.le_of_ble_eq_true rfl) (Nat.le_of_ble_eq_true rfl) ⟨zb0 ?_, rfl⟩)
          have s1 := cmpZ_s ((sse S j - sow S j) * 1000000000 + sna S j) ((sse S j2 - sow S j2) * 1000000000 + sna S j2)
          have s2 := cmpZ_s (sse S j) (sse S j2)
          have s3 := cmpZ_s (sse S j / 86400) (sse S j2 / 86400)
          have s4 := cmpZ_s (sse S j % 86400) (sse S j2 % 86400)
          have s5 := zMo_s (sse S j) (sna S j) (sow S j) (sse S j2) (sna S j2) (sow S j2)
          have s6 := zTo_s (sse S j) (sna S j) (sow S j) (sse S j2) (sna S j2) (sow S j2)
          have s7 := zMo_s (sse S j2) (sna S j2) (sow S j2) (sse S j) (sna S j) (sow S j)
          unfold zSo
          first | rw [if_pos (by omega)] | rw [if_neg (by omega), if_pos (by omega)] | rw [if_neg (by omega), if_neg (by omega), if_pos (by omega)] | rw [if_neg (by omega), if_neg (by omega), if_neg (by omega)]
          exact decide_eq_false (by omega)
        · refine r_iconstZ hX dX4_is_105 (r_goto (tgt := 110) hX dX4_is_106 (by decide) (r_zret hX hE dX4_is_110 (by decide) (Nat.le_of_ble_eq_true rfl) (Nat.le_of_ble_eq_true rfl) ⟨zb1 ?_, rfl⟩))
          have s1 := cmpZ_s ((sse S j - sow S j) * 1000000000 + sna S j) ((sse S j2 - sow S j2) * 1000000000 + sna S j2)
          have s2 := cmpZ_s (sse S j) (sse S j2)
          have s3 := cmpZ_s (sse S j / 86400) (sse S j2 / 86400)
          have s4 := cmpZ_s (sse S j % 86400) (sse S j2 % 86400)
          have s5 := zMo_s (sse S j) (sna S j) (sow S j) (sse S j2) (sna S j2) (sow S j2)
          have s6 := zTo_s (sse S j) (sna S j) (sow S j) (sse S j2) (sna S j2) (sow S j2)
          have s7 := zMo_s (sse S j2) (sna S j2) (sow S j2) (sse S j) (sna S j) (sow S j)
          unfold zSo
          first | rw [if_pos (by omega)] | rw [if_neg (by omega), if_pos (by omega)] | rw [if_neg (by omega), if_neg (by omega), if_pos (by omega)] | rw [if_neg (by omega), if_neg (by omega), if_neg (by omega)]
          exact decide_eq_true (by omega)
      · refine r_iconstZ hX dX4_is_97 (r_goto (tgt := 102) hX dX4_is_98 (by decide) (r_icmp_neZ (tgt := 109) hX dX4_is_102 (by decide) (by first | with_reducible assumption | decide | omega) (by decide) (fun c8 => ?_) (fun c8 => ?_)))
        · refine r_iconstZ hX dX4_is_109 (r_zret hX hE dX4_is_110 (by decide) (Nat.le_of_ble_eq_true rfl) (Nat.le_of_ble_eq_true rfl) ⟨zb0 ?_, rfl⟩)
          have s1 := cmpZ_s ((sse S j - sow S j) * 1000000000 + sna S j) ((sse S j2 - sow S j2) * 1000000000 + sna S j2)
          have s2 := cmpZ_s (sse S j) (sse S j2)
          have s3 := cmpZ_s (sse S j / 86400) (sse S j2 / 86400)
          have s4 := cmpZ_s (sse S j % 86400) (sse S j2 % 86400)
          have s5 := zMo_s (sse S j) (sna S j) (sow S j) (sse S j2) (sna S j2) (sow S j2)
          have s6 := zTo_s (sse S j) (sna S j) (sow S j) (sse S j2) (sna S j2) (sow S j2)
          have s7 := zMo_s (sse S j2) (sna S j2) (sow S j2) (sse S j) (sna S j) (sow S j)
          unfold zSo
          first | rw [if_pos (by omega)] | rw [if_neg (by omega), if_pos (by omega)] | rw [if_neg (by omega), if_neg (by omega), if_pos (by omega)] | rw [if_neg (by omega), if_neg (by omega), if_neg (by omega)]
          exact decide_eq_false (by omega)
        · refine r_iconstZ hX dX4_is_105 (r_goto (tgt := 110) hX dX4_is_106 (by decide) (r_zret hX hE dX4_is_110 (by decide) (Nat.le_of_ble_eq_true rfl) (Nat.le_of_ble_eq_true rfl) ⟨zb1 ?_, rfl⟩))
          have s1 := cmpZ_s ((sse S j - sow S j) * 1000000000 + sna S j) ((sse S j2 - sow S j2) * 1000000000 + sna S j2)
          have s2 := cmpZ_s (sse S j) (sse S j2)
          have s3 := cmpZ_s (sse S j / 86400) (sse S j2 / 86400)
          have s4 := cmpZ_s (sse S j % 86400) (sse S j2 % 86400)
          have s5 := zMo_s (sse S j) (sna S j) (sow S j) (sse S j2) (sna S j2) (sow S j2)
          have s6 := zTo_s (sse S j) (sna S j) (sow S j) (sse S j2) (sna S j2) (sow S j2)
          have s7 := zMo_s (sse S j2) (sna S j2) (sow S j2) (sse S j) (sna S j) (sow S j)
          unfold zSo
          first | rw [if_pos (by omega)] | rw [if_neg (by omega), if_pos (by omega)] | rw [if_neg (by omega), if_neg (by omega), if_pos (by omega)] | rw [if_neg (by omega), if_neg (by omega), if_neg (by omega)]
          exact decide_eq_true (by omega)
    · refine r_iconstZ hX dX4_is_88 (r_goto (tgt := 102) hX dX4_is_89 (by decide) (r_icmp_neZ (tgt := 109) hX dX4_is_102 (by decide) (by first | with_reducible assumption | decide | omega) (by decide) (fun c9 => ?_) (fun c9 => ?_)))
      · refine r_iconstZ hX dX4_is_109 (r_zret hX hE dX4_is_110 (by decide) (Nat.le_of_ble_eq_true rfl) (Nat.le_of_ble_eq_true rfl) ⟨zb0 ?_, rfl⟩)
        have s1 := cmpZ_s ((sse S j - sow S j) * 1000000000 + sna S j) ((sse S j2 - sow S j2) * 1000000000 + sna S j2)
        have s2 := cmpZ_s (sse S j) (sse S j2)
        have s3 := cmpZ_s (sse S j / 86400) (sse S j2 / 86400)
        have s4 := cmpZ_s (sse S j % 86400) (sse S j2 % 86400)
        have s5 := zMo_s (sse S j) (sna S j) (sow S j) (sse S j2) (sna S j2) (sow S j2)
        have s6 := zTo_s (sse S j) (sna S j) (sow S j) (sse S j2) (sna S j2) (sow S j2)
        have s7 := zMo_s (sse S j2) (sna S j2) (sow S j2) (sse S j) (sna S j) (sow S j)
        unfold zSo
        first | rw [if_pos (by omega)] | rw [if_neg (by omega), if_pos (by omega)] | rw [if_neg (by omega), if_neg (by omega), if_pos (by omega)] | rw [if_neg (by omega), if_neg (by omega), if_neg (by omega)]
        exact decide_eq_false (by omega)
      · refine r_iconstZ hX dX4_is_105 (r_goto (tgt := 110) hX dX4_is_106 (by decide) (r_zret hX hE dX4_is_110 (by decide) (Nat.le_of_ble_eq_true rfl) (Nat.le_of_ble_eq_true rfl) ⟨zb1 ?_, rfl⟩))
        have s1 := cmpZ_s ((sse S j - sow S j) * 1000000000 + sna S j) ((sse S j2 - sow S j2) * 1000000000 + sna S j2)
        have s2 := cmpZ_s (sse S j) (sse S j2)
        have s3 := cmpZ_s (sse S j / 86400) (sse S j2 / 86400)
        have s4 := cmpZ_s (sse S j % 86400) (sse S j2 % 86400)
        have s5 := zMo_s (sse S j) (sna S j) (sow S j) (sse S j2) (sna S j2) (sow S j2)
        have s6 := zTo_s (sse S j) (sna S j) (sow S j) (sse S j2) (sna S j2) (sow S j2)
        have s7 := zMo_s (sse S j2) (sna S j2) (sow S j2) (sse S j) (sna S j) (sow S j)
        unfold zSo
        first | rw [if_pos (by omega)] | rw [if_neg (by omega), if_pos (by omega)] | rw [if_neg (by omega), if_neg (by omega), if_pos (by omega)] | rw [if_neg (by omega), if_neg (by omega), if_neg (by omega)]
        exact decide_eq_true (by omega)
  · refine r_aload_n hX dX4_is_5 rfl rfl (r_get hX kf_X4_17 14 rfl rfl dX4_is_6 (r_iload_n hX dX4_is_9 rfl rfl (r_ialdZ hX 17 0 rfl rfl j (by first | with_reducible assumption | decide | omega) (by first | with_reducible assumption | decide | omega) (by decide) dX4_is_10 (r_aload_n hX dX4_is_11 rfl rfl (r_get hX kf_X4_17 14 rfl rfl dX4_is_12 (r_iload_n hX dX4_is_15 rfl rfl (r_ialdZ hX 17 0 rfl rfl j2 (by first | with_reducible assumption | decide | omega) (by first | with_reducible assumption | decide | omega) (by decide) dX4_is_16 ?_)))))))
    refine r_icmp_neZ (tgt := 69) hX dX4_is_17 (by decide) (by first | with_reducible assumption | decide | omega) (by first | with_reducible assumption | decide | omega) (fun c10 => ?_) (fun c10 => ?_)
    · refine r_iconstZ hX dX4_is_69 (r_zret hX hE dX4_is_70 (by decide) (Nat.le_of_ble_eq_true rfl) (Nat.le_of_ble_eq_true rfl) ⟨zb0 ?_, rfl⟩)
      have s1 := cmpZ_s ((sse S j - sow S j) * 1000000000 + sna S j) ((sse S j2 - sow S j2) * 1000000000 + sna S j2)
      have s2 := cmpZ_s (sse S j) (sse S j2)
      have s3 := cmpZ_s (sse S j / 86400) (sse S j2 / 86400)
      have s4 := cmpZ_s (sse S j % 86400) (sse S j2 % 86400)
      have s5 := zMo_s (sse S j) (sna S j) (sow S j) (sse S j2) (sna S j2) (sow S j2)
      have s6 := zTo_s (sse S j) (sna S j) (sow S j) (sse S j2) (sna S j2) (sow S j2)
      have s7 := zMo_s (sse S j2) (sna S j2) (sow S j2) (sse S j) (sna S j) (sow S j)
      unfold zSo
      first | rw [if_pos (by omega)] | rw [if_neg (by omega), if_pos (by omega)] | rw [if_neg (by omega), if_neg (by omega), if_pos (by omega)] | rw [if_neg (by omega), if_neg (by omega), if_neg (by omega)]
      exact decide_eq_false (by omega)
    · refine r_aload_n hX dX4_is_20 rfl rfl (r_get hX kf_X4_20 14 rfl rfl dX4_is_21 (r_iload_n hX dX4_is_24 rfl rfl (r_ialdZ hX 18 0 rfl rfl j (by first | with_reducible assumption | decide | omega) (by first | with_reducible assumption | decide | omega) (by decide) dX4_is_25 (r_aload_n hX dX4_is_26 rfl rfl (r_get hX kf_X4_20 14 rfl rfl dX4_is_27 (r_iload_n hX dX4_is_30 rfl rfl (r_ialdZ hX 18 0 rfl rfl j2 (by first | with_reducible assumption | decide | omega) (by first | with_reducible assumption | decide | omega) (by decide) dX4_is_31 ?_)))))))
      refine r_icmp_neZ (tgt := 69) hX dX4_is_32 (by decide) (by first | with_reducible assumption | decide | omega) (by first | with_reducible assumption | decide | omega) (fun c11 => ?_) (fun c11 => ?_)
      · refine r_iconstZ hX dX4_is_69 (r_zret hX hE dX4_is_70 (by decide) (Nat.le_of_ble_eq_true rfl) (Nat.le_of_ble_eq_true rfl) ⟨zb0 ?_, rfl⟩)
        have s1 := cmpZ_s ((sse S j - sow S j) * 1000000000 + sna S j) ((sse S j2 - sow S j2) * 1000000000 + sna S j2)
        have s2 := cmpZ_s (sse S j) (sse S j2)
        have s3 := cmpZ_s (sse S j / 86400) (sse S j2 / 86400)
        have s4 := cmpZ_s (sse S j % 86400) (sse S j2 % 86400)
        have s5 := zMo_s (sse S j) (sna S j) (sow S j) (sse S j2) (sna S j2) (sow S j2)
        have s6 := zTo_s (sse S j) (sna S j) (sow S j) (sse S j2) (sna S j2) (sow S j2)
        have s7 := zMo_s (sse S j2) (sna S j2) (sow S j2) (sse S j) (sna S j) (sow S j)
        unfold zSo
        first | rw [if_pos (by omega)] | rw [if_neg (by omega), if_pos (by omega)] | rw [if_neg (by omega), if_neg (by omega), if_pos (by omega)] | rw [if_neg (by omega), if_neg (by omega), if_neg (by omega)]
        exact decide_eq_false (by omega)
      · refine r_aload_n hX dX4_is_35 rfl rfl (r_get hX kf_X4_23 14 rfl rfl dX4_is_36 (r_iload_n hX dX4_is_39 rfl rfl (r_ialdZ hX 19 0 rfl rfl j (by first | with_reducible assumption | decide | omega) (by first | with_reducible assumption | decide | omega) (by decide) dX4_is_40 (r_aload_n hX dX4_is_41 rfl rfl (r_get hX kf_X4_23 14 rfl rfl dX4_is_42 (r_iload_n hX dX4_is_45 rfl rfl (r_ialdZ hX 19 0 rfl rfl j2 (by first | with_reducible assumption | decide | omega) (by first | with_reducible assumption | decide | omega) (by decide) dX4_is_46 ?_)))))))
        refine r_icmp_neZ (tgt := 69) hX dX4_is_47 (by decide) (by first | with_reducible assumption | decide | omega) (by first | with_reducible assumption | decide | omega) (fun c12 => ?_) (fun c12 => ?_)
        · refine r_iconstZ hX dX4_is_69 (r_zret hX hE dX4_is_70 (by decide) (Nat.le_of_ble_eq_true rfl) (Nat.le_of_ble_eq_true rfl) ⟨zb0 ?_, rfl⟩)
          have s1 := cmpZ_s ((sse S j - sow S j) * 1000000000 + sna S j) ((sse S j2 - sow S j2) * 1000000000 + sna S j2)
          have s2 := cmpZ_s (sse S j) (sse S j2)
          have s3 := cmpZ_s (sse S j / 86400) (sse S j2 / 86400)
          have s4 := cmpZ_s (sse S j % 86400) (sse S j2 % 86400)
          have s5 := zMo_s (sse S j) (sna S j) (sow S j) (sse S j2) (sna S j2) (sow S j2)
          have s6 := zTo_s (sse S j) (sna S j) (sow S j) (sse S j2) (sna S j2) (sow S j2)
          have s7 := zMo_s (sse S j2) (sna S j2) (sow S j2) (sse S j) (sna S j) (sow S j)
          unfold zSo
          first | rw [if_pos (by omega)] | rw [if_neg (by omega), if_pos (by omega)] | rw [if_neg (by omega), if_neg (by omega), if_pos (by omega)] | rw [if_neg (by omega), if_neg (by omega), if_neg (by omega)]
          exact decide_eq_false (by omega)
        · refine r_aload_n hX dX4_is_50 rfl rfl (r_get hX kf_X4_26 14 rfl rfl dX4_is_51 (r_iload_n hX dX4_is_54 rfl rfl (r_ialdZ hX 20 0 rfl rfl j (by first | with_reducible assumption | decide | omega) (by first | with_reducible assumption | decide | omega) (by decide) dX4_is_55 (r_aload_n hX dX4_is_56 rfl rfl (r_get hX kf_X4_26 14 rfl rfl dX4_is_57 (r_iload_n hX dX4_is_60 rfl rfl (r_ialdZ hX 20 0 rfl rfl j2 (by first | with_reducible assumption | decide | omega) (by first | with_reducible assumption | decide | omega) (by decide) dX4_is_61 ?_)))))))
          refine r_icmp_neZ (tgt := 69) hX dX4_is_62 (by decide) (by first | with_reducible assumption | decide | omega) (by first | with_reducible assumption | decide | omega) (fun c13 => ?_) (fun c13 => ?_)
          · refine r_iconstZ hX dX4_is_69 (r_zret hX hE dX4_is_70 (by decide) (Nat.le_of_ble_eq_true rfl) (Nat.le_of_ble_eq_true rfl) ⟨zb0 ?_, rfl⟩)
            have s1 := cmpZ_s ((sse S j - sow S j) * 1000000000 + sna S j) ((sse S j2 - sow S j2) * 1000000000 + sna S j2)
            have s2 := cmpZ_s (sse S j) (sse S j2)
            have s3 := cmpZ_s (sse S j / 86400) (sse S j2 / 86400)
            have s4 := cmpZ_s (sse S j % 86400) (sse S j2 % 86400)
            have s5 := zMo_s (sse S j) (sna S j) (sow S j) (sse S j2) (sna S j2) (sow S j2)
            have s6 := zTo_s (sse S j) (sna S j) (sow S j) (sse S j2) (sna S j2) (sow S j2)
            have s7 := zMo_s (sse S j2) (sna S j2) (sow S j2) (sse S j) (sna S j) (sow S j)
            unfold zSo
            first | rw [if_pos (by omega)] | rw [if_neg (by omega), if_pos (by omega)] | rw [if_neg (by omega), if_neg (by omega), if_pos (by omega)] | rw [if_neg (by omega), if_neg (by omega), if_neg (by omega)]
            exact decide_eq_false (by omega)
          · refine r_iconstZ hX dX4_is_65 (r_goto (tgt := 70) hX dX4_is_66 (by decide) (r_zret hX hE dX4_is_70 (by decide) (Nat.le_of_ble_eq_true rfl) (Nat.le_of_ble_eq_true rfl) ⟨zb1 ?_, rfl⟩))
            have s1 := cmpZ_s ((sse S j - sow S j) * 1000000000 + sna S j) ((sse S j2 - sow S j2) * 1000000000 + sna S j2)
            have s2 := cmpZ_s (sse S j) (sse S j2)
            have s3 := cmpZ_s (sse S j / 86400) (sse S j2 / 86400)
            have s4 := cmpZ_s (sse S j % 86400) (sse S j2 % 86400)
            have s5 := zMo_s (sse S j) (sna S j) (sow S j) (sse S j2) (sna S j2) (sow S j2)
            have s6 := zTo_s (sse S j) (sna S j) (sow S j) (sse S j2) (sna S j2) (sow S j2)
            have s7 := zMo_s (sse S j2) (sna S j2) (sow S j2) (sse S j) (sna S j) (sow S j)
            unfold zSo
            first | rw [if_pos (by omega)] | rw [if_neg (by omega), if_pos (by omega)] | rw [if_neg (by omega), if_neg (by omega), if_pos (by omega)] | rw [if_neg (by omega), if_neg (by omega), if_neg (by omega)]
            exact decide_eq_true (by omega)
set_option maxHeartbeats 4000000 in
set_option maxRecDepth 20000 in
theorem z_X4_ofSecond (ad ae : Nat → Nat) (cs : ClassId × ClassId × ClassId) (K : mK) (S : mS) (th : Int32) (rest : va_W) (i : Int) (c : Nat) (hic : i = (c : Int)) (hc : c < 3)  : mCt (mTy cs) yX4_ofSecond cX4_ofSecond 2 (some .int) ⟨0, 0, 0, 0⟩ [.ref (ae 0), .int (iZ i)] (mRw ad ae cs K (mJof S th) rest) (fun v ws' => v = some (.int (iZ (sse S (c + 4) % 86400 - sow S (c + 4)))) ∧ ws' = (mRw ad ae cs K (mJof S th) rest)) mNo := by
  refine mCt.of (by decide +kernel) (Nat.le_of_ble_eq_true rfl) (fun X hX hE => ?_)
  replace hX : mOK X RX4 cX4_ofSecond 2 ⟨0, 0, 0, 0⟩ [] (mTy cs) := hX
  refine r_aload_n hX dX4_ofSecond_0 rfl rfl (r_get hX kf_X4_20 14 rfl rfl dX4_ofSecond_1 (r_iconstZ hX dX4_ofSecond_4 (r_iload_n hX dX4_ofSecond_5 rfl rfl (r_iaddZ hX dX4_ofSecond_6 (r_ialdZ hX 18 0 rfl rfl (c + 4) (by first | with_reducible assumption | decide | omega) (by first | with_reducible assumption | decide | omega) (by decide) dX4_ofSecond_7 (r_aload_n hX dX4_ofSecond_8 rfl rfl (r_get hX kf_X4_26 14 rfl rfl dX4_ofSecond_9 ?_)))))))
  refine r_iconstZ hX dX4_ofSecond_12 (r_iload_n hX dX4_ofSecond_13 rfl rfl (r_iaddZ hX dX4_ofSecond_14 (r_ialdZ hX 20 0 rfl rfl (c + 4) (by first | with_reducible assumption | decide | omega) (by first | with_reducible assumption | decide | omega) (by decide) dX4_ofSecond_15 (r_isubZ hX dX4_ofSecond_16 (r_iret hX hE dX4_ofSecond_17 (Nat.le_of_ble_eq_true rfl) (Nat.le_of_ble_eq_true rfl) ⟨zi ?_, rfl⟩)))))
  rfl
set_option maxHeartbeats 4000000 in
set_option maxRecDepth 20000 in
theorem z_X4_turn (ad ae : Nat → Nat) (cs : ClassId × ClassId × ClassId) (K : mK) (S : mS) (th : Int32) (rest : va_W) (hS : sWF S) (i : Int) (c : Nat) (hic : i = (c : Int)) (hc : c < 3) (z n o : Int) (hz : -4000000000000000000 ≤ z ∧ z ≤ 4000000000000000000)  : mCt (mTy cs) yX4_turn cX4_turn 6 (some .int) ⟨2, 0, 0, 46⟩ [.ref (ae 0), .int (iZ i), .long (lZ z), .int (iZ n), .int (iZ o)] (mRw ad ae cs K (mJof S th) rest) (fun v ws' => v = some (.int (iZ (oClk S c z n o).1)) ∧ ws' = mRw ad ae cs K (mJof (oClk S c z n o).2 th) rest) mNo := by
  refine mCt.of (by decide +kernel) (Nat.le_of_ble_eq_true rfl) (fun X hX hE => ?_)
  replace hX : mOK X RX4 cX4_turn 6 ⟨2, 0, 0, 46⟩ [] (mTy cs) := hX
  refine r_aload_n hX dX4_turn_0 rfl rfl (r_iconstZ hX dX4_turn_1 (r_iload_n hX dX4_turn_2 rfl rfl (r_iaddZ hX dX4_turn_3 (r_iconstZ hX dX4_turn_4 (r_lload_n hX dX4_turn_5 rfl rfl (r_ldc2Z (z := 86400) hX kc_X4_113 (by decide +kernel) dX4_turn_6 (r_callS hX (c_X4_rest_x _ _ _ _ (by first | with_reducible assumption | decide | omega) (by first | with_reducible assumption | decide | omega) (by first | with_reducible assumption | decide | omega) (by first | with_reducible assumption | decide | omega)) ks_X4_102 rfl rfl (Nat.le_of_ble_eq_true rfl) ⟨(Nat.le_of_ble_eq_true rfl), (Nat.le_of_ble_eq_true rfl)⟩ ⟨(Nat.le_of_ble_eq_true rfl), (Nat.le_of_ble_eq_true rfl)⟩ dX4_turn_9 (fun _ _ z => False.elim z) (fun v9 ws9 h1 => ?_))))))))
  obtain ⟨rfl, hw9⟩ := h1
  subst ws9
  dsimp only [mPush]
  refine r_iload hX dX4_turn_12 rfl (r_iload hX dX4_turn_14 rfl (r_callV hX (z_X4_put ad ae cs K S th rest hS _ (c + 4) (by first | with_reducible assumption | decide | omega) (by first | with_reducible assumption | decide | omega) _ _ _ _ (by first | with_reducible assumption | decide | omega)) kv_X4_139 14 rfl rfl rfl rfl (Nat.le_of_ble_eq_true rfl) ⟨(Nat.le_of_ble_eq_true rfl), (Nat.le_of_ble_eq_true rfl)⟩ ⟨(Nat.le_of_ble_eq_true rfl), (Nat.le_of_ble_eq_true rfl)⟩ dX4_turn_16 (fun _ _ z => False.elim z) (fun v9 ws9 h2 => ?_)))
  obtain ⟨rfl, hw9⟩ := h2
  subst ws9
  dsimp only [mPush]
  refine r_pop hX dX4_turn_19 rfl (r_aload_n hX dX4_turn_20 rfl rfl (r_iload_n hX dX4_turn_21 rfl rfl (r_callV hX (z_X4_ofSecond ad ae cs K (sLo S (c + 4) (0 * 86400 + (z % 86400), n, o)) th rest _ c (by first | with_reducible assumption | decide | omega) (by first | with_reducible assumption | decide | omega)) kv_X4_202 14 rfl rfl rfl rfl (Nat.le_of_ble_eq_true rfl) ⟨(Nat.le_of_ble_eq_true rfl), (Nat.le_of_ble_eq_true rfl)⟩ ⟨(Nat.le_of_ble_eq_true rfl), (Nat.le_of_ble_eq_true rfl)⟩ dX4_turn_22 (fun _ _ z => False.elim z) (fun v9 ws9 h3 => ?_))))
  obtain ⟨rfl, hw9⟩ := h3
  subst ws9
  dsimp only [mPush]
  refine r_iret hX hE dX4_turn_25 (Nat.le_of_ble_eq_true rfl) (Nat.le_of_ble_eq_true rfl) ?_
  refine ⟨zi ?_, ?_⟩
  · rw [zlo_day, zlo_own]
    show (0 * 86400 + z % 86400) % 86400 - o = z % 86400 - o
    omega
  · rw [show (0 : Int) * 86400 + z % 86400 = z % 86400 by omega]
    rfl
set_option maxHeartbeats 4000000 in
set_option maxRecDepth 20000 in
theorem z_X4_clockTold (ad ae : Nat → Nat) (cs : ClassId × ClassId × ClassId) (K : mK) (S : mS) (th : Int32) (rest : va_W) (hS : sWF S) (i : Int) (c : Nat) (hic : i = (c : Int)) (hc : c < 3) (w : Int) (hw : 0 ≤ w ∧ w ≤ 5)  : mCt (mTy cs) yX4_clockTold cX4_clockTold 3 (some .int) ⟨6, 1, 4, 142⟩ [.ref (ae 0), .int (iZ i), .int (iZ w)] (mRw ad ae cs K (mJof S th) rest) (fun v ws' => v = some (.int (iZ (zCP (sse S (c + 4)) (sna S (c + 4)) (sow S (c + 4)) w))) ∧ ws' = (mRw ad ae cs K (mJof S th) rest)) mNo := by
  refine mCt.of (by decide +kernel) (Nat.le_of_ble_eq_true rfl) (fun X hX hE => ?_)
  replace hX : mOK X RX4 cX4_clockTold 3 ⟨6, 1, 4, 142⟩ [] (mTy cs) := hX
  refine r_iload_n hX dX4_clockTold_0 rfl rfl (r_iconstZ hX dX4_clockTold_1 (r_icmp_geZ (tgt := 18) hX dX4_clockTold_2 (by decide) (by first | with_reducible assumption | decide | omega) (by decide) (fun c1 => ?_) (fun c1 => ?_)))
  · refine r_iload_n hX dX4_clockTold_18 rfl rfl (r_iconstZ hX dX4_clockTold_19 (r_icmp_neZ (tgt := 34) hX dX4_clockTold_20 (by decide) (by first | with_reducible assumption | decide | omega) (by decide) (fun c2 => ?_) (fun c2 => ?_)))
    · refine r_aload_n hX dX4_clockTold_34 rfl rfl (r_get hX kf_X4_20 14 rfl rfl dX4_clockTold_35 (r_iconstZ hX dX4_clockTold_38 (r_iload_n hX dX4_clockTold_39 rfl rfl (r_iaddZ hX dX4_clockTold_40 (r_ialdZ hX 18 0 rfl rfl (c + 4) (by first | with_reducible assumption | decide | omega) (by first | with_reducible assumption | decide | omega) (by decide) dX4_clockTold_41 (r_iret hX hE dX4_clockTold_42 (Nat.le_of_ble_eq_true rfl) (Nat.le_of_ble_eq_true rfl) ⟨zi ?_, rfl⟩))))))
      unfold zCP
      rw [if_neg (by omega), if_neg (by omega), if_neg (by omega), if_neg (by omega)]
      first | (rw [if_pos (by omega)]; done) | (rw [if_neg (by omega)]; done)
    · refine r_aload_n hX dX4_clockTold_23 rfl rfl (r_get hX kf_X4_26 14 rfl rfl dX4_clockTold_24 (r_iconstZ hX dX4_clockTold_27 (r_iload_n hX dX4_clockTold_28 rfl rfl (r_iaddZ hX dX4_clockTold_29 (r_ialdZ hX 20 0 rfl rfl (c + 4) (by first | with_reducible assumption | decide | omega) (by first | with_reducible assumption | decide | omega) (by decide) dX4_clockTold_30 (r_goto (tgt := 42) hX dX4_clockTold_31 (by decide) (r_iret hX hE dX4_clockTold_42 (Nat.le_of_ble_eq_true rfl) (Nat.le_of_ble_eq_true rfl) ⟨zi ?_, rfl⟩)))))))
      unfold zCP
      rw [if_neg (by omega), if_neg (by omega), if_neg (by omega), if_neg (by omega)]
      first | (rw [if_pos (by omega)]; done) | (rw [if_neg (by omega)]; done)
  · refine r_aload_n hX dX4_clockTold_5 rfl rfl (r_iconstZ hX dX4_clockTold_6 (r_iload_n hX dX4_clockTold_7 rfl rfl (r_iaddZ hX dX4_clockTold_8 (r_iconstZ hX dX4_clockTold_9 (r_iload_n hX dX4_clockTold_10 rfl rfl (r_iaddZ hX dX4_clockTold_11 (r_callV hX (z_X4_told ad ae cs K S th rest hS _ (c + 4) (by first | with_reducible assumption | decide | omega) (by first | with_reducible assumption | decide | omega) _ (by first | with_reducible assumption | decide | omega)) kv_X4_193 14 rfl rfl rfl rfl (Nat.le_of_ble_eq_true rfl) ⟨(Nat.le_of_ble_eq_true rfl), (Nat.le_of_ble_eq_true rfl)⟩ ⟨(Nat.le_of_ble_eq_true rfl), (Nat.le_of_ble_eq_true rfl)⟩ dX4_clockTold_12 (fun _ _ z => False.elim z) (fun v9 ws9 h3 => ?_))))))))
    obtain ⟨rfl, hw9⟩ := h3
    subst ws9
    dsimp only [mPush]
    refine r_goto (tgt := 42) hX dX4_clockTold_15 (by decide) (r_iret hX hE dX4_clockTold_42 (Nat.le_of_ble_eq_true rfl) (Nat.le_of_ble_eq_true rfl) ⟨zi ?_, rfl⟩)
    exact zdp_cp (by omega)
end
-- 74 zrpub
section
/-! The reference, exact (rows by a program of this repository). -/
theorem oeR {ad ae : Nat → Nat} {cs : ClassId × ClassId × ClassId} {K : mK} {th : Int32} {rest : va_W} {a b : Int × mS} (h : a = b) : iZ a.1 = iZ b.1 ∧ mRw ad ae cs K (mJof a.2 th) rest = mRw ad ae cs K (mJof b.2 th) rest := by rw [h]; exact ⟨rfl, rfl⟩
theorem oNum_c {S : mS} {j : Nat} {z z' : Int} (h : z = z') : oNum S j z = oNum S j z' := by rw [h]
theorem oLoc_c {S : mS} {j : Nat} {z z' n n' o o' : Int} (h1 : z = z') (h2 : n = n') (h3 : o = o') : oLoc S j z n o = oLoc S j z' n' o' := by rw [h1, h2, h3]
theorem oClk_c {S : mS} {j : Nat} {z z' n n' o o' : Int} (h1 : z = z') (h2 : n = n') (h3 : o = o') : oClk S j z n o = oClk S j z' n' o' := by rw [h1, h2, h3]
theorem oMon_c {S : mS} {j : Nat} {z z' : Int} (h : z = z') : oMon S j z = oMon S j z' := by rw [h]
set_option maxHeartbeats 4000000 in
set_option maxRecDepth 20000 in
theorem z_X4_offset (ad ae : Nat → Nat) (cs : ClassId × ClassId × ClassId) (K : mK) (S : mS) (th : Int32) (rest : va_W) (hS : sWF S) (a0 : Int) (h0 : rJ a0) (a1 : Int) (h1 : rJ a1)  : mCt (mTy cs) yX4_offset cX4_offset 4 (some .int) ⟨2, 0, 0, 45⟩ [.ref (ae 0), .int (iZ a0), .int (iZ a1)] (mRw ad ae cs K (mJof S th) rest) (fun v ws' => ∃ r : Int32, v = some (.int r) ∧ (((((0 ≤ a0 ∧ a0 < 4)) ∧ (-64800 ≤ a1 ∧ a1 ≤ 64800)) ∧ r = iZ ((sof S a0.toNat, sOf S a0.toNat a1)).1 ∧ ws' = mRw ad ae cs K (mJof ((sof S a0.toNat, sOf S a0.toNat a1)).2 0) rest) ∨ (¬ ((0 ≤ a0 ∧ a0 < 4)) ∧ ws' = mRw ad ae cs K (mJof S 1) rest) ∨ (((0 ≤ a0 ∧ a0 < 4)) ∧ ¬ (-64800 ≤ a1 ∧ a1 ≤ 64800) ∧ ws' = mRw ad ae cs K (mJof S 2) rest))) mNo := by
  refine mCt.of (by decide +kernel) (Nat.le_of_ble_eq_true rfl) (fun X hX hE => ?_)
  replace hX : mOK X RX4 cX4_offset 4 ⟨2, 0, 0, 45⟩ [] (mTy cs) := hX
  refine r_aload_n hX dX4_offset_0 rfl rfl (r_iload_n hX dX4_offset_1 rfl rfl (r_callS hX (z_X4_isNone _ _ _ (by first | with_reducible assumption | decide | omega)) ks_X4_61 rfl rfl (Nat.le_of_ble_eq_true rfl) ⟨(Nat.le_of_ble_eq_true rfl), (Nat.le_of_ble_eq_true rfl)⟩ ⟨(Nat.le_of_ble_eq_true rfl), (Nat.le_of_ble_eq_true rfl)⟩ dX4_offset_2 (fun _ _ z => False.elim z) (fun v9 ws9 h1 => ?_)))
  obtain ⟨rfl, hw9⟩ := h1
  subst ws9
  dsimp only [mPush]
  refine r_iload_n hX dX4_offset_5 rfl rfl (r_i2lZ hX dX4_offset_6 (by first | with_reducible assumption | decide | omega) (r_ldc2Z (z := -64800) hX kc_X4_64 (by decide +kernel) dX4_offset_7 (r_ldc2Z (z := 64800) hX kc_X4_66 (by decide +kernel) dX4_offset_10 (r_callS hX (z_X4_isIn _ _ _ _ _ (by first | with_reducible assumption | decide | omega) (by first | with_reducible assumption | decide | omega) (by first | with_reducible assumption | decide | omega)) ks_X4_38 rfl rfl (Nat.le_of_ble_eq_true rfl) ⟨(Nat.le_of_ble_eq_true rfl), (Nat.le_of_ble_eq_true rfl)⟩ ⟨(Nat.le_of_ble_eq_true rfl), (Nat.le_of_ble_eq_true rfl)⟩ dX4_offset_13 (fun _ _ z => False.elim z) (fun v9 ws9 h2 => ?_)))))
  obtain ⟨rfl, hw9⟩ := h2
  subst ws9
  dsimp only [mPush]
  refine r_if_neB (tgt := 23) hX dX4_offset_16 (by decide) (fun c3 => ?_) (fun c3 => ?_)
  · have c3 := of_decide_eq_true c3
    refine r_iconst (v := b2i false) hX dX4_offset_23 (by decide) (r_callV hX (z_X4_isStopped ad ae cs K S th rest (decide (¬ (0 ≤ a0 ∧ a0 < 4))) false) kv_X4_68 14 rfl rfl rfl rfl (Nat.le_of_ble_eq_true rfl) ⟨(Nat.le_of_ble_eq_true rfl), (Nat.le_of_ble_eq_true rfl)⟩ ⟨(Nat.le_of_ble_eq_true rfl), (Nat.le_of_ble_eq_true rfl)⟩ dX4_offset_24 (fun _ _ z => False.elim z) (fun v9 ws9 h4 => ?_))
    obtain ⟨rfl, hw9⟩ := h4
    subst ws9
    dsimp only [mPush]
    refine r_if_eqB (tgt := 32) hX dX4_offset_27 (by decide) (fun c5 => ?_) (fun c5 => ?_)
    · obtain ⟨⟨hx, hy⟩, e0⟩ := zst0 c5
      have hx := of_decide_eq_false hx
      rw [e0]
      refine r_aload_n hX dX4_offset_32 rfl rfl (r_get hX kf_X4_7 14 rfl rfl dX4_offset_33 (r_iload_n hX dX4_offset_36 rfl rfl (r_ialdZ hX 15 0 rfl rfl (a0).toNat (by first | with_reducible assumption | decide | omega) (by first | with_reducible assumption | decide | omega) (by decide) dX4_offset_37 (r_istore_n hX dX4_offset_38 rfl (by decide) rfl (r_aload_n hX dX4_offset_39 rfl rfl (r_get hX kf_X4_7 14 rfl rfl dX4_offset_40 (r_iload_n hX dX4_offset_43 rfl rfl ?_)))))))
      refine r_iload_n hX dX4_offset_44 rfl rfl (r_iastZ hX 15 0 rfl rfl (a0).toNat (by first | with_reducible assumption | decide | omega) (by first | with_reducible assumption | decide | omega) (by decide) dX4_offset_45 (r_eqw (zRw_off (j := (a0).toNat) (z := a1)) (r_iload_n hX dX4_offset_46 rfl rfl (r_iret hX hE dX4_offset_47 (Nat.le_of_ble_eq_true rfl) (Nat.le_of_ble_eq_true rfl) ⟨_, rfl, Or.inl ⟨by omega, ?_⟩⟩))))
      exact ⟨rfl, rfl⟩
    · rcases zst1 c5 with ⟨hx, e0⟩ | ⟨hx, hy, e0⟩
      · rw [e0]
        have hx := of_decide_eq_true hx
        refine r_iconstZ hX dX4_offset_30 ?_
        exact r_iret hX hE dX4_offset_31 (Nat.le_of_ble_eq_true rfl) (Nat.le_of_ble_eq_true rfl) ⟨_, rfl, Or.inr (Or.inl ⟨by omega, rfl⟩)⟩
      · exact absurd hy (by decide)
  · have c3 := of_decide_eq_false c3
    refine r_iconst (v := b2i true) hX dX4_offset_19 (by decide) (r_goto (tgt := 24) hX dX4_offset_20 (by decide) (r_callV hX (z_X4_isStopped ad ae cs K S th rest (decide (¬ (0 ≤ a0 ∧ a0 < 4))) true) kv_X4_68 14 rfl rfl rfl rfl (Nat.le_of_ble_eq_true rfl) ⟨(Nat.le_of_ble_eq_true rfl), (Nat.le_of_ble_eq_true rfl)⟩ ⟨(Nat.le_of_ble_eq_true rfl), (Nat.le_of_ble_eq_true rfl)⟩ dX4_offset_24 (fun _ _ z => False.elim z) (fun v9 ws9 h6 => ?_)))
    obtain ⟨rfl, hw9⟩ := h6
    subst ws9
    dsimp only [mPush]
    refine r_if_eqB (tgt := 32) hX dX4_offset_27 (by decide) (fun c7 => ?_) (fun c7 => ?_)
    · exact absurd c7 (by simp)
    · rcases zst1 c7 with ⟨hx, e0⟩ | ⟨hx, hy, e0⟩
      · rw [e0]
        have hx := of_decide_eq_true hx
        refine r_iconstZ hX dX4_offset_30 ?_
        exact r_iret hX hE dX4_offset_31 (Nat.le_of_ble_eq_true rfl) (Nat.le_of_ble_eq_true rfl) ⟨_, rfl, Or.inr (Or.inl ⟨by omega, rfl⟩)⟩
      · rw [e0]
        have hx := of_decide_eq_false hx
        refine r_iconstZ hX dX4_offset_30 ?_
        exact r_iret hX hE dX4_offset_31 (Nat.le_of_ble_eq_true rfl) (Nat.le_of_ble_eq_true rfl) ⟨_, rfl, Or.inr (Or.inr ⟨by omega, by omega, rfl⟩)⟩
set_option maxHeartbeats 4000000 in
set_option maxRecDepth 20000 in
theorem z_X4_offsetOf (ad ae : Nat → Nat) (cs : ClassId × ClassId × ClassId) (K : mK) (S : mS) (th : Int32) (rest : va_W) (hS : sWF S) (a0 : Int) (h0 : rJ a0) (a1 : Int) (h1 : rJ a1) (a2 : Int) (h2 : rJ a2) (a3 : Int) (h3 : rJ a3)  : mCt (mTy cs) yX4_offsetOf cX4_offsetOf 7 (some .int) ⟨2, 0, 0, 45⟩ [.ref (ae 0), .int (iZ a0), .int (iZ a1), .int (iZ a2), .int (iZ a3)] (mRw ad ae cs K (mJof S th) rest) (fun v ws' => ∃ r : Int32, v = some (.int r) ∧ (((((0 ≤ a0 ∧ a0 < 4)) ∧ (0 ≤ (0 : Int))) ∧ r = iZ (oOff S a0.toNat a1 a2 a3).1 ∧ ws' = mRw ad ae cs K (mJof (oOff S a0.toNat a1 a2 a3).2 0) rest) ∨ (¬ ((0 ≤ a0 ∧ a0 < 4)) ∧ ws' = mRw ad ae cs K (mJof S 1) rest) ∨ (((0 ≤ a0 ∧ a0 < 4)) ∧ ¬ (0 ≤ (0 : Int)) ∧ ws' = mRw ad ae cs K (mJof S 2) rest))) mNo := by
  refine mCt.of (by decide +kernel) (Nat.le_of_ble_eq_true rfl) (fun X hX hE => ?_)
  replace hX : mOK X RX4 cX4_offsetOf 7 ⟨2, 0, 0, 45⟩ [] (mTy cs) := hX
  refine r_aload_n hX dX4_offsetOf_0 rfl rfl (r_iload_n hX dX4_offsetOf_1 rfl rfl (r_callS hX (z_X4_isNone _ _ _ (by first | with_reducible assumption | decide | omega)) ks_X4_61 rfl rfl (Nat.le_of_ble_eq_true rfl) ⟨(Nat.le_of_ble_eq_true rfl), (Nat.le_of_ble_eq_true rfl)⟩ ⟨(Nat.le_of_ble_eq_true rfl), (Nat.le_of_ble_eq_true rfl)⟩ dX4_offsetOf_2 (fun _ _ z => False.elim z) (fun v9 ws9 h1 => ?_)))
  obtain ⟨rfl, hw9⟩ := h1
  subst ws9
  dsimp only [mPush]
  refine r_iconst (v := b2i false) hX dX4_offsetOf_5 (by decide) (r_callV hX (z_X4_isStopped ad ae cs K S th rest (decide (¬ (0 ≤ a0 ∧ a0 < 4))) false) kv_X4_68 14 rfl rfl rfl rfl (Nat.le_of_ble_eq_true rfl) ⟨(Nat.le_of_ble_eq_true rfl), (Nat.le_of_ble_eq_true rfl)⟩ ⟨(Nat.le_of_ble_eq_true rfl), (Nat.le_of_ble_eq_true rfl)⟩ dX4_offsetOf_6 (fun _ _ z => False.elim z) (fun v9 ws9 h2 => ?_))
  obtain ⟨rfl, hw9⟩ := h2
  subst ws9
  dsimp only [mPush]
  refine r_if_eqB (tgt := 14) hX dX4_offsetOf_9 (by decide) (fun c3 => ?_) (fun c3 => ?_)
  · obtain ⟨⟨hx, hy⟩, e0⟩ := zst0 c3
    have hx := of_decide_eq_false hx
    rw [e0]
    refine r_iload_n hX dX4_offsetOf_14 rfl rfl (r_if_gtZ (tgt := 27) hX dX4_offsetOf_15 (by decide) (by first | with_reducible assumption | decide | omega) (fun c4 => ?_) (fun c4 => ?_))
    · refine r_iload_n hX dX4_offsetOf_27 rfl rfl (r_if_ltZ (tgt := 40) hX dX4_offsetOf_28 (by decide) (by first | with_reducible assumption | decide | omega) (fun c5 => ?_) (fun c5 => ?_))
      · refine r_iconstZ hX dX4_offsetOf_40 (r_goto (tgt := 45) hX dX4_offsetOf_41 (by decide) (r_istore hX dX4_offsetOf_45 (by decide) rfl (r_iload_n hX dX4_offsetOf_47 rfl rfl (r_i2lZ hX dX4_offsetOf_48 (by first | with_reducible assumption | decide | omega) (r_ldc2Z (z := -18) hX kc_X4_72 (by decide +kernel) dX4_offsetOf_49 (r_ldc2Z (z := 18) hX kc_X4_74 (by decide +kernel) dX4_offsetOf_52 (r_callS hX (z_X4_isIn _ _ _ _ _ (by first | with_reducible assumption | decide | omega) (by first | with_reducible assumption | decide | omega) (by first | with_reducible assumption | decide | omega)) ks_X4_38 rfl rfl (Nat.le_of_ble_eq_true rfl) ⟨(Nat.le_of_ble_eq_true rfl), (Nat.le_of_ble_eq_true rfl)⟩ ⟨(Nat.le_of_ble_eq_true rfl), (Nat.le_of_ble_eq_true rfl)⟩ dX4_offsetOf_55 (fun _ _ z => False.elim z) (fun v9 ws9 h6 => ?_))))))))
        obtain ⟨rfl, hw9⟩ := h6
        subst ws9
        dsimp only [mPush]
        refine r_if_eqB (tgt := 95) hX dX4_offsetOf_58 (by decide) (fun c7 => ?_) (fun c7 => ?_)
        · have c7 := of_decide_eq_false c7
          refine r_aload_n hX dX4_offsetOf_95 rfl rfl (r_callV hX (z_X4_no ad ae cs K S 0 rest) kv_X4_80 14 rfl rfl rfl rfl (Nat.le_of_ble_eq_true rfl) ⟨(Nat.le_of_ble_eq_true rfl), (Nat.le_of_ble_eq_true rfl)⟩ ⟨(Nat.le_of_ble_eq_true rfl), (Nat.le_of_ble_eq_true rfl)⟩ dX4_offsetOf_96 (fun _ _ z => False.elim z) (fun v9 ws9 h8 => ?_))
          obtain ⟨rfl, hw9⟩ := h8
          subst ws9
          dsimp only [mPush]
          refine r_iret hX hE dX4_offsetOf_99 (Nat.le_of_ble_eq_true rfl) (Nat.le_of_ble_eq_true rfl) ⟨_, rfl, Or.inl ⟨by omega, ?_⟩⟩
          unfold oOff
          rw [if_neg (by omega)]
          exact ⟨rfl, rfl⟩
        · have c7 := of_decide_eq_true c7
          refine r_iload_n hX dX4_offsetOf_61 rfl rfl (r_i2lZ hX dX4_offsetOf_62 (by first | with_reducible assumption | decide | omega) (r_ldc2Z (z := -59) hX kc_X4_76 (by decide +kernel) dX4_offsetOf_63 (r_ldc2Z (z := 59) hX kc_X4_78 (by decide +kernel) dX4_offsetOf_66 (r_callS hX (z_X4_isIn _ _ _ _ _ (by first | with_reducible assumption | decide | omega) (by first | with_reducible assumption | decide | omega) (by first | with_reducible assumption | decide | omega)) ks_X4_38 rfl rfl (Nat.le_of_ble_eq_true rfl) ⟨(Nat.le_of_ble_eq_true rfl), (Nat.le_of_ble_eq_true rfl)⟩ ⟨(Nat.le_of_ble_eq_true rfl), (Nat.le_of_ble_eq_true rfl)⟩ dX4_offsetOf_69 (fun _ _ z => False.elim z) (fun v9 ws9 h9 => ?_)))))
          obtain ⟨rfl, hw9⟩ := h9
          subst ws9
          dsimp only [mPush]
          refine r_if_eqB (tgt := 95) hX dX4_offsetOf_72 (by decide) (fun c10 => ?_) (fun c10 => ?_)
          · have c10 := of_decide_eq_false c10
            refine r_aload_n hX dX4_offsetOf_95 rfl rfl (r_callV hX (z_X4_no ad ae cs K S 0 rest) kv_X4_80 14 rfl rfl rfl rfl (Nat.le_of_ble_eq_true rfl) ⟨(Nat.le_of_ble_eq_true rfl), (Nat.le_of_ble_eq_true rfl)⟩ ⟨(Nat.le_of_ble_eq_true rfl), (Nat.le_of_ble_eq_true rfl)⟩ dX4_offsetOf_96 (fun _ _ z => False.elim z) (fun v9 ws9 h11 => ?_))
            obtain ⟨rfl, hw9⟩ := h11
            subst ws9
            dsimp only [mPush]
            refine r_iret hX hE dX4_offsetOf_99 (Nat.le_of_ble_eq_true rfl) (Nat.le_of_ble_eq_true rfl) ⟨_, rfl, Or.inl ⟨by omega, ?_⟩⟩
            unfold oOff
            rw [if_neg (by omega)]
            exact ⟨rfl, rfl⟩
          · have c10 := of_decide_eq_true c10
            refine r_iload hX dX4_offsetOf_75 rfl (r_i2lZ hX dX4_offsetOf_77 (by first | with_reducible assumption | decide | omega) (r_ldc2Z (z := -59) hX kc_X4_76 (by decide +kernel) dX4_offsetOf_78 (r_ldc2Z (z := 59) hX kc_X4_78 (by decide +kernel) dX4_offsetOf_81 (r_callS hX (z_X4_isIn _ _ _ _ _ (by first | with_reducible assumption | decide | omega) (by first | with_reducible assumption | decide | omega) (by first | with_reducible assumption | decide | omega)) ks_X4_38 rfl rfl (Nat.le_of_ble_eq_true rfl) ⟨(Nat.le_of_ble_eq_true rfl), (Nat.le_of_ble_eq_true rfl)⟩ ⟨(Nat.le_of_ble_eq_true rfl), (Nat.le_of_ble_eq_true rfl)⟩ dX4_offsetOf_84 (fun _ _ z => False.elim z) (fun v9 ws9 h12 => ?_)))))
            obtain ⟨rfl, hw9⟩ := h12
            subst ws9
            dsimp only [mPush]
            refine r_if_eqB (tgt := 95) hX dX4_offsetOf_87 (by decide) (fun c13 => ?_) (fun c13 => ?_)
            · have c13 := of_decide_eq_false c13
              refine r_aload_n hX dX4_offsetOf_95 rfl rfl (r_callV hX (z_X4_no ad ae cs K S 0 rest) kv_X4_80 14 rfl rfl rfl rfl (Nat.le_of_ble_eq_true rfl) ⟨(Nat.le_of_ble_eq_true rfl), (Nat.le_of_ble_eq_true rfl)⟩ ⟨(Nat.le_of_ble_eq_true rfl), (Nat.le_of_ble_eq_true rfl)⟩ dX4_offsetOf_96 (fun _ _ z => False.elim z) (fun v9 ws9 h14 => ?_))
              obtain ⟨rfl, hw9⟩ := h14
              subst ws9
              dsimp only [mPush]
              refine r_iret hX hE dX4_offsetOf_99 (Nat.le_of_ble_eq_true rfl) (Nat.le_of_ble_eq_true rfl) ⟨_, rfl, Or.inl ⟨by omega, ?_⟩⟩
              unfold oOff
              rw [if_neg (by omega)]
              exact ⟨rfl, rfl⟩
            · have c13 := of_decide_eq_true c13
              refine r_iload hX dX4_offsetOf_90 rfl (r_if_eqZ (tgt := 100) hX dX4_offsetOf_92 (by decide) (by decide) (fun q => absurd q (by decide)) (fun _ => ?_))
              refine r_aload_n hX dX4_offsetOf_95 rfl rfl (r_callV hX (z_X4_no ad ae cs K S 0 rest) kv_X4_80 14 rfl rfl rfl rfl (Nat.le_of_ble_eq_true rfl) ⟨(Nat.le_of_ble_eq_true rfl), (Nat.le_of_ble_eq_true rfl)⟩ ⟨(Nat.le_of_ble_eq_true rfl), (Nat.le_of_ble_eq_true rfl)⟩ dX4_offsetOf_96 (fun _ _ z => False.elim z) (fun v9 ws9 h15 => ?_))
              obtain ⟨rfl, hw9⟩ := h15
              subst ws9
              dsimp only [mPush]
              refine r_iret hX hE dX4_offsetOf_99 (Nat.le_of_ble_eq_true rfl) (Nat.le_of_ble_eq_true rfl) ⟨_, rfl, Or.inl ⟨by omega, ?_⟩⟩
              unfold oOff
              rw [if_neg (by omega)]
              exact ⟨rfl, rfl⟩
      · refine r_iload_n hX dX4_offsetOf_31 rfl rfl (r_if_ltZ (tgt := 40) hX dX4_offsetOf_32 (by decide) (by first | with_reducible assumption | decide | omega) (fun c16 => ?_) (fun c16 => ?_))
        · refine r_iconstZ hX dX4_offsetOf_40 (r_goto (tgt := 45) hX dX4_offsetOf_41 (by decide) (r_istore hX dX4_offsetOf_45 (by decide) rfl (r_iload_n hX dX4_offsetOf_47 rfl rfl (r_i2lZ hX dX4_offsetOf_48 (by first | with_reducible assumption | decide | omega) (r_ldc2Z (z := -18) hX kc_X4_72 (by decide +kernel) dX4_offsetOf_49 (r_ldc2Z (z := 18) hX kc_X4_74 (by decide +kernel) dX4_offsetOf_52 (r_callS hX (z_X4_isIn _ _ _ _ _ (by first | with_reducible assumption | decide | omega) (by first | with_reducible assumption | decide | omega) (by first | with_reducible assumption | decide | omega)) ks_X4_38 rfl rfl (Nat.le_of_ble_eq_true rfl) ⟨(Nat.le_of_ble_eq_true rfl), (Nat.le_of_ble_eq_true rfl)⟩ ⟨(Nat.le_of_ble_eq_true rfl), (Nat.le_of_ble_eq_true rfl)⟩ dX4_offsetOf_55 (fun _ _ z => False.elim z) (fun v9 ws9 h17 => ?_))))))))
          obtain ⟨rfl, hw9⟩ := h17
          subst ws9
          dsimp only [mPush]
          refine r_if_eqB (tgt := 95) hX dX4_offsetOf_58 (by decide) (fun c18 => ?_) (fun c18 => ?_)
          · have c18 := of_decide_eq_false c18
            refine r_aload_n hX dX4_offsetOf_95 rfl rfl (r_callV hX (z_X4_no ad ae cs K S 0 rest) kv_X4_80 14 rfl rfl rfl rfl (Nat.le_of_ble_eq_true rfl) ⟨(Nat.le_of_ble_eq_true rfl), (Nat.le_of_ble_eq_true rfl)⟩ ⟨(Nat.le_of_ble_eq_true rfl), (Nat.le_of_ble_eq_true rfl)⟩ dX4_offsetOf_96 (fun _ _ z => False.elim z) (fun v9 ws9 h19 => ?_))
            obtain ⟨rfl, hw9⟩ := h19
            subst ws9
            dsimp only [mPush]
            refine r_iret hX hE dX4_offsetOf_99 (Nat.le_of_ble_eq_true rfl) (Nat.le_of_ble_eq_true rfl) ⟨_, rfl, Or.inl ⟨by omega, ?_⟩⟩
            unfold oOff
            rw [if_neg (by omega)]
            exact ⟨rfl, rfl⟩
          · have c18 := of_decide_eq_true c18
            refine r_iload_n hX dX4_offsetOf_61 rfl rfl (r_i2lZ hX dX4_offsetOf_62 (by first | with_reducible assumption | decide | omega) (r_ldc2Z (z := -59) hX kc_X4_76 (by decide +kernel) dX4_offsetOf_63 (r_ldc2Z (z := 59) hX kc_X4_78 (by decide +kernel) dX4_offsetOf_66 (r_callS hX (z_X4_isIn _ _ _ _ _ (by first | with_reducible assumption | decide | omega) (by first | with_reducible assumption | decide | omega) (by first | with_reducible assumption | decide | omega)) ks_X4_38 rfl rfl (Nat.le_of_ble_eq_true rfl) ⟨(Nat.le_of_ble_eq_true rfl), (Nat.le_of_ble_eq_true rfl)⟩ ⟨(Nat.le_of_ble_eq_true rfl), (Nat.le_of_ble_eq_true rfl)⟩ dX4_offsetOf_69 (fun _ _ z => False.elim z) (fun v9 ws9 h20 => ?_)))))
            obtain ⟨rfl, hw9⟩ := h20
            subst ws9
            dsimp only [mPush]
            refine r_if_eqB (tgt := 95) hX dX4_offsetOf_72 (by decide) (fun c21 => ?_) (fun c21 => ?_)
            · have c21 := of_decide_eq_false c21
              refine r_aload_n hX dX4_offsetOf_95 rfl rfl (r_callV hX (z_X4_no ad ae cs K S 0 rest) kv_X4_80 14 rfl rfl rfl rfl (Nat.le_of_ble_eq_true rfl) ⟨(Nat.le_of_ble_eq_true rfl), (Nat.le_of_ble_eq_true rfl)⟩ ⟨(Nat.le_of_ble_eq_true rfl), (Nat.le_of_ble_eq_true rfl)⟩ dX4_offsetOf_96 (fun _ _ z => False.elim z) (fun v9 ws9 h22 => ?_))
              obtain ⟨rfl, hw9⟩ := h22
              subst ws9
              dsimp only [mPush]
              refine r_iret hX hE dX4_offsetOf_99 (Nat.le_of_ble_eq_true rfl) (Nat.le_of_ble_eq_true rfl) ⟨_, rfl, Or.inl ⟨by omega, ?_⟩⟩
              unfold oOff
              rw [if_neg (by omega)]
              exact ⟨rfl, rfl⟩
            · have c21 := of_decide_eq_true c21
              refine r_iload hX dX4_offsetOf_75 rfl (r_i2lZ hX dX4_offsetOf_77 (by first | with_reducible assumption | decide | omega) (r_ldc2Z (z := -59) hX kc_X4_76 (by decide +kernel) dX4_offsetOf_78 (r_ldc2Z (z := 59) hX kc_X4_78 (by decide +kernel) dX4_offsetOf_81 (r_callS hX (z_X4_isIn _ _ _ _ _ (by first | with_reducible assumption | decide | omega) (by first | with_reducible assumption | decide | omega) (by first | with_reducible assumption | decide | omega)) ks_X4_38 rfl rfl (Nat.le_of_ble_eq_true rfl) ⟨(Nat.le_of_ble_eq_true rfl), (Nat.le_of_ble_eq_true rfl)⟩ ⟨(Nat.le_of_ble_eq_true rfl), (Nat.le_of_ble_eq_true rfl)⟩ dX4_offsetOf_84 (fun _ _ z => False.elim z) (fun v9 ws9 h23 => ?_)))))
              obtain ⟨rfl, hw9⟩ := h23
              subst ws9
              dsimp only [mPush]
              refine r_if_eqB (tgt := 95) hX dX4_offsetOf_87 (by decide) (fun c24 => ?_) (fun c24 => ?_)
              · have c24 := of_decide_eq_false c24
                refine r_aload_n hX dX4_offsetOf_95 rfl rfl (r_callV hX (z_X4_no ad ae cs K S 0 rest) kv_X4_80 14 rfl rfl rfl rfl (Nat.le_of_ble_eq_true rfl) ⟨(Nat.le_of_ble_eq_true rfl), (Nat.le_of_ble_eq_true rfl)⟩ ⟨(Nat.le_of_ble_eq_true rfl), (Nat.le_of_ble_eq_true rfl)⟩ dX4_offsetOf_96 (fun _ _ z => False.elim z) (fun v9 ws9 h25 => ?_))
                obtain ⟨rfl, hw9⟩ := h25
                subst ws9
                dsimp only [mPush]
                refine r_iret hX hE dX4_offsetOf_99 (Nat.le_of_ble_eq_true rfl) (Nat.le_of_ble_eq_true rfl) ⟨_, rfl, Or.inl ⟨by omega, ?_⟩⟩
                unfold oOff
                rw [if_neg (by omega)]
                exact ⟨rfl, rfl⟩
              · have c24 := of_decide_eq_true c24
                refine r_iload hX dX4_offsetOf_90 rfl (r_if_eqZ (tgt := 100) hX dX4_offsetOf_92 (by decide) (by decide) (fun q => absurd q (by decide)) (fun _ => ?_))
                refine r_aload_n hX dX4_offsetOf_95 rfl rfl (r_callV hX (z_X4_no ad ae cs K S 0 rest) kv_X4_80 14 rfl rfl rfl rfl (Nat.le_of_ble_eq_true rfl) ⟨(Nat.le_of_ble_eq_true rfl), (Nat.le_of_ble_eq_true rfl)⟩ ⟨(Nat.le_of_ble_eq_true rfl), (Nat.le_of_ble_eq_true rfl)⟩ dX4_offsetOf_96 (fun _ _ z => False.elim z) (fun v9 ws9 h26 => ?_))
                obtain ⟨rfl, hw9⟩ := h26
                subst ws9
                dsimp only [mPush]
                refine r_iret hX hE dX4_offsetOf_99 (Nat.le_of_ble_eq_true rfl) (Nat.le_of_ble_eq_true rfl) ⟨_, rfl, Or.inl ⟨by omega, ?_⟩⟩
                unfold oOff
                rw [if_neg (by omega)]
                exact ⟨rfl, rfl⟩
        · refine r_iload hX dX4_offsetOf_35 rfl (r_if_geZ (tgt := 44) hX dX4_offsetOf_37 (by decide) (by first | with_reducible assumption | decide | omega) (fun c27 => ?_) (fun c27 => ?_))
          · refine r_iconstZ hX dX4_offsetOf_44 (r_istore hX dX4_offsetOf_45 (by decide) rfl (r_iload_n hX dX4_offsetOf_47 rfl rfl (r_i2lZ hX dX4_offsetOf_48 (by first | with_reducible assumption | decide | omega) (r_ldc2Z (z := -18) hX kc_X4_72 (by decide +kernel) dX4_offsetOf_49 (r_ldc2Z (z := 18) hX kc_X4_74 (by decide +kernel) dX4_offsetOf_52 (r_callS hX (z_X4_isIn _ _ _ _ _ (by first | with_reducible assumption | decide | omega) (by first | with_reducible assumption | decide | omega) (by first | with_reducible assumption | decide | omega)) ks_X4_38 rfl rfl (Nat.le_of_ble_eq_true rfl) ⟨(Nat.le_of_ble_eq_true rfl), (Nat.le_of_ble_eq_true rfl)⟩ ⟨(Nat.le_of_ble_eq_true rfl), (Nat.le_of_ble_eq_true rfl)⟩ dX4_offsetOf_55 (fun _ _ z => False.elim z) (fun v9 ws9 h28 => ?_)))))))
            obtain ⟨rfl, hw9⟩ := h28
            subst ws9
            dsimp only [mPush]
            refine r_if_eqB (tgt := 95) hX dX4_offsetOf_58 (by decide) (fun c29 => ?_) (fun c29 => ?_)
            · have c29 := of_decide_eq_false c29
              refine r_aload_n hX dX4_offsetOf_95 rfl rfl (r_callV hX (z_X4_no ad ae cs K S 0 rest) kv_X4_80 14 rfl rfl rfl rfl (Nat.le_of_ble_eq_true rfl) ⟨(Nat.le_of_ble_eq_true rfl), (Nat.le_of_ble_eq_true rfl)⟩ ⟨(Nat.le_of_ble_eq_true rfl), (Nat.le_of_ble_eq_true rfl)⟩ dX4_offsetOf_96 (fun _ _ z => False.elim z) (fun v9 ws9 h30 => ?_))
              obtain ⟨rfl, hw9⟩ := h30
              subst ws9
              dsimp only [mPush]
              refine r_iret hX hE dX4_offsetOf_99 (Nat.le_of_ble_eq_true rfl) (Nat.le_of_ble_eq_true rfl) ⟨_, rfl, Or.inl ⟨by omega, ?_⟩⟩
              unfold oOff
              rw [if_neg (by omega)]
              exact ⟨rfl, rfl⟩
            · have c29 := of_decide_eq_true c29
              refine r_iload_n hX dX4_offsetOf_61 rfl rfl (r_i2lZ hX dX4_offsetOf_62 (by first | with_reducible assumption | decide | omega) (r_ldc2Z (z := -59) hX kc_X4_76 (by decide +kernel) dX4_offsetOf_63 (r_ldc2Z (z := 59) hX kc_X4_78 (by decide +kernel) dX4_offsetOf_66 (r_callS hX (z_X4_isIn _ _ _ _ _ (by first | with_reducible assumption | decide | omega) (by first | with_reducible assumption | decide | omega) (by first | with_reducible assumption | decide | omega)) ks_X4_38 rfl rfl (Nat.le_of_ble_eq_true rfl) ⟨(Nat.le_of_ble_eq_true rfl), (Nat.le_of_ble_eq_true rfl)⟩ ⟨(Nat.le_of_ble_eq_true rfl), (Nat.le_of_ble_eq_true rfl)⟩ dX4_offsetOf_69 (fun _ _ z => False.elim z) (fun v9 ws9 h31 => ?_)))))
              obtain ⟨rfl, hw9⟩ := h31
              subst ws9
              dsimp only [mPush]
              refine r_if_eqB (tgt := 95) hX dX4_offsetOf_72 (by decide) (fun c32 => ?_) (fun c32 => ?_)
              · have c32 := of_decide_eq_false c32
                refine r_aload_n hX dX4_offsetOf_95 rfl rfl (r_callV hX (z_X4_no ad ae cs K S 0 rest) kv_X4_80 14 rfl rfl rfl rfl (Nat.le_of_ble_eq_true rfl) ⟨(Nat.le_of_ble_eq_true rfl), (Nat.le_of_ble_eq_true rfl)⟩ ⟨(Nat.le_of_ble_eq_true rfl), (Nat.le_of_ble_eq_true rfl)⟩ dX4_offsetOf_96 (fun _ _ z => False.elim z) (fun v9 ws9 h33 => ?_))
                obtain ⟨rfl, hw9⟩ := h33
                subst ws9
                dsimp only [mPush]
                refine r_iret hX hE dX4_offsetOf_99 (Nat.le_of_ble_eq_true rfl) (Nat.le_of_ble_eq_true rfl) ⟨_, rfl, Or.inl ⟨by omega, ?_⟩⟩
                unfold oOff
                rw [if_neg (by omega)]
                exact ⟨rfl, rfl⟩
              · have c32 := of_decide_eq_true c32
                refine r_iload hX dX4_offsetOf_75 rfl (r_i2lZ hX dX4_offsetOf_77 (by first | with_reducible assumption | decide | omega) (r_ldc2Z (z := -59) hX kc_X4_76 (by decide +kernel) dX4_offsetOf_78 (r_ldc2Z (z := 59) hX kc_X4_78 (by decide +kernel) dX4_offsetOf_81 (r_callS hX (z_X4_isIn _ _ _ _ _ (by first | with_reducible assumption | decide | omega) (by first | with_reducible assumption | decide | omega) (by first | with_reducible assumption | decide | omega)) ks_X4_38 rfl rfl (Nat.le_of_ble_eq_true rfl) ⟨(Nat.le_of_ble_eq_true rfl), (Nat.le_of_ble_eq_true rfl)⟩ ⟨(Nat.le_of_ble_eq_true rfl), (Nat.le_of_ble_eq_true rfl)⟩ dX4_offsetOf_84 (fun _ _ z => False.elim z) (fun v9 ws9 h34 => ?_)))))
                obtain ⟨rfl, hw9⟩ := h34
                subst ws9
                dsimp only [mPush]
                refine r_if_eqB (tgt := 95) hX dX4_offsetOf_87 (by decide) (fun c35 => ?_) (fun c35 => ?_)
                · have c35 := of_decide_eq_false c35
                  refine r_aload_n hX dX4_offsetOf_95 rfl rfl (r_callV hX (z_X4_no ad ae cs K S 0 rest) kv_X4_80 14 rfl rfl rfl rfl (Nat.le_of_ble_eq_true rfl) ⟨(Nat.le_of_ble_eq_true rfl), (Nat.le_of_ble_eq_true rfl)⟩ ⟨(Nat.le_of_ble_eq_true rfl), (Nat.le_of_ble_eq_true rfl)⟩ dX4_offsetOf_96 (fun _ _ z => False.elim z) (fun v9 ws9 h36 => ?_))
                  obtain ⟨rfl, hw9⟩ := h36
                  subst ws9
                  dsimp only [mPush]
                  refine r_iret hX hE dX4_offsetOf_99 (Nat.le_of_ble_eq_true rfl) (Nat.le_of_ble_eq_true rfl) ⟨_, rfl, Or.inl ⟨by omega, ?_⟩⟩
                  unfold oOff
                  rw [if_neg (by omega)]
                  exact ⟨rfl, rfl⟩
                · have c35 := of_decide_eq_true c35
                  refine r_iload hX dX4_offsetOf_90 rfl (r_if_eqZ (tgt := 100) hX dX4_offsetOf_92 (by decide) (by decide) (fun _ => ?_) (fun q => absurd (by decide) q))
                  refine r_sipushZ hX dX4_offsetOf_100 (by decide +kernel) (r_iload_n hX dX4_offsetOf_103 rfl rfl (r_imulZ hX dX4_offsetOf_104 (r_bipushZ hX dX4_offsetOf_105 (by decide +kernel) (r_iload_n hX dX4_offsetOf_107 rfl rfl (r_imulZ hX dX4_offsetOf_108 (r_iaddZ hX dX4_offsetOf_109 (r_iload hX dX4_offsetOf_110 rfl ?_)))))))
                  refine r_iaddZ hX dX4_offsetOf_112 (r_istore hX dX4_offsetOf_113 (by decide) rfl (r_iload hX dX4_offsetOf_115 rfl (r_i2lZ hX dX4_offsetOf_117 (by first | with_reducible assumption | decide | omega) (r_ldc2Z (z := -64800) hX kc_X4_64 (by decide +kernel) dX4_offsetOf_118 (r_ldc2Z (z := 64800) hX kc_X4_66 (by decide +kernel) dX4_offsetOf_121 (r_callS hX (z_X4_isIn _ _ _ _ _ (by first | with_reducible assumption | decide | omega) (by first | with_reducible assumption | decide | omega) (by first | with_reducible assumption | decide | omega)) ks_X4_38 rfl rfl (Nat.le_of_ble_eq_true rfl) ⟨(Nat.le_of_ble_eq_true rfl), (Nat.le_of_ble_eq_true rfl)⟩ ⟨(Nat.le_of_ble_eq_true rfl), (Nat.le_of_ble_eq_true rfl)⟩ dX4_offsetOf_124 (fun _ _ z => False.elim z) (fun v9 ws9 h37 => ?_)))))))
                  obtain ⟨rfl, hw9⟩ := h37
                  subst ws9
                  dsimp only [mPush]
                  refine r_if_neB (tgt := 135) hX dX4_offsetOf_127 (by decide) (fun c38 => ?_) (fun c38 => ?_)
                  · have c38 := of_decide_eq_true c38
                    refine r_aload_n hX dX4_offsetOf_135 rfl rfl (r_get hX kf_X4_7 14 rfl rfl dX4_offsetOf_136 (r_iload_n hX dX4_offsetOf_139 rfl rfl (r_iload hX dX4_offsetOf_140 rfl (r_iastZ hX 15 0 rfl rfl (a0).toNat (by first | with_reducible assumption | decide | omega) (by first | with_reducible assumption | decide | omega) (by decide) dX4_offsetOf_142 (r_eqw (zRw_off (j := (a0).toNat) (z := ((3600 * a1) + (60 * a2)) + a3)) (r_iload hX dX4_offsetOf_143 rfl (r_iret hX hE dX4_offsetOf_145 (Nat.le_of_ble_eq_true rfl) (Nat.le_of_ble_eq_true rfl) ⟨_, rfl, Or.inl ⟨by omega, ?_⟩⟩)))))))
                    unfold oOff
                    rw [if_pos (by omega), show a1 * 3600 + a2 * 60 + a3 = 3600 * a1 + 60 * a2 + a3 by omega]
                    exact ⟨rfl, rfl⟩
                  · have c38 := of_decide_eq_false c38
                    refine r_aload_n hX dX4_offsetOf_130 rfl rfl (r_callV hX (z_X4_no ad ae cs K S 0 rest) kv_X4_80 14 rfl rfl rfl rfl (Nat.le_of_ble_eq_true rfl) ⟨(Nat.le_of_ble_eq_true rfl), (Nat.le_of_ble_eq_true rfl)⟩ ⟨(Nat.le_of_ble_eq_true rfl), (Nat.le_of_ble_eq_true rfl)⟩ dX4_offsetOf_131 (fun _ _ z => False.elim z) (fun v9 ws9 h39 => ?_))
                    obtain ⟨rfl, hw9⟩ := h39
                    subst ws9
                    dsimp only [mPush]
                    refine r_iret hX hE dX4_offsetOf_134 (Nat.le_of_ble_eq_true rfl) (Nat.le_of_ble_eq_true rfl) ⟨_, rfl, Or.inl ⟨by omega, ?_⟩⟩
                    unfold oOff
                    rw [if_neg (by omega)]
                    exact ⟨rfl, rfl⟩
          · refine r_iconstZ hX dX4_offsetOf_40 (r_goto (tgt := 45) hX dX4_offsetOf_41 (by decide) (r_istore hX dX4_offsetOf_45 (by decide) rfl (r_iload_n hX dX4_offsetOf_47 rfl rfl (r_i2lZ hX dX4_offsetOf_48 (by first | with_reducible assumption | decide | omega) (r_ldc2Z (z := -18) hX kc_X4_72 (by decide +kernel) dX4_offsetOf_49 (r_ldc2Z (z := 18) hX kc_X4_74 (by decide +kernel) dX4_offsetOf_52 (r_callS hX (z_X4_isIn _ _ _ _ _ (by first | with_reducible assumption | decide | omega) (by first | with_reducible assumption | decide | omega) (by first | with_reducible assumption | decide | omega)) ks_X4_38 rfl rfl (Nat.le_of_ble_eq_true rfl) ⟨(Nat.le_of_ble_eq_true rfl), (Nat.le_of_ble_eq_true rfl)⟩ ⟨(Nat.le_of_ble_eq_true rfl), (Nat.le_of_ble_eq_true rfl)⟩ dX4_offsetOf_55 (fun _ _ z => False.elim z) (fun v9 ws9 h40 => ?_))))))))
            obtain ⟨rfl, hw9⟩ := h40
            subst ws9
            dsimp only [mPush]
            refine r_if_eqB (tgt := 95) hX dX4_offsetOf_58 (by decide) (fun c41 => ?_) (fun c41 => ?_)
            · have c41 := of_decide_eq_false c41
              refine r_aload_n hX dX4_offsetOf_95 rfl rfl (r_callV hX (z_X4_no ad ae cs K S 0 rest) kv_X4_80 14 rfl rfl rfl rfl (Nat.le_of_ble_eq_true rfl) ⟨(Nat.le_of_ble_eq_true rfl), (Nat.le_of_ble_eq_true rfl)⟩ ⟨(Nat.le_of_ble_eq_true rfl), (Nat.le_of_ble_eq_true rfl)⟩ dX4_offsetOf_96 (fun _ _ z => False.elim z) (fun v9 ws9 h42 => ?_))
              obtain ⟨rfl, hw9⟩ := h42
              subst ws9
              dsimp only [mPush]
              refine r_iret hX hE dX4_offsetOf_99 (Nat.le_of_ble_eq_true rfl) (Nat.le_of_ble_eq_true rfl) ⟨_, rfl, Or.inl ⟨by omega, ?_⟩⟩
              unfold oOff
              rw [if_neg (by omega)]
              exact ⟨rfl, rfl⟩
            · have c41 := of_decide_eq_true c41
              refine r_iload_n hX dX4_offsetOf_61 rfl rfl (r_i2lZ hX dX4_offsetOf_62 (by first | with_reducible assumption | decide | omega) (r_ldc2Z (z := -59) hX kc_X4_76 (by decide +kernel) dX4_offsetOf_63 (r_ldc2Z (z := 59) hX kc_X4_78 (by decide +kernel) dX4_offsetOf_66 (r_callS hX (z_X4_isIn _ _ _ _ _ (by first | with_reducible assumption | decide | omega) (by first | with_reducible assumption | decide | omega) (by first | with_reducible assumption | decide | omega)) ks_X4_38 rfl rfl (Nat.le_of_ble_eq_true rfl) ⟨(Nat.le_of_ble_eq_true rfl), (Nat.le_of_ble_eq_true rfl)⟩ ⟨(Nat.le_of_ble_eq_true rfl), (Nat.le_of_ble_eq_true rfl)⟩ dX4_offsetOf_69 (fun _ _ z => False.elim z) (fun v9 ws9 h43 => ?_)))))
              obtain ⟨rfl, hw9⟩ := h43
              subst ws9
              dsimp only [mPush]
              refine r_if_eqB (tgt := 95) hX dX4_offsetOf_72 (by decide) (fun c44 => ?_) (fun c44 => ?_)
              · have c44 := of_decide_eq_false c44
                refine r_aload_n hX dX4_offsetOf_95 rfl rfl (r_callV hX (z_X4_no ad ae cs K S 0 rest) kv_X4_80 14 rfl rfl rfl rfl (Nat.le_of_ble_eq_true rfl) ⟨(Nat.le_of_ble_eq_true rfl), (Nat.le_of_ble_eq_true rfl)⟩ ⟨(Nat.le_of_ble_eq_true rfl), (Nat.le_of_ble_eq_true rfl)⟩ dX4_offsetOf_96 (fun _ _ z => False.elim z) (fun v9 ws9 h45 => ?_))
                obtain ⟨rfl, hw9⟩ := h45
                subst ws9
                dsimp only [mPush]
                refine r_iret hX hE dX4_offsetOf_99 (Nat.le_of_ble_eq_true rfl) (Nat.le_of_ble_eq_true rfl) ⟨_, rfl, Or.inl ⟨by omega, ?_⟩⟩
                unfold oOff
                rw [if_neg (by omega)]
                exact ⟨rfl, rfl⟩
              · have c44 := of_decide_eq_true c44
                refine r_iload hX dX4_offsetOf_75 rfl (r_i2lZ hX dX4_offsetOf_77 (by first | with_reducible assumption | decide | omega) (r_ldc2Z (z := -59) hX kc_X4_76 (by decide +kernel) dX4_offsetOf_78 (r_ldc2Z (z := 59) hX kc_X4_78 (by decide +kernel) dX4_offsetOf_81 (r_callS hX (z_X4_isIn _ _ _ _ _ (by first | with_reducible assumption | decide | omega) (by first | with_reducible assumption | decide | omega) (by first | with_reducible assumption | decide | omega)) ks_X4_38 rfl rfl (Nat.le_of_ble_eq_true rfl) ⟨(Nat.le_of_ble_eq_true rfl), (Nat.le_of_ble_eq_true rfl)⟩ ⟨(Nat.le_of_ble_eq_true rfl), (Nat.le_of_ble_eq_true rfl)⟩ dX4_offsetOf_84 (fun _ _ z => False.elim z) (fun v9 ws9 h46 => ?_)))))
                obtain ⟨rfl, hw9⟩ := h46
                subst ws9
                dsimp only [mPush]
                refine r_if_eqB (tgt := 95) hX dX4_offsetOf_87 (by decide) (fun c47 => ?_) (fun c47 => ?_)
                · have c47 := of_decide_eq_false c47
                  refine r_aload_n hX dX4_offsetOf_95 rfl rfl (r_callV hX (z_X4_no ad ae cs K S 0 rest) kv_X4_80 14 rfl rfl rfl rfl (Nat.le_of_ble_eq_true rfl) ⟨(Nat.le_of_ble_eq_true rfl), (Nat.le_of_ble_eq_true rfl)⟩ ⟨(Nat.le_of_ble_eq_true rfl), (Nat.le_of_ble_eq_true rfl)⟩ dX4_offsetOf_96 (fun _ _ z => False.elim z) (fun v9 ws9 h48 => ?_))
                  obtain ⟨rfl, hw9⟩ := h48
                  subst ws9
                  dsimp only [mPush]
                  refine r_iret hX hE dX4_offsetOf_99 (Nat.le_of_ble_eq_true rfl) (Nat.le_of_ble_eq_true rfl) ⟨_, rfl, Or.inl ⟨by omega, ?_⟩⟩
                  unfold oOff
                  rw [if_neg (by omega)]
                  exact ⟨rfl, rfl⟩
                · have c47 := of_decide_eq_true c47
                  refine r_iload hX dX4_offsetOf_90 rfl (r_if_eqZ (tgt := 100) hX dX4_offsetOf_92 (by decide) (by decide) (fun q => absurd q (by decide)) (fun _ => ?_))
                  refine r_aload_n hX dX4_offsetOf_95 rfl rfl (r_callV hX (z_X4_no ad ae cs K S 0 rest) kv_X4_80 14 rfl rfl rfl rfl (Nat.le_of_ble_eq_true rfl) ⟨(Nat.le_of_ble_eq_true rfl), (Nat.le_of_ble_eq_true rfl)⟩ ⟨(Nat.le_of_ble_eq_true rfl), (Nat.le_of_ble_eq_true rfl)⟩ dX4_offsetOf_96 (fun _ _ z => False.elim z) (fun v9 ws9 h49 => ?_))
                  obtain ⟨rfl, hw9⟩ := h49
                  subst ws9
                  dsimp only [mPush]
                  refine r_iret hX hE dX4_offsetOf_99 (Nat.le_of_ble_eq_true rfl) (Nat.le_of_ble_eq_true rfl) ⟨_, rfl, Or.inl ⟨by omega, ?_⟩⟩
                  unfold oOff
                  rw [if_neg (by omega)]
                  exact ⟨rfl, rfl⟩
    · refine r_iload_n hX dX4_offsetOf_18 rfl rfl (r_if_gtZ (tgt := 27) hX dX4_offsetOf_19 (by decide) (by first | with_reducible assumption | decide | omega) (fun c50 => ?_) (fun c50 => ?_))
      · refine r_iload_n hX dX4_offsetOf_27 rfl rfl (r_if_ltZ (tgt := 40) hX dX4_offsetOf_28 (by decide) (by first | with_reducible assumption | decide | omega) (fun c51 => ?_) (fun c51 => ?_))
        · refine r_iconstZ hX dX4_offsetOf_40 (r_goto (tgt := 45) hX dX4_offsetOf_41 (by decide) (r_istore hX dX4_offsetOf_45 (by decide) rfl (r_iload_n hX dX4_offsetOf_47 rfl rfl (r_i2lZ hX dX4_offsetOf_48 (by first | with_reducible assumption | decide | omega) (r_ldc2Z (z := -18) hX kc_X4_72 (by decide +kernel) dX4_offsetOf_49 (r_ldc2Z (z := 18) hX kc_X4_74 (by decide +kernel) dX4_offsetOf_52 (r_callS hX (z_X4_isIn _ _ _ _ _ (by first | with_reducible assumption | decide | omega) (by first | with_reducible assumption | decide | omega) (by first | with_reducible assumption | decide | omega)) ks_X4_38 rfl rfl (Nat.le_of_ble_eq_true rfl) ⟨(Nat.le_of_ble_eq_true rfl), (Nat.le_of_ble_eq_true rfl)⟩ ⟨(Nat.le_of_ble_eq_true rfl), (Nat.le_of_ble_eq_true rfl)⟩ dX4_offsetOf_55 (fun _ _ z => False.elim z) (fun v9 ws9 h52 => ?_))))))))
          obtain ⟨rfl, hw9⟩ := h52
          subst ws9
          dsimp only [mPush]
          refine r_if_eqB (tgt := 95) hX dX4_offsetOf_58 (by decide) (fun c53 => ?_) (fun c53 => ?_)
          · have c53 := of_decide_eq_false c53
            refine r_aload_n hX dX4_offsetOf_95 rfl rfl (r_callV hX (z_X4_no ad ae cs K S 0 rest) kv_X4_80 14 rfl rfl rfl rfl (Nat.le_of_ble_eq_true rfl) ⟨(Nat.le_of_ble_eq_true rfl), (Nat.le_of_ble_eq_true rfl)⟩ ⟨(Nat.le_of_ble_eq_true rfl), (Nat.le_of_ble_eq_true rfl)⟩ dX4_offsetOf_96 (fun _ _ z => False.elim z) (fun v9 ws9 h54 => ?_))
            obtain ⟨rfl, hw9⟩ := h54
            subst ws9
            dsimp only [mPush]
            refine r_iret hX hE dX4_offsetOf_99 (Nat.le_of_ble_eq_true rfl) (Nat.le_of_ble_eq_true rfl) ⟨_, rfl, Or.inl ⟨by omega, ?_⟩⟩
            unfold oOff
            rw [if_neg (by omega)]
            exact ⟨rfl, rfl⟩
          · have c53 := of_decide_eq_true c53
            refine r_iload_n hX dX4_offsetOf_61 rfl rfl (r_i2lZ hX dX4_offsetOf_62 (by first | with_reducible assumption | decide | omega) (r_ldc2Z (z := -59) hX kc_X4_76 (by decide +kernel) dX4_offsetOf_63 (r_ldc2Z (z := 59) hX kc_X4_78 (by decide +kernel) dX4_offsetOf_66 (r_callS hX (z_X4_isIn _ _ _ _ _ (by first | with_reducible assumption | decide | omega) (by first | with_reducible assumption | decide | omega) (by first | with_reducible assumption | decide | omega)) ks_X4_38 rfl rfl (Nat.le_of_ble_eq_true rfl) ⟨(Nat.le_of_ble_eq_true rfl), (Nat.le_of_ble_eq_true rfl)⟩ ⟨(Nat.le_of_ble_eq_true rfl), (Nat.le_of_ble_eq_true rfl)⟩ dX4_offsetOf_69 (fun _ _ z => False.elim z) (fun v9 ws9 h55 => ?_)))))
            obtain ⟨rfl, hw9⟩ := h55
            subst ws9
            dsimp only [mPush]
            refine r_if_eqB (tgt := 95) hX dX4_offsetOf_72 (by decide) (fun c56 => ?_) (fun c56 => ?_)
            · have c56 := of_decide_eq_false c56
              refine r_aload_n hX dX4_offsetOf_95 rfl rfl (r_callV hX (z_X4_no ad ae cs K S 0 rest) kv_X4_80 14 rfl rfl rfl rfl (Nat.le_of_ble_eq_true rfl) ⟨(Nat.le_of_ble_eq_true rfl), (Nat.le_of_ble_eq_true rfl)⟩ ⟨(Nat.le_of_ble_eq_true rfl), (Nat.le_of_ble_eq_true rfl)⟩ dX4_offsetOf_96 (fun _ _ z => False.elim z) (fun v9 ws9 h57 => ?_))
              obtain ⟨rfl, hw9⟩ := h57
              subst ws9
              dsimp only [mPush]
              refine r_iret hX hE dX4_offsetOf_99 (Nat.le_of_ble_eq_true rfl) (Nat.le_of_ble_eq_true rfl) ⟨_, rfl, Or.inl ⟨by omega, ?_⟩⟩
              unfold oOff
              rw [if_neg (by omega)]
              exact ⟨rfl, rfl⟩
            · have c56 := of_decide_eq_true c56
              refine r_iload hX dX4_offsetOf_75 rfl (r_i2lZ hX dX4_offsetOf_77 (by first | with_reducible assumption | decide | omega) (r_ldc2Z (z := -59) hX kc_X4_76 (by decide +kernel) dX4_offsetOf_78 (r_ldc2Z (z := 59) hX kc_X4_78 (by decide +kernel) dX4_offsetOf_81 (r_callS hX (z_X4_isIn _ _ _ _ _ (by first | with_reducible assumption | decide | omega) (by first | with_reducible assumption | decide | omega) (by first | with_reducible assumption | decide | omega)) ks_X4_38 rfl rfl (Nat.le_of_ble_eq_true rfl) ⟨(Nat.le_of_ble_eq_true rfl), (Nat.le_of_ble_eq_true rfl)⟩ ⟨(Nat.le_of_ble_eq_true rfl), (Nat.le_of_ble_eq_true rfl)⟩ dX4_offsetOf_84 (fun _ _ z => False.elim z) (fun v9 ws9 h58 => ?_)))))
              obtain ⟨rfl, hw9⟩ := h58
              subst ws9
              dsimp only [mPush]
              refine r_if_eqB (tgt := 95) hX dX4_offsetOf_87 (by decide) (fun c59 => ?_) (fun c59 => ?_)
              · have c59 := of_decide_eq_false c59
                refine r_aload_n hX dX4_offsetOf_95 rfl rfl (r_callV hX (z_X4_no ad ae cs K S 0 rest) kv_X4_80 14 rfl rfl rfl rfl (Nat.le_of_ble_eq_true rfl) ⟨(Nat.le_of_ble_eq_true rfl), (Nat.le_of_ble_eq_true rfl)⟩ ⟨(Nat.le_of_ble_eq_true rfl), (Nat.le_of_ble_eq_true rfl)⟩ dX4_offsetOf_96 (fun _ _ z => False.elim z) (fun v9 ws9 h60 => ?_))
                obtain ⟨rfl, hw9⟩ := h60
                subst ws9
                dsimp only [mPush]
                refine r_iret hX hE dX4_offsetOf_99 (Nat.le_of_ble_eq_true rfl) (Nat.le_of_ble_eq_true rfl) ⟨_, rfl, Or.inl ⟨by omega, ?_⟩⟩
                unfold oOff
                rw [if_neg (by omega)]
                exact ⟨rfl, rfl⟩
              · have c59 := of_decide_eq_true c59
                refine r_iload hX dX4_offsetOf_90 rfl (r_if_eqZ (tgt := 100) hX dX4_offsetOf_92 (by decide) (by decide) (fun q => absurd q (by decide)) (fun _ => ?_))
                refine r_aload_n hX dX4_offsetOf_95 rfl rfl (r_callV hX (z_X4_no ad ae cs K S 0 rest) kv_X4_80 14 rfl rfl rfl rfl (Nat.le_of_ble_eq_true rfl) ⟨(Nat.le_of_ble_eq_true rfl), (Nat.le_of_ble_eq_true rfl)⟩ ⟨(Nat.le_of_ble_eq_true rfl), (Nat.le_of_ble_eq_true rfl)⟩ dX4_offsetOf_96 (fun _ _ z => False.elim z) (fun v9 ws9 h61 => ?_))
                obtain ⟨rfl, hw9⟩ := h61
                subst ws9
                dsimp only [mPush]
                refine r_iret hX hE dX4_offsetOf_99 (Nat.le_of_ble_eq_true rfl) (Nat.le_of_ble_eq_true rfl) ⟨_, rfl, Or.inl ⟨by omega, ?_⟩⟩
                unfold oOff
                rw [if_neg (by omega)]
                exact ⟨rfl, rfl⟩
        · refine r_iload_n hX dX4_offsetOf_31 rfl rfl (r_if_ltZ (tgt := 40) hX dX4_offsetOf_32 (by decide) (by first | with_reducible assumption | decide | omega) (fun c62 => ?_) (fun c62 => ?_))
          · refine r_iconstZ hX dX4_offsetOf_40 (r_goto (tgt := 45) hX dX4_offsetOf_41 (by decide) (r_istore hX dX4_offsetOf_45 (by decide) rfl (r_iload_n hX dX4_offsetOf_47 rfl rfl (r_i2lZ hX dX4_offsetOf_48 (by first | with_reducible assumption | decide | omega) (r_ldc2Z (z := -18) hX kc_X4_72 (by decide +kernel) dX4_offsetOf_49 (r_ldc2Z (z := 18) hX kc_X4_74 (by decide +kernel) dX4_offsetOf_52 (r_callS hX (z_X4_isIn _ _ _ _ _ (by first | with_reducible assumption | decide | omega) (by first | with_reducible assumption | decide | omega) (by first | with_reducible assumption | decide | omega)) ks_X4_38 rfl rfl (Nat.le_of_ble_eq_true rfl) ⟨(Nat.le_of_ble_eq_true rfl), (Nat.le_of_ble_eq_true rfl)⟩ ⟨(Nat.le_of_ble_eq_true rfl), (Nat.le_of_ble_eq_true rfl)⟩ dX4_offsetOf_55 (fun _ _ z => False.elim z) (fun v9 ws9 h63 => ?_))))))))
            obtain ⟨rfl, hw9⟩ := h63
            subst ws9
            dsimp only [mPush]
            refine r_if_eqB (tgt := 95) hX dX4_offsetOf_58 (by decide) (fun c64 => ?_) (fun c64 => ?_)
            · have c64 := of_decide_eq_false c64
              refine r_aload_n hX dX4_offsetOf_95 rfl rfl (r_callV hX (z_X4_no ad ae cs K S 0 rest) kv_X4_80 14 rfl rfl rfl rfl (Nat.le_of_ble_eq_true rfl) ⟨(Nat.le_of_ble_eq_true rfl), (Nat.le_of_ble_eq_true rfl)⟩ ⟨(Nat.le_of_ble_eq_true rfl), (Nat.le_of_ble_eq_true rfl)⟩ dX4_offsetOf_96 (fun _ _ z => False.elim z) (fun v9 ws9 h65 => ?_))
              obtain ⟨rfl, hw9⟩ := h65
              subst ws9
              dsimp only [mPush]
              refine r_iret hX hE dX4_offsetOf_99 (Nat.le_of_ble_eq_true rfl) (Nat.le_of_ble_eq_true rfl) ⟨_, rfl, Or.inl ⟨by omega, ?_⟩⟩
              unfold oOff
              rw [if_neg (by omega)]
              exact ⟨rfl, rfl⟩
            · have c64 := of_decide_eq_true c64
              refine r_iload_n hX dX4_offsetOf_61 rfl rfl (r_i2lZ hX dX4_offsetOf_62 (by first | with_reducible assumption | decide | omega) (r_ldc2Z (z := -59) hX kc_X4_76 (by decide +kernel) dX4_offsetOf_63 (r_ldc2Z (z := 59) hX kc_X4_78 (by decide +kernel) dX4_offsetOf_66 (r_callS hX (z_X4_isIn _ _ _ _ _ (by first | with_reducible assumption | decide | omega) (by first | with_reducible assumption | decide | omega) (by first | with_reducible assumption | decide | omega)) ks_X4_38 rfl rfl (Nat.le_of_ble_eq_true rfl) ⟨(Nat.le_of_ble_eq_true rfl), (Nat.le_of_ble_eq_true rfl)⟩ ⟨(Nat.le_of_ble_eq_true rfl), (Nat.le_of_ble_eq_true rfl)⟩ dX4_offsetOf_69 (fun _ _ z => False.elim z) (fun v9 ws9 h66 => ?_)))))
              obtain ⟨rfl, hw9⟩ := h66
              subst ws9
              dsimp only [mPush]
              refine r_if_eqB (tgt := 95) hX dX4_offsetOf_72 (by decide) (fun c67 => ?_) (fun c67 => ?_)
              · have c67 := of_decide_eq_false c67
                refine r_aload_n hX dX4_offsetOf_95 rfl rfl (r_callV hX (z_X4_no ad ae cs K S 0 rest) kv_X4_80 14 rfl rfl rfl rfl (Nat.le_of_ble_eq_true rfl) ⟨(Nat.le_of_ble_eq_true rfl), (Nat.le_of_ble_eq_true rfl)⟩ ⟨(Nat.le_of_ble_eq_true rfl), (Nat.le_of_ble_eq_true rfl)⟩ dX4_offsetOf_96 (fun _ _ z => False.elim z) (fun v9 ws9 h68 => ?_))
                obtain ⟨rfl, hw9⟩ := h68
                subst ws9
                dsimp only [mPush]
                refine r_iret hX hE dX4_offsetOf_99 (Nat.le_of_ble_eq_true rfl) (Nat.le_of_ble_eq_true rfl) ⟨_, rfl, Or.inl ⟨by omega, ?_⟩⟩
                unfold oOff
                rw [if_neg (by omega)]
                exact ⟨rfl, rfl⟩
              · have c67 := of_decide_eq_true c67
                refine r_iload hX dX4_offsetOf_75 rfl (r_i2lZ hX dX4_offsetOf_77 (by first | with_reducible assumption | decide | omega) (r_ldc2Z (z := -59) hX kc_X4_76 (by decide +kernel) dX4_offsetOf_78 (r_ldc2Z (z := 59) hX kc_X4_78 (by decide +kernel) dX4_offsetOf_81 (r_callS hX (z_X4_isIn _ _ _ _ _ (by first | with_reducible assumption | decide | omega) (by first | with_reducible assumption | decide | omega) (by first | with_reducible assumption | decide | omega)) ks_X4_38 rfl rfl (Nat.le_of_ble_eq_true rfl) ⟨(Nat.le_of_ble_eq_true rfl), (Nat.le_of_ble_eq_true rfl)⟩ ⟨(Nat.le_of_ble_eq_true rfl), (Nat.le_of_ble_eq_true rfl)⟩ dX4_offsetOf_84 (fun _ _ z => False.elim z) (fun v9 ws9 h69 => ?_)))))
                obtain ⟨rfl, hw9⟩ := h69
                subst ws9
                dsimp only [mPush]
                refine r_if_eqB (tgt := 95) hX dX4_offsetOf_87 (by decide) (fun c70 => ?_) (fun c70 => ?_)
                · have c70 := of_decide_eq_false c70
                  refine r_aload_n hX dX4_offsetOf_95 rfl rfl (r_callV hX (z_X4_no ad ae cs K S 0 rest) kv_X4_80 14 rfl rfl rfl rfl (Nat.le_of_ble_eq_true rfl) ⟨(Nat.le_of_ble_eq_true rfl), (Nat.le_of_ble_eq_true rfl)⟩ ⟨(Nat.le_of_ble_eq_true rfl), (Nat.le_of_ble_eq_true rfl)⟩ dX4_offsetOf_96 (fun _ _ z => False.elim z) (fun v9 ws9 h71 => ?_))
                  obtain ⟨rfl, hw9⟩ := h71
                  subst ws9
                  dsimp only [mPush]
                  refine r_iret hX hE dX4_offsetOf_99 (Nat.le_of_ble_eq_true rfl) (Nat.le_of_ble_eq_true rfl) ⟨_, rfl, Or.inl ⟨by omega, ?_⟩⟩
                  unfold oOff
                  rw [if_neg (by omega)]
                  exact ⟨rfl, rfl⟩
                · have c70 := of_decide_eq_true c70
                  refine r_iload hX dX4_offsetOf_90 rfl (r_if_eqZ (tgt := 100) hX dX4_offsetOf_92 (by decide) (by decide) (fun q => absurd q (by decide)) (fun _ => ?_))
                  refine r_aload_n hX dX4_offsetOf_95 rfl rfl (r_callV hX (z_X4_no ad ae cs K S 0 rest) kv_X4_80 14 rfl rfl rfl rfl (Nat.le_of_ble_eq_true rfl) ⟨(Nat.le_of_ble_eq_true rfl), (Nat.le_of_ble_eq_true rfl)⟩ ⟨(Nat.le_of_ble_eq_true rfl), (Nat.le_of_ble_eq_true rfl)⟩ dX4_offsetOf_96 (fun _ _ z => False.elim z) (fun v9 ws9 h72 => ?_))
                  obtain ⟨rfl, hw9⟩ := h72
                  subst ws9
                  dsimp only [mPush]
                  refine r_iret hX hE dX4_offsetOf_99 (Nat.le_of_ble_eq_true rfl) (Nat.le_of_ble_eq_true rfl) ⟨_, rfl, Or.inl ⟨by omega, ?_⟩⟩
                  unfold oOff
                  rw [if_neg (by omega)]
                  exact ⟨rfl, rfl⟩
          · refine r_iload hX dX4_offsetOf_35 rfl (r_if_geZ (tgt := 44) hX dX4_offsetOf_37 (by decide) (by first | with_reducible assumption | decide | omega) (fun c73 => ?_) (fun c73 => ?_))
            · refine r_iconstZ hX dX4_offsetOf_44 (r_istore hX dX4_offsetOf_45 (by decide) rfl (r_iload_n hX dX4_offsetOf_47 rfl rfl (r_i2lZ hX dX4_offsetOf_48 (by first | with_reducible assumption | decide | omega) (r_ldc2Z (z := -18) hX kc_X4_72 (by decide +kernel) dX4_offsetOf_49 (r_ldc2Z (z := 18) hX kc_X4_74 (by decide +kernel) dX4_offsetOf_52 (r_callS hX (z_X4_isIn _ _ _ _ _ (by first | with_reducible assumption | decide | omega) (by first | with_reducible assumption | decide | omega) (by first | with_reducible assumption | decide | omega)) ks_X4_38 rfl rfl (Nat.le_of_ble_eq_true rfl) ⟨(Nat.le_of_ble_eq_true rfl), (Nat.le_of_ble_eq_true rfl)⟩ ⟨(Nat.le_of_ble_eq_true rfl), (Nat.le_of_ble_eq_true rfl)⟩ dX4_offsetOf_55 (fun _ _ z => False.elim z) (fun v9 ws9 h74 => ?_)))))))
              obtain ⟨rfl, hw9⟩ := h74
              subst ws9
              dsimp only [mPush]
              refine r_if_eqB (tgt := 95) hX dX4_offsetOf_58 (by decide) (fun c75 => ?_) (fun c75 => ?_)
              · have c75 := of_decide_eq_false c75
                refine r_aload_n hX dX4_offsetOf_95 rfl rfl (r_callV hX (z_X4_no ad ae cs K S 0 rest) kv_X4_80 14 rfl rfl rfl rfl (Nat.le_of_ble_eq_true rfl) ⟨(Nat.le_of_ble_eq_true rfl), (Nat.le_of_ble_eq_true rfl)⟩ ⟨(Nat.le_of_ble_eq_true rfl), (Nat.le_of_ble_eq_true rfl)⟩ dX4_offsetOf_96 (fun _ _ z => False.elim z) (fun v9 ws9 h76 => ?_))
                obtain ⟨rfl, hw9⟩ := h76
                subst ws9
                dsimp only [mPush]
                refine r_iret hX hE dX4_offsetOf_99 (Nat.le_of_ble_eq_true rfl) (Nat.le_of_ble_eq_true rfl) ⟨_, rfl, Or.inl ⟨by omega, ?_⟩⟩
                unfold oOff
                rw [if_neg (by omega)]
                exact ⟨rfl, rfl⟩
              · have c75 := of_decide_eq_true c75
                refine r_iload_n hX dX4_offsetOf_61 rfl rfl (r_i2lZ hX dX4_offsetOf_62 (by first | with_reducible assumption | decide | omega) (r_ldc2Z (z := -59) hX kc_X4_76 (by decide +kernel) dX4_offsetOf_63 (r_ldc2Z (z := 59) hX kc_X4_78 (by decide +kernel) dX4_offsetOf_66 (r_callS hX (z_X4_isIn _ _ _ _ _ (by first | with_reducible assumption | decide | omega) (by first | with_reducible assumption | decide | omega) (by first | with_reducible assumption | decide | omega)) ks_X4_38 rfl rfl (Nat.le_of_ble_eq_true rfl) ⟨(Nat.le_of_ble_eq_true rfl), (Nat.le_of_ble_eq_true rfl)⟩ ⟨(Nat.le_of_ble_eq_true rfl), (Nat.le_of_ble_eq_true rfl)⟩ dX4_offsetOf_69 (fun _ _ z => False.elim z) (fun v9 ws9 h77 => ?_)))))
                obtain ⟨rfl, hw9⟩ := h77
                subst ws9
                dsimp only [mPush]
                refine r_if_eqB (tgt := 95) hX dX4_offsetOf_72 (by decide) (fun c78 => ?_) (fun c78 => ?_)
                · have c78 := of_decide_eq_false c78
                  refine r_aload_n hX dX4_offsetOf_95 rfl rfl (r_callV hX (z_X4_no ad ae cs K S 0 rest) kv_X4_80 14 rfl rfl rfl rfl (Nat.le_of_ble_eq_true rfl) ⟨(Nat.le_of_ble_eq_true rfl), (Nat.le_of_ble_eq_true rfl)⟩ ⟨(Nat.le_of_ble_eq_true rfl), (Nat.le_of_ble_eq_true rfl)⟩ dX4_offsetOf_96 (fun _ _ z => False.elim z) (fun v9 ws9 h79 => ?_))
                  obtain ⟨rfl, hw9⟩ := h79
                  subst ws9
                  dsimp only [mPush]
                  refine r_iret hX hE dX4_offsetOf_99 (Nat.le_of_ble_eq_true rfl) (Nat.le_of_ble_eq_true rfl) ⟨_, rfl, Or.inl ⟨by omega, ?_⟩⟩
                  unfold oOff
                  rw [if_neg (by omega)]
                  exact ⟨rfl, rfl⟩
                · have c78 := of_decide_eq_true c78
                  refine r_iload hX dX4_offsetOf_75 rfl (r_i2lZ hX dX4_offsetOf_77 (by first | with_reducible assumption | decide | omega) (r_ldc2Z (z := -59) hX kc_X4_76 (by decide +kernel) dX4_offsetOf_78 (r_ldc2Z (z := 59) hX kc_X4_78 (by decide +kernel) dX4_offsetOf_81 (r_callS hX (z_X4_isIn _ _ _ _ _ (by first | with_reducible assumption | decide | omega) (by first | with_reducible assumption | decide | omega) (by first | with_reducible assumption | decide | omega)) ks_X4_38 rfl rfl (Nat.le_of_ble_eq_true rfl) ⟨(Nat.le_of_ble_eq_true rfl), (Nat.le_of_ble_eq_true rfl)⟩ ⟨(Nat.le_of_ble_eq_true rfl), (Nat.le_of_ble_eq_true rfl)⟩ dX4_offsetOf_84 (fun _ _ z => False.elim z) (fun v9 ws9 h80 => ?_)))))
                  obtain ⟨rfl, hw9⟩ := h80
                  subst ws9
                  dsimp only [mPush]
                  refine r_if_eqB (tgt := 95) hX dX4_offsetOf_87 (by decide) (fun c81 => ?_) (fun c81 => ?_)
                  · have c81 := of_decide_eq_false c81
                    refine r_aload_n hX dX4_offsetOf_95 rfl rfl (r_callV hX (z_X4_no ad ae cs K S 0 rest) kv_X4_80 14 rfl rfl rfl rfl (Nat.le_of_ble_eq_true rfl) ⟨(Nat.le_of_ble_eq_true rfl), (Nat.le_of_ble_eq_true rfl)⟩ ⟨(Nat.le_of_ble_eq_true rfl), (Nat.le_of_ble_eq_true rfl)⟩ dX4_offsetOf_96 (fun _ _ z => False.elim z) (fun v9 ws9 h82 => ?_))
                    obtain ⟨rfl, hw9⟩ := h82
                    subst ws9
                    dsimp only [mPush]
                    refine r_iret hX hE dX4_offsetOf_99 (Nat.le_of_ble_eq_true rfl) (Nat.le_of_ble_eq_true rfl) ⟨_, rfl, Or.inl ⟨by omega, ?_⟩⟩
                    unfold oOff
                    rw [if_neg (by omega)]
                    exact ⟨rfl, rfl⟩
                  · have c81 := of_decide_eq_true c81
                    refine r_iload hX dX4_offsetOf_90 rfl (r_if_eqZ (tgt := 100) hX dX4_offsetOf_92 (by decide) (by decide) (fun _ => ?_) (fun q => absurd (by decide) q))
                    refine r_sipushZ hX dX4_offsetOf_100 (by decide +kernel) (r_iload_n hX dX4_offsetOf_103 rfl rfl (r_imulZ hX dX4_offsetOf_104 (r_bipushZ hX dX4_offsetOf_105 (by decide +kernel) (r_iload_n hX dX4_offsetOf_107 rfl rfl (r_imulZ hX dX4_offsetOf_108 (r_iaddZ hX dX4_offsetOf_109 (r_iload hX dX4_offsetOf_110 rfl ?_)))))))
                    refine r_iaddZ hX dX4_offsetOf_112 (r_istore hX dX4_offsetOf_113 (by decide) rfl (r_iload hX dX4_offsetOf_115 rfl (r_i2lZ hX dX4_offsetOf_117 (by first | with_reducible assumption | decide | omega) (r_ldc2Z (z := -64800) hX kc_X4_64 (by decide +kernel) dX4_offsetOf_118 (r_ldc2Z (z := 64800) hX kc_X4_66 (by decide +kernel) dX4_offsetOf_121 (r_callS hX (z_X4_isIn _ _ _ _ _ (by first | with_reducible assumption | decide | omega) (by first | with_reducible assumption | decide | omega) (by first | with_reducible assumption | decide | omega)) ks_X4_38 rfl rfl (Nat.le_of_ble_eq_true rfl) ⟨(Nat.le_of_ble_eq_true rfl), (Nat.le_of_ble_eq_true rfl)⟩ ⟨(Nat.le_of_ble_eq_true rfl), (Nat.le_of_ble_eq_true rfl)⟩ dX4_offsetOf_124 (fun _ _ z => False.elim z) (fun v9 ws9 h83 => ?_)))))))
                    obtain ⟨rfl, hw9⟩ := h83
                    subst ws9
                    dsimp only [mPush]
                    refine r_if_neB (tgt := 135) hX dX4_offsetOf_127 (by decide) (fun c84 => ?_) (fun c84 => ?_)
                    · have c84 := of_decide_eq_true c84
                      refine r_aload_n hX dX4_offsetOf_135 rfl rfl (r_get hX kf_X4_7 14 rfl rfl dX4_offsetOf_136 (r_iload_n hX dX4_offsetOf_139 rfl rfl (r_iload hX dX4_offsetOf_140 rfl (r_iastZ hX 15 0 rfl rfl (a0).toNat (by first | with_reducible assumption | decide | omega) (by first | with_reducible assumption | decide | omega) (by decide) dX4_offsetOf_142 (r_eqw (zRw_off (j := (a0).toNat) (z := ((3600 * a1) + (60 * a2)) + a3)) (r_iload hX dX4_offsetOf_143 rfl (r_iret hX hE dX4_offsetOf_145 (Nat.le_of_ble_eq_true rfl) (Nat.le_of_ble_eq_true rfl) ⟨_, rfl, Or.inl ⟨by omega, ?_⟩⟩)))))))
                      unfold oOff
                      rw [if_pos (by omega), show a1 * 3600 + a2 * 60 + a3 = 3600 * a1 + 60 * a2 + a3 by omega]
                      exact ⟨rfl, rfl⟩
                    · have c84 := of_decide_eq_false c84
                      refine r_aload_n hX dX4_offsetOf_130 rfl rfl (r_callV hX (z_X4_no ad ae cs K S 0 rest) kv_X4_80 14 rfl rfl rfl rfl (Nat.le_of_ble_eq_true rfl) ⟨(Nat.le_of_ble_eq_true rfl), (Nat.le_of_ble_eq_true rfl)⟩ ⟨(Nat.le_of_ble_eq_true rfl), (Nat.le_of_ble_eq_true rfl)⟩ dX4_offsetOf_131 (fun _ _ z => False.elim z) (fun v9 ws9 h85 => ?_))
                      obtain ⟨rfl, hw9⟩ := h85
                      subst ws9
                      dsimp only [mPush]
                      refine r_iret hX hE dX4_offsetOf_134 (Nat.le_of_ble_eq_true rfl) (Nat.le_of_ble_eq_true rfl) ⟨_, rfl, Or.inl ⟨by omega, ?_⟩⟩
                      unfold oOff
                      rw [if_neg (by omega)]
                      exact ⟨rfl, rfl⟩
            · refine r_iconstZ hX dX4_offsetOf_40 (r_goto (tgt := 45) hX dX4_offsetOf_41 (by decide) (r_istore hX dX4_offsetOf_45 (by decide) rfl (r_iload_n hX dX4_offsetOf_47 rfl rfl (r_i2lZ hX dX4_offsetOf_48 (by first | with_reducible assumption | decide | omega) (r_ldc2Z (z := -18) hX kc_X4_72 (by decide +kernel) dX4_offsetOf_49 (r_ldc2Z (z := 18) hX kc_X4_74 (by decide +kernel) dX4_offsetOf_52 (r_callS hX (z_X4_isIn _ _ _ _ _ (by first | with_reducible assumption | decide | omega) (by first | with_reducible assumption | decide | omega) (by first | with_reducible assumption | decide | omega)) ks_X4_38 rfl rfl (Nat.le_of_ble_eq_true rfl) ⟨(Nat.le_of_ble_eq_true rfl), (Nat.le_of_ble_eq_true rfl)⟩ ⟨(Nat.le_of_ble_eq_true rfl), (Nat.le_of_ble_eq_true rfl)⟩ dX4_offsetOf_55 (fun _ _ z => False.elim z) (fun v9 ws9 h86 => ?_))))))))
              obtain ⟨rfl, hw9⟩ := h86
              subst ws9
              dsimp only [mPush]
              refine r_if_eqB (tgt := 95) hX dX4_offsetOf_58 (by decide) (fun c87 => ?_) (fun c87 => ?_)
              · have c87 := of_decide_eq_false c87
                refine r_aload_n hX dX4_offsetOf_95 rfl rfl (r_callV hX (z_X4_no ad ae cs K S 0 rest) kv_X4_80 14 rfl rfl rfl rfl (Nat.le_of_ble_eq_true rfl) ⟨(Nat.le_of_ble_eq_true rfl), (Nat.le_of_ble_eq_true rfl)⟩ ⟨(Nat.le_of_ble_eq_true rfl), (Nat.le_of_ble_eq_true rfl)⟩ dX4_offsetOf_96 (fun _ _ z => False.elim z) (fun v9 ws9 h88 => ?_))
                obtain ⟨rfl, hw9⟩ := h88
                subst ws9
                dsimp only [mPush]
                refine r_iret hX hE dX4_offsetOf_99 (Nat.le_of_ble_eq_true rfl) (Nat.le_of_ble_eq_true rfl) ⟨_, rfl, Or.inl ⟨by omega, ?_⟩⟩
                unfold oOff
                rw [if_neg (by omega)]
                exact ⟨rfl, rfl⟩
              · have c87 := of_decide_eq_true c87
                refine r_iload_n hX dX4_offsetOf_61 rfl rfl (r_i2lZ hX dX4_offsetOf_62 (by first | with_reducible assumption | decide | omega) (r_ldc2Z (z := -59) hX kc_X4_76 (by decide +kernel) dX4_offsetOf_63 (r_ldc2Z (z := 59) hX kc_X4_78 (by decide +kernel) dX4_offsetOf_66 (r_callS hX (z_X4_isIn _ _ _ _ _ (by first | with_reducible assumption | decide | omega) (by first | with_reducible assumption | decide | omega) (by first | with_reducible assumption | decide | omega)) ks_X4_38 rfl rfl (Nat.le_of_ble_eq_true rfl) ⟨(Nat.le_of_ble_eq_true rfl), (Nat.le_of_ble_eq_true rfl)⟩ ⟨(Nat.le_of_ble_eq_true rfl), (Nat.le_of_ble_eq_true rfl)⟩ dX4_offsetOf_69 (fun _ _ z => False.elim z) (fun v9 ws9 h89 => ?_)))))
                obtain ⟨rfl, hw9⟩ := h89
                subst ws9
                dsimp only [mPush]
                refine r_if_eqB (tgt := 95) hX dX4_offsetOf_72 (by decide) (fun c90 => ?_) (fun c90 => ?_)
                · have c90 := of_decide_eq_false c90
                  refine r_aload_n hX dX4_offsetOf_95 rfl rfl (r_callV hX (z_X4_no ad ae cs K S 0 rest) kv_X4_80 14 rfl rfl rfl rfl (Nat.le_of_ble_eq_true rfl) ⟨(Nat.le_of_ble_eq_true rfl), (Nat.le_of_ble_eq_true rfl)⟩ ⟨(Nat.le_of_ble_eq_true rfl), (Nat.le_of_ble_eq_true rfl)⟩ dX4_offsetOf_96 (fun _ _ z => False.elim z) (fun v9 ws9 h91 => ?_))
                  obtain ⟨rfl, hw9⟩ := h91
                  subst ws9
                  dsimp only [mPush]
                  refine r_iret hX hE dX4_offsetOf_99 (Nat.le_of_ble_eq_true rfl) (Nat.le_of_ble_eq_true rfl) ⟨_, rfl, Or.inl ⟨by omega, ?_⟩⟩
                  unfold oOff
                  rw [if_neg (by omega)]
                  exact ⟨rfl, rfl⟩
                · have c90 := of_decide_eq_true c90
                  refine r_iload hX dX4_offsetOf_75 rfl (r_i2lZ hX dX4_offsetOf_77 (by first | with_reducible assumption | decide | omega) (r_ldc2Z (z := -59) hX kc_X4_76 (by decide +kernel) dX4_offsetOf_78 (r_ldc2Z (z := 59) hX kc_X4_78 (by decide +kernel) dX4_offsetOf_81 (r_callS hX (z_X4_isIn _ _ _ _ _ (by first | with_reducible assumption | decide | omega) (by first | with_reducible assumption | decide | omega) (by first | with_reducible assumption | decide | omega)) ks_X4_38 rfl rfl (Nat.le_of_ble_eq_true rfl) ⟨(Nat.le_of_ble_eq_true rfl), (Nat.le_of_ble_eq_true rfl)⟩ ⟨(Nat.le_of_ble_eq_true rfl), (Nat.le_of_ble_eq_true rfl)⟩ dX4_offsetOf_84 (fun _ _ z => False.elim z) (fun v9 ws9 h92 => ?_)))))
                  obtain ⟨rfl, hw9⟩ := h92
                  subst ws9
                  dsimp only [mPush]
                  refine r_if_eqB (tgt := 95) hX dX4_offsetOf_87 (by decide) (fun c93 => ?_) (fun c93 => ?_)
                  · have c93 := of_decide_eq_false c93
                    refine r_aload_n hX dX4_offsetOf_95 rfl rfl (r_callV hX (z_X4_no ad ae cs K S 0 rest) kv_X4_80 14 rfl rfl rfl rfl (Nat.le_of_ble_eq_true rfl) ⟨(Nat.le_of_ble_eq_true rfl), (Nat.le_of_ble_eq_true rfl)⟩ ⟨(Nat.le_of_ble_eq_true rfl), (Nat.le_of_ble_eq_true rfl)⟩ dX4_offsetOf_96 (fun _ _ z => False.elim z) (fun v9 ws9 h94 => ?_))
                    obtain ⟨rfl, hw9⟩ := h94
                    subst ws9
                    dsimp only [mPush]
                    refine r_iret hX hE dX4_offsetOf_99 (Nat.le_of_ble_eq_true rfl) (Nat.le_of_ble_eq_true rfl) ⟨_, rfl, Or.inl ⟨by omega, ?_⟩⟩
                    unfold oOff
                    rw [if_neg (by omega)]
                    exact ⟨rfl, rfl⟩
                  · have c93 := of_decide_eq_true c93
                    refine r_iload hX dX4_offsetOf_90 rfl (r_if_eqZ (tgt := 100) hX dX4_offsetOf_92 (by decide) (by decide) (fun q => absurd q (by decide)) (fun _ => ?_))
                    refine r_aload_n hX dX4_offsetOf_95 rfl rfl (r_callV hX (z_X4_no ad ae cs K S 0 rest) kv_X4_80 14 rfl rfl rfl rfl (Nat.le_of_ble_eq_true rfl) ⟨(Nat.le_of_ble_eq_true rfl), (Nat.le_of_ble_eq_true rfl)⟩ ⟨(Nat.le_of_ble_eq_true rfl), (Nat.le_of_ble_eq_true rfl)⟩ dX4_offsetOf_96 (fun _ _ z => False.elim z) (fun v9 ws9 h95 => ?_))
                    obtain ⟨rfl, hw9⟩ := h95
                    subst ws9
                    dsimp only [mPush]
                    refine r_iret hX hE dX4_offsetOf_99 (Nat.le_of_ble_eq_true rfl) (Nat.le_of_ble_eq_true rfl) ⟨_, rfl, Or.inl ⟨by omega, ?_⟩⟩
                    unfold oOff
                    rw [if_neg (by omega)]
                    exact ⟨rfl, rfl⟩
      · refine r_iload hX dX4_offsetOf_22 rfl (r_if_leZ (tgt := 44) hX dX4_offsetOf_24 (by decide) (by first | with_reducible assumption | decide | omega) (fun c96 => ?_) (fun c96 => ?_))
        · refine r_iconstZ hX dX4_offsetOf_44 (r_istore hX dX4_offsetOf_45 (by decide) rfl (r_iload_n hX dX4_offsetOf_47 rfl rfl (r_i2lZ hX dX4_offsetOf_48 (by first | with_reducible assumption | decide | omega) (r_ldc2Z (z := -18) hX kc_X4_72 (by decide +kernel) dX4_offsetOf_49 (r_ldc2Z (z := 18) hX kc_X4_74 (by decide +kernel) dX4_offsetOf_52 (r_callS hX (z_X4_isIn _ _ _ _ _ (by first | with_reducible assumption | decide | omega) (by first | with_reducible assumption | decide | omega) (by first | with_reducible assumption | decide | omega)) ks_X4_38 rfl rfl (Nat.le_of_ble_eq_true rfl) ⟨(Nat.le_of_ble_eq_true rfl), (Nat.le_of_ble_eq_true rfl)⟩ ⟨(Nat.le_of_ble_eq_true rfl), (Nat.le_of_ble_eq_true rfl)⟩ dX4_offsetOf_55 (fun _ _ z => False.elim z) (fun v9 ws9 h97 => ?_)))))))
          obtain ⟨rfl, hw9⟩ := h97
          subst ws9
          dsimp only [mPush]
          refine r_if_eqB (tgt := 95) hX dX4_offsetOf_58 (by decide) (fun c98 => ?_) (fun c98 => ?_)
          · have c98 := of_decide_eq_false c98
            refine r_aload_n hX dX4_offsetOf_95 rfl rfl (r_callV hX (z_X4_no ad ae cs K S 0 rest) kv_X4_80 14 rfl rfl rfl rfl (Nat.le_of_ble_eq_true rfl) ⟨(Nat.le_of_ble_eq_true rfl), (Nat.le_of_ble_eq_true rfl)⟩ ⟨(Nat.le_of_ble_eq_true rfl), (Nat.le_of_ble_eq_true rfl)⟩ dX4_offsetOf_96 (fun _ _ z => False.elim z) (fun v9 ws9 h99 => ?_))
            obtain ⟨rfl, hw9⟩ := h99
            subst ws9
            dsimp only [mPush]
            refine r_iret hX hE dX4_offsetOf_99 (Nat.le_of_ble_eq_true rfl) (Nat.le_of_ble_eq_true rfl) ⟨_, rfl, Or.inl ⟨by omega, ?_⟩⟩
            unfold oOff
            rw [if_neg (by omega)]
            exact ⟨rfl, rfl⟩
          · have c98 := of_decide_eq_true c98
            refine r_iload_n hX dX4_offsetOf_61 rfl rfl (r_i2lZ hX dX4_offsetOf_62 (by first | with_reducible assumption | decide | omega) (r_ldc2Z (z := -59) hX kc_X4_76 (by decide +kernel) dX4_offsetOf_63 (r_ldc2Z (z := 59) hX kc_X4_78 (by decide +kernel) dX4_offsetOf_66 (r_callS hX (z_X4_isIn _ _ _ _ _ (by first | with_reducible assumption | decide | omega) (by first | with_reducible assumption | decide | omega) (by first | with_reducible assumption | decide | omega)) ks_X4_38 rfl rfl (Nat.le_of_ble_eq_true rfl) ⟨(Nat.le_of_ble_eq_true rfl), (Nat.le_of_ble_eq_true rfl)⟩ ⟨(Nat.le_of_ble_eq_true rfl), (Nat.le_of_ble_eq_true rfl)⟩ dX4_offsetOf_69 (fun _ _ z => False.elim z) (fun v9 ws9 h100 => ?_)))))
            obtain ⟨rfl, hw9⟩ := h100
            subst ws9
            dsimp only [mPush]
            refine r_if_eqB (tgt := 95) hX dX4_offsetOf_72 (by decide) (fun c101 => ?_) (fun c101 => ?_)
            · have c101 := of_decide_eq_false c101
              refine r_aload_n hX dX4_offsetOf_95 rfl rfl (r_callV hX (z_X4_no ad ae cs K S 0 rest) kv_X4_80 14 rfl rfl rfl rfl (Nat.le_of_ble_eq_true rfl) ⟨(Nat.le_of_ble_eq_true rfl), (Nat.le_of_ble_eq_true rfl)⟩ ⟨(Nat.le_of_ble_eq_true rfl), (Nat.le_of_ble_eq_true rfl)⟩ dX4_offsetOf_96 (fun _ _ z => False.elim z) (fun v9 ws9 h102 => ?_))
              obtain ⟨rfl, hw9⟩ := h102
              subst ws9
              dsimp only [mPush]
              refine r_iret hX hE dX4_offsetOf_99 (Nat.le_of_ble_eq_true rfl) (Nat.le_of_ble_eq_true rfl) ⟨_, rfl, Or.inl ⟨by omega, ?_⟩⟩
              unfold oOff
              rw [if_neg (by omega)]
              exact ⟨rfl, rfl⟩
            · have c101 := of_decide_eq_true c101
              refine r_iload hX dX4_offsetOf_75 rfl (r_i2lZ hX dX4_offsetOf_77 (by first | with_reducible assumption | decide | omega) (r_ldc2Z (z := -59) hX kc_X4_76 (by decide +kernel) dX4_offsetOf_78 (r_ldc2Z (z := 59) hX kc_X4_78 (by decide +kernel) dX4_offsetOf_81 (r_callS hX (z_X4_isIn _ _ _ _ _ (by first | with_reducible assumption | decide | omega) (by first | with_reducible assumption | decide | omega) (by first | with_reducible assumption | decide | omega)) ks_X4_38 rfl rfl (Nat.le_of_ble_eq_true rfl) ⟨(Nat.le_of_ble_eq_true rfl), (Nat.le_of_ble_eq_true rfl)⟩ ⟨(Nat.le_of_ble_eq_true rfl), (Nat.le_of_ble_eq_true rfl)⟩ dX4_offsetOf_84 (fun _ _ z => False.elim z) (fun v9 ws9 h103 => ?_)))))
              obtain ⟨rfl, hw9⟩ := h103
              subst ws9
              dsimp only [mPush]
              refine r_if_eqB (tgt := 95) hX dX4_offsetOf_87 (by decide) (fun c104 => ?_) (fun c104 => ?_)
              · have c104 := of_decide_eq_false c104
                refine r_aload_n hX dX4_offsetOf_95 rfl rfl (r_callV hX (z_X4_no ad ae cs K S 0 rest) kv_X4_80 14 rfl rfl rfl rfl (Nat.le_of_ble_eq_true rfl) ⟨(Nat.le_of_ble_eq_true rfl), (Nat.le_of_ble_eq_true rfl)⟩ ⟨(Nat.le_of_ble_eq_true rfl), (Nat.le_of_ble_eq_true rfl)⟩ dX4_offsetOf_96 (fun _ _ z => False.elim z) (fun v9 ws9 h105 => ?_))
                obtain ⟨rfl, hw9⟩ := h105
                subst ws9
                dsimp only [mPush]
                refine r_iret hX hE dX4_offsetOf_99 (Nat.le_of_ble_eq_true rfl) (Nat.le_of_ble_eq_true rfl) ⟨_, rfl, Or.inl ⟨by omega, ?_⟩⟩
                unfold oOff
                rw [if_neg (by omega)]
                exact ⟨rfl, rfl⟩
              · have c104 := of_decide_eq_true c104
                refine r_iload hX dX4_offsetOf_90 rfl (r_if_eqZ (tgt := 100) hX dX4_offsetOf_92 (by decide) (by decide) (fun _ => ?_) (fun q => absurd (by decide) q))
                refine r_sipushZ hX dX4_offsetOf_100 (by decide +kernel) (r_iload_n hX dX4_offsetOf_103 rfl rfl (r_imulZ hX dX4_offsetOf_104 (r_bipushZ hX dX4_offsetOf_105 (by decide +kernel) (r_iload_n hX dX4_offsetOf_107 rfl rfl (r_imulZ hX dX4_offsetOf_108 (r_iaddZ hX dX4_offsetOf_109 (r_iload hX dX4_offsetOf_110 rfl ?_)))))))
                refine r_iaddZ hX dX4_offsetOf_112 (r_istore hX dX4_offsetOf_113 (by decide) rfl (r_iload hX dX4_offsetOf_115 rfl (r_i2lZ hX dX4_offsetOf_117 (by first | with_reducible assumption | decide | omega) (r_ldc2Z (z := -64800) hX kc_X4_64 (by decide +kernel) dX4_offsetOf_118 (r_ldc2Z (z := 64800) hX kc_X4_66 (by decide +kernel) dX4_offsetOf_121 (r_callS hX (z_X4_isIn _ _ _ _ _ (by first | with_reducible assumption | decide | omega) (by first | with_reducible assumption | decide | omega) (by first | with_reducible assumption | decide | omega)) ks_X4_38 rfl rfl (Nat.le_of_ble_eq_true rfl) ⟨(Nat.le_of_ble_eq_true rfl), (Nat.le_of_ble_eq_true rfl)⟩ ⟨(Nat.le_of_ble_eq_true rfl), (Nat.le_of_ble_eq_true rfl)⟩ dX4_offsetOf_124 (fun _ _ z => False.elim z) (fun v9 ws9 h106 => ?_)))))))
                obtain ⟨rfl, hw9⟩ := h106
                subst ws9
                dsimp only [mPush]
                refine r_if_neB (tgt := 135) hX dX4_offsetOf_127 (by decide) (fun c107 => ?_) (fun c107 => ?_)
                · have c107 := of_decide_eq_true c107
                  refine r_aload_n hX dX4_offsetOf_135 rfl rfl (r_get hX kf_X4_7 14 rfl rfl dX4_offsetOf_136 (r_iload_n hX dX4_offsetOf_139 rfl rfl (r_iload hX dX4_offsetOf_140 rfl (r_iastZ hX 15 0 rfl rfl (a0).toNat (by first | with_reducible assumption | decide | omega) (by first | with_reducible assumption | decide | omega) (by decide) dX4_offsetOf_142 (r_eqw (zRw_off (j := (a0).toNat) (z := ((3600 * a1) + (60 * a2)) + a3)) (r_iload hX dX4_offsetOf_143 rfl (r_iret hX hE dX4_offsetOf_145 (Nat.le_of_ble_eq_true rfl) (Nat.le_of_ble_eq_true rfl) ⟨_, rfl, Or.inl ⟨by omega, ?_⟩⟩)))))))
                  unfold oOff
                  rw [if_pos (by omega), show a1 * 3600 + a2 * 60 + a3 = 3600 * a1 + 60 * a2 + a3 by omega]
                  exact ⟨rfl, rfl⟩
                · have c107 := of_decide_eq_false c107
                  refine r_aload_n hX dX4_offsetOf_130 rfl rfl (r_callV hX (z_X4_no ad ae cs K S 0 rest) kv_X4_80 14 rfl rfl rfl rfl (Nat.le_of_ble_eq_true rfl) ⟨(Nat.le_of_ble_eq_true rfl), (Nat.le_of_ble_eq_true rfl)⟩ ⟨(Nat.le_of_ble_eq_true rfl), (Nat.le_of_ble_eq_true rfl)⟩ dX4_offsetOf_131 (fun _ _ z => False.elim z) (fun v9 ws9 h108 => ?_))
                  obtain ⟨rfl, hw9⟩ := h108
                  subst ws9
                  dsimp only [mPush]
                  refine r_iret hX hE dX4_offsetOf_134 (Nat.le_of_ble_eq_true rfl) (Nat.le_of_ble_eq_true rfl) ⟨_, rfl, Or.inl ⟨by omega, ?_⟩⟩
                  unfold oOff
                  rw [if_neg (by omega)]
                  exact ⟨rfl, rfl⟩
        · refine r_iload_n hX dX4_offsetOf_27 rfl rfl (r_if_ltZ (tgt := 40) hX dX4_offsetOf_28 (by decide) (by first | with_reducible assumption | decide | omega) (fun c109 => ?_) (fun c109 => ?_))
          · refine r_iconstZ hX dX4_offsetOf_40 (r_goto (tgt := 45) hX dX4_offsetOf_41 (by decide) (r_istore hX dX4_offsetOf_45 (by decide) rfl (r_iload_n hX dX4_offsetOf_47 rfl rfl (r_i2lZ hX dX4_offsetOf_48 (by first | with_reducible assumption | decide | omega) (r_ldc2Z (z := -18) hX kc_X4_72 (by decide +kernel) dX4_offsetOf_49 (r_ldc2Z (z := 18) hX kc_X4_74 (by decide +kernel) dX4_offsetOf_52 (r_callS hX (z_X4_isIn _ _ _ _ _ (by first | with_reducible assumption | decide | omega) (by first | with_reducible assumption | decide | omega) (by first | with_reducible assumption | decide | omega)) ks_X4_38 rfl rfl (Nat.le_of_ble_eq_true rfl) ⟨(Nat.le_of_ble_eq_true rfl), (Nat.le_of_ble_eq_true rfl)⟩ ⟨(Nat.le_of_ble_eq_true rfl), (Nat.le_of_ble_eq_true rfl)⟩ dX4_offsetOf_55 (fun _ _ z => False.elim z) (fun v9 ws9 h110 => ?_))))))))
            obtain ⟨rfl, hw9⟩ := h110
            subst ws9
            dsimp only [mPush]
            refine r_if_eqB (tgt := 95) hX dX4_offsetOf_58 (by decide) (fun c111 => ?_) (fun c111 => ?_)
            · have c111 := of_decide_eq_false c111
              refine r_aload_n hX dX4_offsetOf_95 rfl rfl (r_callV hX (z_X4_no ad ae cs K S 0 rest) kv_X4_80 14 rfl rfl rfl rfl (Nat.le_of_ble_eq_true rfl) ⟨(Nat.le_of_ble_eq_true rfl), (Nat.le_of_ble_eq_true rfl)⟩ ⟨(Nat.le_of_ble_eq_true rfl), (Nat.le_of_ble_eq_true rfl)⟩ dX4_offsetOf_96 (fun _ _ z => False.elim z) (fun v9 ws9 h112 => ?_))
              obtain ⟨rfl, hw9⟩ := h112
              subst ws9
              dsimp only [mPush]
              refine r_iret hX hE dX4_offsetOf_99 (Nat.le_of_ble_eq_true rfl) (Nat.le_of_ble_eq_true rfl) ⟨_, rfl, Or.inl ⟨by omega, ?_⟩⟩
              unfold oOff
              rw [if_neg (by omega)]
              exact ⟨rfl, rfl⟩
            · have c111 := of_decide_eq_true c111
              refine r_iload_n hX dX4_offsetOf_61 rfl rfl (r_i2lZ hX dX4_offsetOf_62 (by first | with_reducible assumption | decide | omega) (r_ldc2Z (z := -59) hX kc_X4_76 (by decide +kernel) dX4_offsetOf_63 (r_ldc2Z (z := 59) hX kc_X4_78 (by decide +kernel) dX4_offsetOf_66 (r_callS hX (z_X4_isIn _ _ _ _ _ (by first | with_reducible assumption | decide | omega) (by first | with_reducible assumption | decide | omega) (by first | with_reducible assumption | decide | omega)) ks_X4_38 rfl rfl (Nat.le_of_ble_eq_true rfl) ⟨(Nat.le_of_ble_eq_true rfl), (Nat.le_of_ble_eq_true rfl)⟩ ⟨(Nat.le_of_ble_eq_true rfl), (Nat.le_of_ble_eq_true rfl)⟩ dX4_offsetOf_69 (fun _ _ z => False.elim z) (fun v9 ws9 h113 => ?_)))))
              obtain ⟨rfl, hw9⟩ := h113
              subst ws9
              dsimp only [mPush]
              refine r_if_eqB (tgt := 95) hX dX4_offsetOf_72 (by decide) (fun c114 => ?_) (fun c114 => ?_)
              · have c114 := of_decide_eq_false c114
                refine r_aload_n hX dX4_offsetOf_95 rfl rfl (r_callV hX (z_X4_no ad ae cs K S 0 rest) kv_X4_80 14 rfl rfl rfl rfl (Nat.le_of_ble_eq_true rfl) ⟨(Nat.le_of_ble_eq_true rfl), (Nat.le_of_ble_eq_true rfl)⟩ ⟨(Nat.le_of_ble_eq_true rfl), (Nat.le_of_ble_eq_true rfl)⟩ dX4_offsetOf_96 (fun _ _ z => False.elim z) (fun v9 ws9 h115 => ?_))
                obtain ⟨rfl, hw9⟩ := h115
                subst ws9
                dsimp only [mPush]
                refine r_iret hX hE dX4_offsetOf_99 (Nat.le_of_ble_eq_true rfl) (Nat.le_of_ble_eq_true rfl) ⟨_, rfl, Or.inl ⟨by omega, ?_⟩⟩
                unfold oOff
                rw [if_neg (by omega)]
                exact ⟨rfl, rfl⟩
              · have c114 := of_decide_eq_true c114
                refine r_iload hX dX4_offsetOf_75 rfl (r_i2lZ hX dX4_offsetOf_77 (by first | with_reducible assumption | decide | omega) (r_ldc2Z (z := -59) hX kc_X4_76 (by decide +kernel) dX4_offsetOf_78 (r_ldc2Z (z := 59) hX kc_X4_78 (by decide +kernel) dX4_offsetOf_81 (r_callS hX (z_X4_isIn _ _ _ _ _ (by first | with_reducible assumption | decide | omega) (by first | with_reducible assumption | decide | omega) (by first | with_reducible assumption | decide | omega)) ks_X4_38 rfl rfl (Nat.le_of_ble_eq_true rfl) ⟨(Nat.le_of_ble_eq_true rfl), (Nat.le_of_ble_eq_true rfl)⟩ ⟨(Nat.le_of_ble_eq_true rfl), (Nat.le_of_ble_eq_true rfl)⟩ dX4_offsetOf_84 (fun _ _ z => False.elim z) (fun v9 ws9 h116 => ?_)))))
                obtain ⟨rfl, hw9⟩ := h116
                subst ws9
                dsimp only [mPush]
                refine r_if_eqB (tgt := 95) hX dX4_offsetOf_87 (by decide) (fun c117 => ?_) (fun c117 => ?_)
                · have c117 := of_decide_eq_false c117
                  refine r_aload_n hX dX4_offsetOf_95 rfl rfl (r_callV hX (z_X4_no ad ae cs K S 0 rest) kv_X4_80 14 rfl rfl rfl rfl (Nat.le_of_ble_eq_true rfl) ⟨(Nat.le_of_ble_eq_true rfl), (Nat.le_of_ble_eq_true rfl)⟩ ⟨(Nat.le_of_ble_eq_true rfl), (Nat.le_of_ble_eq_true rfl)⟩ dX4_offsetOf_96 (fun _ _ z => False.elim z) (fun v9 ws9 h118 => ?_))
                  obtain ⟨rfl, hw9⟩ := h118
                  subst ws9
                  dsimp only [mPush]
                  refine r_iret hX hE dX4_offsetOf_99 (Nat.le_of_ble_eq_true rfl) (Nat.le_of_ble_eq_true rfl) ⟨_, rfl, Or.inl ⟨by omega, ?_⟩⟩
                  unfold oOff
                  rw [if_neg (by omega)]
                  exact ⟨rfl, rfl⟩
                · have c117 := of_decide_eq_true c117
                  refine r_iload hX dX4_offsetOf_90 rfl (r_if_eqZ (tgt := 100) hX dX4_offsetOf_92 (by decide) (by decide) (fun q => absurd q (by decide)) (fun _ => ?_))
                  refine r_aload_n hX dX4_offsetOf_95 rfl rfl (r_callV hX (z_X4_no ad ae cs K S 0 rest) kv_X4_80 14 rfl rfl rfl rfl (Nat.le_of_ble_eq_true rfl) ⟨(Nat.le_of_ble_eq_true rfl), (Nat.le_of_ble_eq_true rfl)⟩ ⟨(Nat.le_of_ble_eq_true rfl), (Nat.le_of_ble_eq_true rfl)⟩ dX4_offsetOf_96 (fun _ _ z => False.elim z) (fun v9 ws9 h119 => ?_))
                  obtain ⟨rfl, hw9⟩ := h119
                  subst ws9
                  dsimp only [mPush]
                  refine r_iret hX hE dX4_offsetOf_99 (Nat.le_of_ble_eq_true rfl) (Nat.le_of_ble_eq_true rfl) ⟨_, rfl, Or.inl ⟨by omega, ?_⟩⟩
                  unfold oOff
                  rw [if_neg (by omega)]
                  exact ⟨rfl, rfl⟩
          · refine r_iload_n hX dX4_offsetOf_31 rfl rfl (r_if_ltZ (tgt := 40) hX dX4_offsetOf_32 (by decide) (by first | with_reducible assumption | decide | omega) (fun c120 => ?_) (fun c120 => ?_))
            · refine r_iconstZ hX dX4_offsetOf_40 (r_goto (tgt := 45) hX dX4_offsetOf_41 (by decide) (r_istore hX dX4_offsetOf_45 (by decide) rfl (r_iload_n hX dX4_offsetOf_47 rfl rfl (r_i2lZ hX dX4_offsetOf_48 (by first | with_reducible assumption | decide | omega) (r_ldc2Z (z := -18) hX kc_X4_72 (by decide +kernel) dX4_offsetOf_49 (r_ldc2Z (z := 18) hX kc_X4_74 (by decide +kernel) dX4_offsetOf_52 (r_callS hX (z_X4_isIn _ _ _ _ _ (by first | with_reducible assumption | decide | omega) (by first | with_reducible assumption | decide | omega) (by first | with_reducible assumption | decide | omega)) ks_X4_38 rfl rfl (Nat.le_of_ble_eq_true rfl) ⟨(Nat.le_of_ble_eq_true rfl), (Nat.le_of_ble_eq_true rfl)⟩ ⟨(Nat.le_of_ble_eq_true rfl), (Nat.le_of_ble_eq_true rfl)⟩ dX4_offsetOf_55 (fun _ _ z => False.elim z) (fun v9 ws9 h121 => ?_))))))))
              obtain ⟨rfl, hw9⟩ := h121
              subst ws9
              dsimp only [mPush]
              refine r_if_eqB (tgt := 95) hX dX4_offsetOf_58 (by decide) (fun c122 => ?_) (fun c122 => ?_)
              · have c122 := of_decide_eq_false c122
                refine r_aload_n hX dX4_offsetOf_95 rfl rfl (r_callV hX (z_X4_no ad ae cs K S 0 rest) kv_X4_80 14 rfl rfl rfl rfl (Nat.le_of_ble_eq_true rfl) ⟨(Nat.le_of_ble_eq_true rfl), (Nat.le_of_ble_eq_true rfl)⟩ ⟨(Nat.le_of_ble_eq_true rfl), (Nat.le_of_ble_eq_true rfl)⟩ dX4_offsetOf_96 (fun _ _ z => False.elim z) (fun v9 ws9 h123 => ?_))
                obtain ⟨rfl, hw9⟩ := h123
                subst ws9
                dsimp only [mPush]
                refine r_iret hX hE dX4_offsetOf_99 (Nat.le_of_ble_eq_true rfl) (Nat.le_of_ble_eq_true rfl) ⟨_, rfl, Or.inl ⟨by omega, ?_⟩⟩
                unfold oOff
                rw [if_neg (by omega)]
                exact ⟨rfl, rfl⟩
              · have c122 := of_decide_eq_true c122
                refine r_iload_n hX dX4_offsetOf_61 rfl rfl (r_i2lZ hX dX4_offsetOf_62 (by first | with_reducible assumption | decide | omega) (r_ldc2Z (z := -59) hX kc_X4_76 (by decide +kernel) dX4_offsetOf_63 (r_ldc2Z (z := 59) hX kc_X4_78 (by decide +kernel) dX4_offsetOf_66 (r_callS hX (z_X4_isIn _ _ _ _ _ (by first | with_reducible assumption | decide | omega) (by first | with_reducible assumption | decide | omega) (by first | with_reducible assumption | decide | omega)) ks_X4_38 rfl rfl (Nat.le_of_ble_eq_true rfl) ⟨(Nat.le_of_ble_eq_true rfl), (Nat.le_of_ble_eq_true rfl)⟩ ⟨(Nat.le_of_ble_eq_true rfl), (Nat.le_of_ble_eq_true rfl)⟩ dX4_offsetOf_69 (fun _ _ z => False.elim z) (fun v9 ws9 h124 => ?_)))))
                obtain ⟨rfl, hw9⟩ := h124
                subst ws9
                dsimp only [mPush]
                refine r_if_eqB (tgt := 95) hX dX4_offsetOf_72 (by decide) (fun c125 => ?_) (fun c125 => ?_)
                · have c125 := of_decide_eq_false c125
                  refine r_aload_n hX dX4_offsetOf_95 rfl rfl (r_callV hX (z_X4_no ad ae cs K S 0 rest) kv_X4_80 14 rfl rfl rfl rfl (Nat.le_of_ble_eq_true rfl) ⟨(Nat.le_of_ble_eq_true rfl), (Nat.le_of_ble_eq_true rfl)⟩ ⟨(Nat.le_of_ble_eq_true rfl), (Nat.le_of_ble_eq_true rfl)⟩ dX4_offsetOf_96 (fun _ _ z => False.elim z) (fun v9 ws9 h126 => ?_))
                  obtain ⟨rfl, hw9⟩ := h126
                  subst ws9
                  dsimp only [mPush]
                  refine r_iret hX hE dX4_offsetOf_99 (Nat.le_of_ble_eq_true rfl) (Nat.le_of_ble_eq_true rfl) ⟨_, rfl, Or.inl ⟨by omega, ?_⟩⟩
                  unfold oOff
                  rw [if_neg (by omega)]
                  exact ⟨rfl, rfl⟩
                · have c125 := of_decide_eq_true c125
                  refine r_iload hX dX4_offsetOf_75 rfl (r_i2lZ hX dX4_offsetOf_77 (by first | with_reducible assumption | decide | omega) (r_ldc2Z (z := -59) hX kc_X4_76 (by decide +kernel) dX4_offsetOf_78 (r_ldc2Z (z := 59) hX kc_X4_78 (by decide +kernel) dX4_offsetOf_81 (r_callS hX (z_X4_isIn _ _ _ _ _ (by first | with_reducible assumption | decide | omega) (by first | with_reducible assumption | decide | omega) (by first | with_reducible assumption | decide | omega)) ks_X4_38 rfl rfl (Nat.le_of_ble_eq_true rfl) ⟨(Nat.le_of_ble_eq_true rfl), (Nat.le_of_ble_eq_true rfl)⟩ ⟨(Nat.le_of_ble_eq_true rfl), (Nat.le_of_ble_eq_true rfl)⟩ dX4_offsetOf_84 (fun _ _ z => False.elim z) (fun v9 ws9 h127 => ?_)))))
                  obtain ⟨rfl, hw9⟩ := h127
                  subst ws9
                  dsimp only [mPush]
                  refine r_if_eqB (tgt := 95) hX dX4_offsetOf_87 (by decide) (fun c128 => ?_) (fun c128 => ?_)
                  · have c128 := of_decide_eq_false c128
                    refine r_aload_n hX dX4_offsetOf_95 rfl rfl (r_callV hX (z_X4_no ad ae cs K S 0 rest) kv_X4_80 14 rfl rfl rfl rfl (Nat.le_of_ble_eq_true rfl) ⟨(Nat.le_of_ble_eq_true rfl), (Nat.le_of_ble_eq_true rfl)⟩ ⟨(Nat.le_of_ble_eq_true rfl), (Nat.le_of_ble_eq_true rfl)⟩ dX4_offsetOf_96 (fun _ _ z => False.elim z) (fun v9 ws9 h129 => ?_))
                    obtain ⟨rfl, hw9⟩ := h129
                    subst ws9
                    dsimp only [mPush]
                    refine r_iret hX hE dX4_offsetOf_99 (Nat.le_of_ble_eq_true rfl) (Nat.le_of_ble_eq_true rfl) ⟨_, rfl, Or.inl ⟨by omega, ?_⟩⟩
                    unfold oOff
                    rw [if_neg (by omega)]
                    exact ⟨rfl, rfl⟩
                  · have c128 := of_decide_eq_true c128
                    refine r_iload hX dX4_offsetOf_90 rfl (r_if_eqZ (tgt := 100) hX dX4_offsetOf_92 (by decide) (by decide) (fun q => absurd q (by decide)) (fun _ => ?_))
                    refine r_aload_n hX dX4_offsetOf_95 rfl rfl (r_callV hX (z_X4_no ad ae cs K S 0 rest) kv_X4_80 14 rfl rfl rfl rfl (Nat.le_of_ble_eq_true rfl) ⟨(Nat.le_of_ble_eq_true rfl), (Nat.le_of_ble_eq_true rfl)⟩ ⟨(Nat.le_of_ble_eq_true rfl), (Nat.le_of_ble_eq_true rfl)⟩ dX4_offsetOf_96 (fun _ _ z => False.elim z) (fun v9 ws9 h130 => ?_))
                    obtain ⟨rfl, hw9⟩ := h130
                    subst ws9
                    dsimp only [mPush]
                    refine r_iret hX hE dX4_offsetOf_99 (Nat.le_of_ble_eq_true rfl) (Nat.le_of_ble_eq_true rfl) ⟨_, rfl, Or.inl ⟨by omega, ?_⟩⟩
                    unfold oOff
                    rw [if_neg (by omega)]
                    exact ⟨rfl, rfl⟩
            · refine r_iload hX dX4_offsetOf_35 rfl (r_if_geZ (tgt := 44) hX dX4_offsetOf_37 (by decide) (by first | with_reducible assumption | decide | omega) (fun c131 => ?_) (fun c131 => ?_))
              · refine r_iconstZ hX dX4_offsetOf_44 (r_istore hX dX4_offsetOf_45 (by decide) rfl (r_iload_n hX dX4_offsetOf_47 rfl rfl (r_i2lZ hX dX4_offsetOf_48 (by first | with_reducible assumption | decide | omega) (r_ldc2Z (z := -18) hX kc_X4_72 (by decide +kernel) dX4_offsetOf_49 (r_ldc2Z (z := 18) hX kc_X4_74 (by decide +kernel) dX4_offsetOf_52 (r_callS hX (z_X4_isIn _ _ _ _ _ (by first | with_reducible assumption | decide | omega) (by first | with_reducible assumption | decide | omega) (by first | with_reducible assumption | decide | omega)) ks_X4_38 rfl rfl (Nat.le_of_ble_eq_true rfl) ⟨(Nat.le_of_ble_eq_true rfl), (Nat.le_of_ble_eq_true rfl)⟩ ⟨(Nat.le_of_ble_eq_true rfl), (Nat.le_of_ble_eq_true rfl)⟩ dX4_offsetOf_55 (fun _ _ z => False.elim z) (fun v9 ws9 h132 => ?_)))))))
                obtain ⟨rfl, hw9⟩ := h132
                subst ws9
                dsimp only [mPush]
                refine r_if_eqB (tgt := 95) hX dX4_offsetOf_58 (by decide) (fun c133 => ?_) (fun c133 => ?_)
                · have c133 := of_decide_eq_false c133
                  refine r_aload_n hX dX4_offsetOf_95 rfl rfl (r_callV hX (z_X4_no ad ae cs K S 0 rest) kv_X4_80 14 rfl rfl rfl rfl (Nat.le_of_ble_eq_true rfl) ⟨(Nat.le_of_ble_eq_true rfl), (Nat.le_of_ble_eq_true rfl)⟩ ⟨(Nat.le_of_ble_eq_true rfl), (Nat.le_of_ble_eq_true rfl)⟩ dX4_offsetOf_96 (fun _ _ z => False.elim z) (fun v9 ws9 h134 => ?_))
                  obtain ⟨rfl, hw9⟩ := h134
                  subst ws9
                  dsimp only [mPush]
                  refine r_iret hX hE dX4_offsetOf_99 (Nat.le_of_ble_eq_true rfl) (Nat.le_of_ble_eq_true rfl) ⟨_, rfl, Or.inl ⟨by omega, ?_⟩⟩
                  unfold oOff
                  rw [if_neg (by omega)]
                  exact ⟨rfl, rfl⟩
                · have c133 := of_decide_eq_true c133
                  refine r_iload_n hX dX4_offsetOf_61 rfl rfl (r_i2lZ hX dX4_offsetOf_62 (by first | with_reducible assumption | decide | omega) (r_ldc2Z (z := -59) hX kc_X4_76 (by decide +kernel) dX4_offsetOf_63 (r_ldc2Z (z := 59) hX kc_X4_78 (by decide +kernel) dX4_offsetOf_66 (r_callS hX (z_X4_isIn _ _ _ _ _ (by first | with_reducible assumption | decide | omega) (by first | with_reducible assumption | decide | omega) (by first | with_reducible assumption | decide | omega)) ks_X4_38 rfl rfl (Nat.le_of_ble_eq_true rfl) ⟨(Nat.le_of_ble_eq_true rfl), (Nat.le_of_ble_eq_true rfl)⟩ ⟨(Nat.le_of_ble_eq_true rfl), (Nat.le_of_ble_eq_true rfl)⟩ dX4_offsetOf_69 (fun _ _ z => False.elim z) (fun v9 ws9 h135 => ?_)))))
                  obtain ⟨rfl, hw9⟩ := h135
                  subst ws9
                  dsimp only [mPush]
                  refine r_if_eqB (tgt := 95) hX dX4_offsetOf_72 (by decide) (fun c136 => ?_) (fun c136 => ?_)
                  · have c136 := of_decide_eq_false c136
                    refine r_aload_n hX dX4_offsetOf_95 rfl rfl (r_callV hX (z_X4_no ad ae cs K S 0 rest) kv_X4_80 14 rfl rfl rfl rfl (Nat.le_of_ble_eq_true rfl) ⟨(Nat.le_of_ble_eq_true rfl), (Nat.le_of_ble_eq_true rfl)⟩ ⟨(Nat.le_of_ble_eq_true rfl), (Nat.le_of_ble_eq_true rfl)⟩ dX4_offsetOf_96 (fun _ _ z => False.elim z) (fun v9 ws9 h137 => ?_))
                    obtain ⟨rfl, hw9⟩ := h137
                    subst ws9
                    dsimp only [mPush]
                    refine r_iret hX hE dX4_offsetOf_99 (Nat.le_of_ble_eq_true rfl) (Nat.le_of_ble_eq_true rfl) ⟨_, rfl, Or.inl ⟨by omega, ?_⟩⟩
                    unfold oOff
                    rw [if_neg (by omega)]
                    exact ⟨rfl, rfl⟩
                  · have c136 := of_decide_eq_true c136
                    refine r_iload hX dX4_offsetOf_75 rfl (r_i2lZ hX dX4_offsetOf_77 (by first | with_reducible assumption | decide | omega) (r_ldc2Z (z := -59) hX kc_X4_76 (by decide +kernel) dX4_offsetOf_78 (r_ldc2Z (z := 59) hX kc_X4_78 (by decide +kernel) dX4_offsetOf_81 (r_callS hX (z_X4_isIn _ _ _ _ _ (by first | with_reducible assumption | decide | omega) (by first | with_reducible assumption | decide | omega) (by first | with_reducible assumption | decide | omega)) ks_X4_38 rfl rfl (Nat.le_of_ble_eq_true rfl) ⟨(Nat.le_of_ble_eq_true rfl), (Nat.le_of_ble_eq_true rfl)⟩ ⟨(Nat.le_of_ble_eq_true rfl), (Nat.le_of_ble_eq_true rfl)⟩ dX4_offsetOf_84 (fun _ _ z => False.elim z) (fun v9 ws9 h138 => ?_)))))
                    obtain ⟨rfl, hw9⟩ := h138
                    subst ws9
                    dsimp only [mPush]
                    refine r_if_eqB (tgt := 95) hX dX4_offsetOf_87 (by decide) (fun c139 => ?_) (fun c139 => ?_)
                    · have c139 := of_decide_eq_false c139
                      refine r_aload_n hX dX4_offsetOf_95 rfl rfl (r_callV hX (z_X4_no ad ae cs K S 0 rest) kv_X4_80 14 rfl rfl rfl rfl (Nat.le_of_ble_eq_true rfl) ⟨(Nat.le_of_ble_eq_true rfl), (Nat.le_of_ble_eq_true rfl)⟩ ⟨(Nat.le_of_ble_eq_true rfl), (Nat.le_of_ble_eq_true rfl)⟩ dX4_offsetOf_96 (fun _ _ z => False.elim z) (fun v9 ws9 h140 => ?_))
                      obtain ⟨rfl, hw9⟩ := h140
                      subst ws9
                      dsimp only [mPush]
                      refine r_iret hX hE dX4_offsetOf_99 (Nat.le_of_ble_eq_true rfl) (Nat.le_of_ble_eq_true rfl) ⟨_, rfl, Or.inl ⟨by omega, ?_⟩⟩
                      unfold oOff
                      rw [if_neg (by omega)]
                      exact ⟨rfl, rfl⟩
                    · have c139 := of_decide_eq_true c139
                      refine r_iload hX dX4_offsetOf_90 rfl (r_if_eqZ (tgt := 100) hX dX4_offsetOf_92 (by decide) (by decide) (fun _ => ?_) (fun q => absurd (by decide) q))
                      refine r_sipushZ hX dX4_offsetOf_100 (by decide +kernel) (r_iload_n hX dX4_offsetOf_103 rfl rfl (r_imulZ hX dX4_offsetOf_104 (r_bipushZ hX dX4_offsetOf_105 (by decide +kernel) (r_iload_n hX dX4_offsetOf_107 rfl rfl (r_imulZ hX dX4_offsetOf_108 (r_iaddZ hX dX4_offsetOf_109 (r_iload hX dX4_offsetOf_110 rfl ?_)))))))
                      refine r_iaddZ hX dX4_offsetOf_112 (r_istore hX dX4_offsetOf_113 (by decide) rfl (r_iload hX dX4_offsetOf_115 rfl (r_i2lZ hX dX4_offsetOf_117 (by first | with_reducible assumption | decide | omega) (r_ldc2Z (z := -64800) hX kc_X4_64 (by decide +kernel) dX4_offsetOf_118 (r_ldc2Z (z := 64800) hX kc_X4_66 (by decide +kernel) dX4_offsetOf_121 (r_callS hX (z_X4_isIn _ _ _ _ _ (by first | with_reducible assumption | decide | omega) (by first | with_reducible assumption | decide | omega) (by first | with_reducible assumption | decide | omega)) ks_X4_38 rfl rfl (Nat.le_of_ble_eq_true rfl) ⟨(Nat.le_of_ble_eq_true rfl), (Nat.le_of_ble_eq_true rfl)⟩ ⟨(Nat.le_of_ble_eq_true rfl), (Nat.le_of_ble_eq_true rfl)⟩ dX4_offsetOf_124 (fun _ _ z => False.elim z) (fun v9 ws9 h141 => ?_)))))))
                      obtain ⟨rfl, hw9⟩ := h141
                      subst ws9
                      dsimp only [mPush]
                      refine r_if_neB (tgt := 135) hX dX4_offsetOf_127 (by decide) (fun c142 => ?_) (fun c142 => ?_)
                      · have c142 := of_decide_eq_true c142
                        refine r_aload_n hX dX4_offsetOf_135 rfl rfl (r_get hX kf_X4_7 14 rfl rfl dX4_offsetOf_136 (r_iload_n hX dX4_offsetOf_139 rfl rfl (r_iload hX dX4_offsetOf_140 rfl (r_iastZ hX 15 0 rfl rfl (a0).toNat (by first | with_reducible assumption | decide | omega) (by first | with_reducible assumption | decide | omega) (by decide) dX4_offsetOf_142 (r_eqw (zRw_off (j := (a0).toNat) (z := ((3600 * a1) + (60 * a2)) + a3)) (r_iload hX dX4_offsetOf_143 rfl (r_iret hX hE dX4_offsetOf_145 (Nat.le_of_ble_eq_true rfl) (Nat.le_of_ble_eq_true rfl) ⟨_, rfl, Or.inl ⟨by omega, ?_⟩⟩)))))))
                        unfold oOff
                        rw [if_pos (by omega), show a1 * 3600 + a2 * 60 + a3 = 3600 * a1 + 60 * a2 + a3 by omega]
                        exact ⟨rfl, rfl⟩
                      · have c142 := of_decide_eq_false c142
                        refine r_aload_n hX dX4_offsetOf_130 rfl rfl (r_callV hX (z_X4_no ad ae cs K S 0 rest) kv_X4_80 14 rfl rfl rfl rfl (Nat.le_of_ble_eq_true rfl) ⟨(Nat.le_of_ble_eq_true rfl), (Nat.le_of_ble_eq_true rfl)⟩ ⟨(Nat.le_of_ble_eq_true rfl), (Nat.le_of_ble_eq_true rfl)⟩ dX4_offsetOf_131 (fun _ _ z => False.elim z) (fun v9 ws9 h143 => ?_))
                        obtain ⟨rfl, hw9⟩ := h143
                        subst ws9
                        dsimp only [mPush]
                        refine r_iret hX hE dX4_offsetOf_134 (Nat.le_of_ble_eq_true rfl) (Nat.le_of_ble_eq_true rfl) ⟨_, rfl, Or.inl ⟨by omega, ?_⟩⟩
                        unfold oOff
                        rw [if_neg (by omega)]
                        exact ⟨rfl, rfl⟩
              · refine r_iconstZ hX dX4_offsetOf_40 (r_goto (tgt := 45) hX dX4_offsetOf_41 (by decide) (r_istore hX dX4_offsetOf_45 (by decide) rfl (r_iload_n hX dX4_offsetOf_47 rfl rfl (r_i2lZ hX dX4_offsetOf_48 (by first | with_reducible assumption | decide | omega) (r_ldc2Z (z := -18) hX kc_X4_72 (by decide +kernel) dX4_offsetOf_49 (r_ldc2Z (z := 18) hX kc_X4_74 (by decide +kernel) dX4_offsetOf_52 (r_callS hX (z_X4_isIn _ _ _ _ _ (by first | with_reducible assumption | decide | omega) (by first | with_reducible assumption | decide | omega) (by first | with_reducible assumption | decide | omega)) ks_X4_38 rfl rfl (Nat.le_of_ble_eq_true rfl) ⟨(Nat.le_of_ble_eq_true rfl), (Nat.le_of_ble_eq_true rfl)⟩ ⟨(Nat.le_of_ble_eq_true rfl), (Nat.le_of_ble_eq_true rfl)⟩ dX4_offsetOf_55 (fun _ _ z => False.elim z) (fun v9 ws9 h144 => ?_))))))))
                obtain ⟨rfl, hw9⟩ := h144
                subst ws9
                dsimp only [mPush]
                refine r_if_eqB (tgt := 95) hX dX4_offsetOf_58 (by decide) (fun c145 => ?_) (fun c145 => ?_)
                · have c145 := of_decide_eq_false c145
                  refine r_aload_n hX dX4_offsetOf_95 rfl rfl (r_callV hX (z_X4_no ad ae cs K S 0 rest) kv_X4_80 14 rfl rfl rfl rfl (Nat.le_of_ble_eq_true rfl) ⟨(Nat.le_of_ble_eq_true rfl), (Nat.le_of_ble_eq_true rfl)⟩ ⟨(Nat.le_of_ble_eq_true rfl), (Nat.le_of_ble_eq_true rfl)⟩ dX4_offsetOf_96 (fun _ _ z => False.elim z) (fun v9 ws9 h146 => ?_))
                  obtain ⟨rfl, hw9⟩ := h146
                  subst ws9
                  dsimp only [mPush]
                  refine r_iret hX hE dX4_offsetOf_99 (Nat.le_of_ble_eq_true rfl) (Nat.le_of_ble_eq_true rfl) ⟨_, rfl, Or.inl ⟨by omega, ?_⟩⟩
                  unfold oOff
                  rw [if_neg (by omega)]
                  exact ⟨rfl, rfl⟩
                · have c145 := of_decide_eq_true c145
                  refine r_iload_n hX dX4_offsetOf_61 rfl rfl (r_i2lZ hX dX4_offsetOf_62 (by first | with_reducible assumption | decide | omega) (r_ldc2Z (z := -59) hX kc_X4_76 (by decide +kernel) dX4_offsetOf_63 (r_ldc2Z (z := 59) hX kc_X4_78 (by decide +kernel) dX4_offsetOf_66 (r_callS hX (z_X4_isIn _ _ _ _ _ (by first | with_reducible assumption | decide | omega) (by first | with_reducible assumption | decide | omega) (by first | with_reducible assumption | decide | omega)) ks_X4_38 rfl rfl (Nat.le_of_ble_eq_true rfl) ⟨(Nat.le_of_ble_eq_true rfl), (Nat.le_of_ble_eq_true rfl)⟩ ⟨(Nat.le_of_ble_eq_true rfl), (Nat.le_of_ble_eq_true rfl)⟩ dX4_offsetOf_69 (fun _ _ z => False.elim z) (fun v9 ws9 h147 => ?_)))))
                  obtain ⟨rfl, hw9⟩ := h147
                  subst ws9
                  dsimp only [mPush]
                  refine r_if_eqB (tgt := 95) hX dX4_offsetOf_72 (by decide) (fun c148 => ?_) (fun c148 => ?_)
                  · have c148 := of_decide_eq_false c148
                    refine r_aload_n hX dX4_offsetOf_95 rfl rfl (r_callV hX (z_X4_no ad ae cs K S 0 rest) kv_X4_80 14 rfl rfl rfl rfl (Nat.le_of_ble_eq_true rfl) ⟨(Nat.le_of_ble_eq_true rfl), (Nat.le_of_ble_eq_true rfl)⟩ ⟨(Nat.le_of_ble_eq_true rfl), (Nat.le_of_ble_eq_true rfl)⟩ dX4_offsetOf_96 (fun _ _ z => False.elim z) (fun v9 ws9 h149 => ?_))
                    obtain ⟨rfl, hw9⟩ := h149
                    subst ws9
                    dsimp only [mPush]
                    refine r_iret hX hE dX4_offsetOf_99 (Nat.le_of_ble_eq_true rfl) (Nat.le_of_ble_eq_true rfl) ⟨_, rfl, Or.inl ⟨by omega, ?_⟩⟩
                    unfold oOff
                    rw [if_neg (by omega)]
                    exact ⟨rfl, rfl⟩
                  · have c148 := of_decide_eq_true c148
                    refine r_iload hX dX4_offsetOf_75 rfl (r_i2lZ hX dX4_offsetOf_77 (by first | with_reducible assumption | decide | omega) (r_ldc2Z (z := -59) hX kc_X4_76 (by decide +kernel) dX4_offsetOf_78 (r_ldc2Z (z := 59) hX kc_X4_78 (by decide +kernel) dX4_offsetOf_81 (r_callS hX (z_X4_isIn _ _ _ _ _ (by first | with_reducible assumption | decide | omega) (by first | with_reducible assumption | decide | omega) (by first | with_reducible assumption | decide | omega)) ks_X4_38 rfl rfl (Nat.le_of_ble_eq_true rfl) ⟨(Nat.le_of_ble_eq_true rfl), (Nat.le_of_ble_eq_true rfl)⟩ ⟨(Nat.le_of_ble_eq_true rfl), (Nat.le_of_ble_eq_true rfl)⟩ dX4_offsetOf_84 (fun _ _ z => False.elim z) (fun v9 ws9 h150 => ?_)))))
                    obtain ⟨rfl, hw9⟩ := h150
                    subst ws9
                    dsimp only [mPush]
                    refine r_if_eqB (tgt := 95) hX dX4_offsetOf_87 (by decide) (fun c151 => ?_) (fun c151 => ?_)
                    · have c151 := of_decide_eq_false c151
                      refine r_aload_n hX dX4_offsetOf_95 rfl rfl (r_callV hX (z_X4_no ad ae cs K S 0 rest) kv_X4_80 14 rfl rfl rfl rfl (Nat.le_of_ble_eq_true rfl) ⟨(Nat.le_of_ble_eq_true rfl), (Nat.le_of_ble_eq_true rfl)⟩ ⟨(Nat.le_of_ble_eq_true rfl), (Nat.le_of_ble_eq_true rfl)⟩ dX4_offsetOf_96 (fun _ _ z => False.elim z) (fun v9 ws9 h152 => ?_))
                      obtain ⟨rfl, hw9⟩ := h152
                      subst ws9
                      dsimp only [mPush]
                      refine r_iret hX hE dX4_offsetOf_99 (Nat.le_of_ble_eq_true rfl) (Nat.le_of_ble_eq_true rfl) ⟨_, rfl, Or.inl ⟨by omega, ?_⟩⟩
                      unfold oOff
                      rw [if_neg (by omega)]
                      exact ⟨rfl, rfl⟩
                    · have c151 := of_decide_eq_true c151
                      refine r_iload hX dX4_offsetOf_90 rfl (r_if_eqZ (tgt := 100) hX dX4_offsetOf_92 (by decide) (by decide) (fun q => absurd q (by decide)) (fun _ => ?_))
                      refine r_aload_n hX dX4_offsetOf_95 rfl rfl (r_callV hX (z_X4_no ad ae cs K S 0 rest) kv_X4_80 14 rfl rfl rfl rfl (Nat.le_of_ble_eq_true rfl) ⟨(Nat.le_of_ble_eq_true rfl), (Nat.le_of_ble_eq_true rfl)⟩ ⟨(Nat.le_of_ble_eq_true rfl), (Nat.le_of_ble_eq_true rfl)⟩ dX4_offsetOf_96 (fun _ _ z => False.elim z) (fun v9 ws9 h153 => ?_))
                      obtain ⟨rfl, hw9⟩ := h153
                      subst ws9
                      dsimp only [mPush]
                      refine r_iret hX hE dX4_offsetOf_99 (Nat.le_of_ble_eq_true rfl) (Nat.le_of_ble_eq_true rfl) ⟨_, rfl, Or.inl ⟨by omega, ?_⟩⟩
                      unfold oOff
                      rw [if_neg (by omega)]
                      exact ⟨rfl, rfl⟩
  · rcases zst1 c3 with ⟨hx, e0⟩ | ⟨hx, hy, e0⟩
    · rw [e0]
      have hx := of_decide_eq_true hx
      refine r_iconstZ hX dX4_offsetOf_12 ?_
      exact r_iret hX hE dX4_offsetOf_13 (Nat.le_of_ble_eq_true rfl) (Nat.le_of_ble_eq_true rfl) ⟨_, rfl, Or.inr (Or.inl ⟨by omega, rfl⟩)⟩
    · exact absurd hy (by decide)
set_option maxHeartbeats 4000000 in
set_option maxRecDepth 20000 in
theorem z_X4_seconds (ad ae : Nat → Nat) (cs : ClassId × ClassId × ClassId) (K : mK) (S : mS) (th : Int32) (rest : va_W) (hS : sWF S) (a0 : Int) (h0 : rJ a0)  : mCt (mTy cs) yX4_seconds cX4_seconds 2 (some .int) ⟨2, 0, 0, 45⟩ [.ref (ae 0), .int (iZ a0)] (mRw ad ae cs K (mJof S th) rest) (fun v ws' => ∃ r : Int32, v = some (.int r) ∧ (((((0 ≤ a0 ∧ a0 < 4)) ∧ (0 ≤ (0 : Int))) ∧ r = iZ (sof S a0.toNat) ∧ ws' = mRw ad ae cs K (mJof S 0) rest) ∨ (¬ ((0 ≤ a0 ∧ a0 < 4)) ∧ ws' = mRw ad ae cs K (mJof S 1) rest) ∨ (((0 ≤ a0 ∧ a0 < 4)) ∧ ¬ (0 ≤ (0 : Int)) ∧ ws' = mRw ad ae cs K (mJof S 2) rest))) mNo := by
  refine mCt.of (by decide +kernel) (Nat.le_of_ble_eq_true rfl) (fun X hX hE => ?_)
  replace hX : mOK X RX4 cX4_seconds 2 ⟨2, 0, 0, 45⟩ [] (mTy cs) := hX
  refine r_aload_n hX dX4_seconds_0 rfl rfl (r_iload_n hX dX4_seconds_1 rfl rfl (r_callS hX (z_X4_isNone _ _ _ (by first | with_reducible assumption | decide | omega)) ks_X4_61 rfl rfl (Nat.le_of_ble_eq_true rfl) ⟨(Nat.le_of_ble_eq_true rfl), (Nat.le_of_ble_eq_true rfl)⟩ ⟨(Nat.le_of_ble_eq_true rfl), (Nat.le_of_ble_eq_true rfl)⟩ dX4_seconds_2 (fun _ _ z => False.elim z) (fun v9 ws9 h1 => ?_)))
  obtain ⟨rfl, hw9⟩ := h1
  subst ws9
  dsimp only [mPush]
  refine r_iconst (v := b2i false) hX dX4_seconds_5 (by decide) (r_callV hX (z_X4_isStopped ad ae cs K S th rest (decide (¬ (0 ≤ a0 ∧ a0 < 4))) false) kv_X4_68 14 rfl rfl rfl rfl (Nat.le_of_ble_eq_true rfl) ⟨(Nat.le_of_ble_eq_true rfl), (Nat.le_of_ble_eq_true rfl)⟩ ⟨(Nat.le_of_ble_eq_true rfl), (Nat.le_of_ble_eq_true rfl)⟩ dX4_seconds_6 (fun _ _ z => False.elim z) (fun v9 ws9 h2 => ?_))
  obtain ⟨rfl, hw9⟩ := h2
  subst ws9
  dsimp only [mPush]
  refine r_if_eqB (tgt := 16) hX dX4_seconds_9 (by decide) (fun c3 => ?_) (fun c3 => ?_)
  · obtain ⟨⟨hx, hy⟩, e0⟩ := zst0 c3
    have hx := of_decide_eq_false hx
    rw [e0]
    refine r_aload_n hX dX4_seconds_16 rfl rfl (r_get hX kf_X4_7 14 rfl rfl dX4_seconds_17 (r_iload_n hX dX4_seconds_20 rfl rfl (r_ialdZ hX 15 0 rfl rfl (a0).toNat (by first | with_reducible assumption | decide | omega) (by first | with_reducible assumption | decide | omega) (by decide) dX4_seconds_21 (r_iret hX hE dX4_seconds_22 (Nat.le_of_ble_eq_true rfl) (Nat.le_of_ble_eq_true rfl) ⟨_, rfl, Or.inl ⟨by omega, congrArg iZ ?_, rfl⟩⟩))))
    rfl
  · rcases zst1 c3 with ⟨hx, e0⟩ | ⟨hx, hy, e0⟩
    · rw [e0]
      have hx := of_decide_eq_true hx
      refine r_iconstZ hX dX4_seconds_12 (r_goto (tgt := 22) hX dX4_seconds_13 (by decide) ?_)
      exact r_iret hX hE dX4_seconds_22 (Nat.le_of_ble_eq_true rfl) (Nat.le_of_ble_eq_true rfl) ⟨_, rfl, Or.inr (Or.inl ⟨by omega, rfl⟩)⟩
    · exact absurd hy (by decide)
set_option maxHeartbeats 4000000 in
set_option maxRecDepth 20000 in
theorem z_X4_orderOffset (ad ae : Nat → Nat) (cs : ClassId × ClassId × ClassId) (K : mK) (S : mS) (th : Int32) (rest : va_W) (hS : sWF S) (a0 : Int) (h0 : rJ a0) (a1 : Int) (h1 : rJ a1)  : mCt (mTy cs) yX4_orderOffset cX4_orderOffset 3 (some .int) ⟨2, 0, 0, 45⟩ [.ref (ae 0), .int (iZ a0), .int (iZ a1)] (mRw ad ae cs K (mJof S th) rest) (fun v ws' => ∃ r : Int32, v = some (.int r) ∧ (((((0 ≤ a0 ∧ a0 < 4) ∧ (0 ≤ a1 ∧ a1 < 4)) ∧ (0 ≤ (0 : Int))) ∧ r = iZ (cmpZ (sof S a1.toNat) (sof S a0.toNat)) ∧ ws' = mRw ad ae cs K (mJof S 0) rest) ∨ (¬ ((0 ≤ a0 ∧ a0 < 4) ∧ (0 ≤ a1 ∧ a1 < 4)) ∧ ws' = mRw ad ae cs K (mJof S 1) rest) ∨ (((0 ≤ a0 ∧ a0 < 4) ∧ (0 ≤ a1 ∧ a1 < 4)) ∧ ¬ (0 ≤ (0 : Int)) ∧ ws' = mRw ad ae cs K (mJof S 2) rest))) mNo := by
  refine mCt.of (by decide +kernel) (Nat.le_of_ble_eq_true rfl) (fun X hX hE => ?_)
  replace hX : mOK X RX4 cX4_orderOffset 3 ⟨2, 0, 0, 45⟩ [] (mTy cs) := hX
  refine r_aload_n hX dX4_orderOffset_0 rfl rfl (r_iload_n hX dX4_orderOffset_1 rfl rfl (r_callS hX (z_X4_isNone _ _ _ (by first | with_reducible assumption | decide | omega)) ks_X4_61 rfl rfl (Nat.le_of_ble_eq_true rfl) ⟨(Nat.le_of_ble_eq_true rfl), (Nat.le_of_ble_eq_true rfl)⟩ ⟨(Nat.le_of_ble_eq_true rfl), (Nat.le_of_ble_eq_true rfl)⟩ dX4_orderOffset_2 (fun _ _ z => False.elim z) (fun v9 ws9 h1 => ?_)))
  obtain ⟨rfl, hw9⟩ := h1
  subst ws9
  dsimp only [mPush]
  refine r_if_neB (tgt := 15) hX dX4_orderOffset_5 (by decide) (fun c2 => ?_) (fun c2 => ?_)
  · have c2 := of_decide_eq_true c2
    refine r_iconst (v := b2i true) hX dX4_orderOffset_15 (by decide) (r_goto (tgt := 20) hX dX4_orderOffset_16 (by decide) (r_iconst (v := b2i false) hX dX4_orderOffset_20 (by decide) (r_callV hX (z_X4_isStopped ad ae cs K S th rest true false) kv_X4_68 14 rfl rfl rfl rfl (Nat.le_of_ble_eq_true rfl) ⟨(Nat.le_of_ble_eq_true rfl), (Nat.le_of_ble_eq_true rfl)⟩ ⟨(Nat.le_of_ble_eq_true rfl), (Nat.le_of_ble_eq_true rfl)⟩ dX4_orderOffset_21 (fun _ _ z => False.elim z) (fun v9 ws9 h3 => ?_))))
    obtain ⟨rfl, hw9⟩ := h3
    subst ws9
    dsimp only [mPush]
    refine r_if_eqB (tgt := 31) hX dX4_orderOffset_24 (by decide) (fun c4 => ?_) (fun c4 => ?_)
    · exact absurd c4 (by simp)
    · rcases zst1 c4 with ⟨hx, e0⟩ | ⟨hx, hy, e0⟩
      · rw [e0]
        refine r_iconstZ hX dX4_orderOffset_27 (r_goto (tgt := 48) hX dX4_orderOffset_28 (by decide) ?_)
        exact r_iret hX hE dX4_orderOffset_48 (Nat.le_of_ble_eq_true rfl) (Nat.le_of_ble_eq_true rfl) ⟨_, rfl, Or.inr (Or.inl ⟨by omega, rfl⟩)⟩
      · exact absurd hx (by decide)
  · have c2 := of_decide_eq_false c2
    refine r_iload_n hX dX4_orderOffset_8 rfl rfl (r_callS hX (z_X4_isNone _ _ _ (by first | with_reducible assumption | decide | omega)) ks_X4_61 rfl rfl (Nat.le_of_ble_eq_true rfl) ⟨(Nat.le_of_ble_eq_true rfl), (Nat.le_of_ble_eq_true rfl)⟩ ⟨(Nat.le_of_ble_eq_true rfl), (Nat.le_of_ble_eq_true rfl)⟩ dX4_orderOffset_9 (fun _ _ z => False.elim z) (fun v9 ws9 h5 => ?_))
    obtain ⟨rfl, hw9⟩ := h5
    subst ws9
    dsimp only [mPush]
    refine r_if_eqB (tgt := 19) hX dX4_orderOffset_12 (by decide) (fun c6 => ?_) (fun c6 => ?_)
    · have c6 := of_decide_eq_false c6
      refine r_iconst (v := b2i false) hX dX4_orderOffset_19 (by decide) (r_iconst (v := b2i false) hX dX4_orderOffset_20 (by decide) (r_callV hX (z_X4_isStopped ad ae cs K S th rest false false) kv_X4_68 14 rfl rfl rfl rfl (Nat.le_of_ble_eq_true rfl) ⟨(Nat.le_of_ble_eq_true rfl), (Nat.le_of_ble_eq_true rfl)⟩ ⟨(Nat.le_of_ble_eq_true rfl), (Nat.le_of_ble_eq_true rfl)⟩ dX4_orderOffset_21 (fun _ _ z => False.elim z) (fun v9 ws9 h7 => ?_)))
      obtain ⟨rfl, hw9⟩ := h7
      subst ws9
      dsimp only [mPush]
      refine r_if_eqB (tgt := 31) hX dX4_orderOffset_24 (by decide) (fun c8 => ?_) (fun c8 => ?_)
      · obtain ⟨⟨hx, hy⟩, e0⟩ := zst0 c8
        rw [e0]
        have hof0 := hS.1 a0.toNat (by omega)
        have hof1 := hS.1 a1.toNat (by omega)
        refine r_aload_n hX dX4_orderOffset_31 rfl rfl (r_get hX kf_X4_7 14 rfl rfl dX4_orderOffset_32 (r_iload_n hX dX4_orderOffset_35 rfl rfl (r_ialdZ hX 15 0 rfl rfl (a1).toNat (by first | with_reducible assumption | decide | omega) (by first | with_reducible assumption | decide | omega) (by decide) dX4_orderOffset_36 (r_i2lZ hX dX4_orderOffset_37 (by first | with_reducible assumption | decide | omega) (r_aload_n hX dX4_orderOffset_38 rfl rfl (r_get hX kf_X4_7 14 rfl rfl dX4_orderOffset_39 (r_iload_n hX dX4_orderOffset_42 rfl rfl ?_)))))))
        refine r_ialdZ hX 15 0 rfl rfl (a0).toNat (by first | with_reducible assumption | decide | omega) (by first | with_reducible assumption | decide | omega) (by decide) dX4_orderOffset_43 (r_i2lZ hX dX4_orderOffset_44 (by first | with_reducible assumption | decide | omega) (r_callS hX (z_X4_order _ _ _ _ (by first | with_reducible assumption | decide | omega) (by first | with_reducible assumption | decide | omega)) ks_X4_88 rfl rfl (Nat.le_of_ble_eq_true rfl) ⟨(Nat.le_of_ble_eq_true rfl), (Nat.le_of_ble_eq_true rfl)⟩ ⟨(Nat.le_of_ble_eq_true rfl), (Nat.le_of_ble_eq_true rfl)⟩ dX4_orderOffset_45 (fun _ _ z => False.elim z) (fun v9 ws9 h9 => ?_)))
        obtain ⟨rfl, hw9⟩ := h9
        subst ws9
        dsimp only [mPush]
        have hcm9 := cmpZ_b (sof S ((a1).toNat)) (sof S ((a0).toNat))
        refine r_iret hX hE dX4_orderOffset_48 (Nat.le_of_ble_eq_true rfl) (Nat.le_of_ble_eq_true rfl) ⟨_, rfl, Or.inl ⟨by omega, congrArg iZ ?_, rfl⟩⟩
        rfl
      · rcases zst1 c8 with ⟨hx, e0⟩ | ⟨hx, hy, e0⟩
        · exact absurd hx (by decide)
        · exact absurd hy (by decide)
    · have c6 := of_decide_eq_true c6
      refine r_iconst (v := b2i true) hX dX4_orderOffset_15 (by decide) (r_goto (tgt := 20) hX dX4_orderOffset_16 (by decide) (r_iconst (v := b2i false) hX dX4_orderOffset_20 (by decide) (r_callV hX (z_X4_isStopped ad ae cs K S th rest true false) kv_X4_68 14 rfl rfl rfl rfl (Nat.le_of_ble_eq_true rfl) ⟨(Nat.le_of_ble_eq_true rfl), (Nat.le_of_ble_eq_true rfl)⟩ ⟨(Nat.le_of_ble_eq_true rfl), (Nat.le_of_ble_eq_true rfl)⟩ dX4_orderOffset_21 (fun _ _ z => False.elim z) (fun v9 ws9 h10 => ?_))))
      obtain ⟨rfl, hw9⟩ := h10
      subst ws9
      dsimp only [mPush]
      refine r_if_eqB (tgt := 31) hX dX4_orderOffset_24 (by decide) (fun c11 => ?_) (fun c11 => ?_)
      · exact absurd c11 (by simp)
      · rcases zst1 c11 with ⟨hx, e0⟩ | ⟨hx, hy, e0⟩
        · rw [e0]
          refine r_iconstZ hX dX4_orderOffset_27 (r_goto (tgt := 48) hX dX4_orderOffset_28 (by decide) ?_)
          exact r_iret hX hE dX4_orderOffset_48 (Nat.le_of_ble_eq_true rfl) (Nat.le_of_ble_eq_true rfl) ⟨_, rfl, Or.inr (Or.inl ⟨by omega, rfl⟩)⟩
        · exact absurd hx (by decide)
set_option maxHeartbeats 4000000 in
set_option maxRecDepth 20000 in
theorem z_X4_moment (ad ae : Nat → Nat) (cs : ClassId × ClassId × ClassId) (K : mK) (S : mS) (th : Int32) (rest : va_W) (hS : sWF S) (a0 : Int) (h0 : rJ a0) (a1 : Int) (h1 : rJ a1) (a2 : Int) (h2 : rJ a2)  : mCt (mTy cs) yX4_moment cX4_moment 4 (some .int) ⟨3, 0, 0, 69⟩ [.ref (ae 0), .int (iZ a0), .int (iZ a1), .int (iZ a2)] (mRw ad ae cs K (mJof S th) rest) (fun v ws' => ∃ r : Int32, v = some (.int r) ∧ (((((0 ≤ a0 ∧ a0 < 4)) ∧ (0 ≤ (0 : Int))) ∧ r = iZ (oNum S a0.toNat (a1 * 1000000000 + a2)).1 ∧ ws' = mRw ad ae cs K (mJof (oNum S a0.toNat (a1 * 1000000000 + a2)).2 0) rest) ∨ (¬ ((0 ≤ a0 ∧ a0 < 4)) ∧ ws' = mRw ad ae cs K (mJof S 1) rest) ∨ (((0 ≤ a0 ∧ a0 < 4)) ∧ ¬ (0 ≤ (0 : Int)) ∧ ws' = mRw ad ae cs K (mJof S 2) rest))) mNo := by
  refine mCt.of (by decide +kernel) (Nat.le_of_ble_eq_true rfl) (fun X hX hE => ?_)
  replace hX : mOK X RX4 cX4_moment 4 ⟨3, 0, 0, 69⟩ [] (mTy cs) := hX
  refine r_aload_n hX dX4_moment_0 rfl rfl (r_iload_n hX dX4_moment_1 rfl rfl (r_callS hX (z_X4_isNone _ _ _ (by first | with_reducible assumption | decide | omega)) ks_X4_61 rfl rfl (Nat.le_of_ble_eq_true rfl) ⟨(Nat.le_of_ble_eq_true rfl), (Nat.le_of_ble_eq_true rfl)⟩ ⟨(Nat.le_of_ble_eq_true rfl), (Nat.le_of_ble_eq_true rfl)⟩ dX4_moment_2 (fun _ _ z => False.elim z) (fun v9 ws9 h1 => ?_)))
  obtain ⟨rfl, hw9⟩ := h1
  subst ws9
  dsimp only [mPush]
  refine r_iconst (v := b2i false) hX dX4_moment_5 (by decide) (r_callV hX (z_X4_isStopped ad ae cs K S th rest (decide (¬ (0 ≤ a0 ∧ a0 < 4))) false) kv_X4_68 14 rfl rfl rfl rfl (Nat.le_of_ble_eq_true rfl) ⟨(Nat.le_of_ble_eq_true rfl), (Nat.le_of_ble_eq_true rfl)⟩ ⟨(Nat.le_of_ble_eq_true rfl), (Nat.le_of_ble_eq_true rfl)⟩ dX4_moment_6 (fun _ _ z => False.elim z) (fun v9 ws9 h2 => ?_))
  obtain ⟨rfl, hw9⟩ := h2
  subst ws9
  dsimp only [mPush]
  refine r_if_eqB (tgt := 16) hX dX4_moment_9 (by decide) (fun c3 => ?_) (fun c3 => ?_)
  · obtain ⟨⟨hx, hy⟩, e0⟩ := zst0 c3
    have hx := of_decide_eq_false hx
    rw [e0]
    refine r_aload_n hX dX4_moment_16 rfl rfl (r_iload_n hX dX4_moment_17 rfl rfl (r_iload_n hX dX4_moment_18 rfl rfl (r_i2lZ hX dX4_moment_19 (by first | with_reducible assumption | decide | omega) (r_ldc2Z (z := 1000000000) hX kc_X4_96 (by decide +kernel) dX4_moment_20 (r_lmulZ hX dX4_moment_23 (r_iload_n hX dX4_moment_24 rfl rfl (r_i2lZ hX dX4_moment_25 (by first | with_reducible assumption | decide | omega) ?_)))))))
    refine r_laddZ hX dX4_moment_26 (r_callV hX (z_X4_become ad ae cs K S 0 rest hS _ (a0).toNat (by first | with_reducible assumption | decide | omega) (by first | with_reducible assumption | decide | omega) _ (by first | with_reducible assumption | decide | omega)) kv_X4_105 14 rfl rfl rfl rfl (Nat.le_of_ble_eq_true rfl) ⟨(Nat.le_of_ble_eq_true rfl), (Nat.le_of_ble_eq_true rfl)⟩ ⟨(Nat.le_of_ble_eq_true rfl), (Nat.le_of_ble_eq_true rfl)⟩ dX4_moment_27 (fun _ _ z => False.elim z) (fun v9 ws9 h4 => ?_))
    obtain ⟨rfl, hw9⟩ := h4
    subst ws9
    dsimp only [mPush]
    refine r_iret hX hE dX4_moment_30 (Nat.le_of_ble_eq_true rfl) (Nat.le_of_ble_eq_true rfl) ⟨_, rfl, Or.inl ⟨by omega, ?_⟩⟩
    exact ⟨rfl, rfl⟩
  · rcases zst1 c3 with ⟨hx, e0⟩ | ⟨hx, hy, e0⟩
    · rw [e0]
      have hx := of_decide_eq_true hx
      refine r_iconstZ hX dX4_moment_12 (r_goto (tgt := 30) hX dX4_moment_13 (by decide) ?_)
      exact r_iret hX hE dX4_moment_30 (Nat.le_of_ble_eq_true rfl) (Nat.le_of_ble_eq_true rfl) ⟨_, rfl, Or.inr (Or.inl ⟨by omega, rfl⟩)⟩
    · exact absurd hy (by decide)
set_option maxHeartbeats 4000000 in
set_option maxRecDepth 20000 in
theorem z_X4_milli (ad ae : Nat → Nat) (cs : ClassId × ClassId × ClassId) (K : mK) (S : mS) (th : Int32) (rest : va_W) (hS : sWF S) (a0 : Int) (h0 : rJ a0) (a1 : Int) (h1 : rJ a1) (a2 : Int) (h2 : rJ a2)  : mCt (mTy cs) yX4_milli cX4_milli 4 (some .int) ⟨3, 0, 0, 69⟩ [.ref (ae 0), .int (iZ a0), .int (iZ a1), .int (iZ a2)] (mRw ad ae cs K (mJof S th) rest) (fun v ws' => ∃ r : Int32, v = some (.int r) ∧ (((((0 ≤ a0 ∧ a0 < 4)) ∧ (0 ≤ (0 : Int))) ∧ r = iZ (oNum S a0.toNat (a1 * 1000000000 + a2 * 1000000)).1 ∧ ws' = mRw ad ae cs K (mJof (oNum S a0.toNat (a1 * 1000000000 + a2 * 1000000)).2 0) rest) ∨ (¬ ((0 ≤ a0 ∧ a0 < 4)) ∧ ws' = mRw ad ae cs K (mJof S 1) rest) ∨ (((0 ≤ a0 ∧ a0 < 4)) ∧ ¬ (0 ≤ (0 : Int)) ∧ ws' = mRw ad ae cs K (mJof S 2) rest))) mNo := by
  refine mCt.of (by decide +kernel) (Nat.le_of_ble_eq_true rfl) (fun X hX hE => ?_)
  replace hX : mOK X RX4 cX4_milli 4 ⟨3, 0, 0, 69⟩ [] (mTy cs) := hX
  refine r_aload_n hX dX4_milli_0 rfl rfl (r_iload_n hX dX4_milli_1 rfl rfl (r_callS hX (z_X4_isNone _ _ _ (by first | with_reducible assumption | decide | omega)) ks_X4_61 rfl rfl (Nat.le_of_ble_eq_true rfl) ⟨(Nat.le_of_ble_eq_true rfl), (Nat.le_of_ble_eq_true rfl)⟩ ⟨(Nat.le_of_ble_eq_true rfl), (Nat.le_of_ble_eq_true rfl)⟩ dX4_milli_2 (fun _ _ z => False.elim z) (fun v9 ws9 h1 => ?_)))
  obtain ⟨rfl, hw9⟩ := h1
  subst ws9
  dsimp only [mPush]
  refine r_iconst (v := b2i false) hX dX4_milli_5 (by decide) (r_callV hX (z_X4_isStopped ad ae cs K S th rest (decide (¬ (0 ≤ a0 ∧ a0 < 4))) false) kv_X4_68 14 rfl rfl rfl rfl (Nat.le_of_ble_eq_true rfl) ⟨(Nat.le_of_ble_eq_true rfl), (Nat.le_of_ble_eq_true rfl)⟩ ⟨(Nat.le_of_ble_eq_true rfl), (Nat.le_of_ble_eq_true rfl)⟩ dX4_milli_6 (fun _ _ z => False.elim z) (fun v9 ws9 h2 => ?_))
  obtain ⟨rfl, hw9⟩ := h2
  subst ws9
  dsimp only [mPush]
  refine r_if_eqB (tgt := 16) hX dX4_milli_9 (by decide) (fun c3 => ?_) (fun c3 => ?_)
  · obtain ⟨⟨hx, hy⟩, e0⟩ := zst0 c3
    have hx := of_decide_eq_false hx
    rw [e0]
    refine r_aload_n hX dX4_milli_16 rfl rfl (r_iload_n hX dX4_milli_17 rfl rfl (r_iload_n hX dX4_milli_18 rfl rfl (r_i2lZ hX dX4_milli_19 (by first | with_reducible assumption | decide | omega) (r_ldc2Z (z := 1000) hX kc_X4_109 (by decide +kernel) dX4_milli_20 (r_lmulZ hX dX4_milli_23 (r_iload_n hX dX4_milli_24 rfl rfl (r_i2lZ hX dX4_milli_25 (by first | with_reducible assumption | decide | omega) ?_)))))))
    refine r_laddZ hX dX4_milli_26 (r_ldc2Z (z := 1000000) hX kc_X4_111 (by decide +kernel) dX4_milli_27 (r_lmulZ hX dX4_milli_30 (r_callV hX (z_X4_become ad ae cs K S 0 rest hS _ (a0).toNat (by first | with_reducible assumption | decide | omega) (by first | with_reducible assumption | decide | omega) _ (by first | with_reducible assumption | decide | omega)) kv_X4_105 14 rfl rfl rfl rfl (Nat.le_of_ble_eq_true rfl) ⟨(Nat.le_of_ble_eq_true rfl), (Nat.le_of_ble_eq_true rfl)⟩ ⟨(Nat.le_of_ble_eq_true rfl), (Nat.le_of_ble_eq_true rfl)⟩ dX4_milli_31 (fun _ _ z => False.elim z) (fun v9 ws9 h4 => ?_))))
    obtain ⟨rfl, hw9⟩ := h4
    subst ws9
    dsimp only [mPush]
    refine r_iret hX hE dX4_milli_34 (Nat.le_of_ble_eq_true rfl) (Nat.le_of_ble_eq_true rfl) ⟨_, rfl, Or.inl ⟨by omega, ?_⟩⟩
    exact oeR (oNum_c (by omega))
  · rcases zst1 c3 with ⟨hx, e0⟩ | ⟨hx, hy, e0⟩
    · rw [e0]
      have hx := of_decide_eq_true hx
      refine r_iconstZ hX dX4_milli_12 (r_goto (tgt := 34) hX dX4_milli_13 (by decide) ?_)
      exact r_iret hX hE dX4_milli_34 (Nat.le_of_ble_eq_true rfl) (Nat.le_of_ble_eq_true rfl) ⟨_, rfl, Or.inr (Or.inl ⟨by omega, rfl⟩)⟩
    · exact absurd hy (by decide)
set_option maxHeartbeats 4000000 in
set_option maxRecDepth 20000 in
theorem z_X4_move (ad ae : Nat → Nat) (cs : ClassId × ClassId × ClassId) (K : mK) (S : mS) (th : Int32) (rest : va_W) (hS : sWF S) (a0 : Int) (h0 : rJ a0) (a1 : Int) (h1 : rJ a1) (a2 : Int) (h2 : rJ a2) (b3 : Bool)  : mCt (mTy cs) yX4_move cX4_move 7 (some .int) ⟨3, 0, 0, 69⟩ [.ref (ae 0), .int (iZ a0), .int (iZ a1), .int (iZ a2), .int (b2i b3)] (mRw ad ae cs K (mJof S th) rest) (fun v ws' => ∃ r : Int32, v = some (.int r) ∧ (((((0 ≤ a0 ∧ a0 < 4)) ∧ (0 ≤ a1 ∧ a1 ≤ 2)) ∧ r = iZ (oNum S a0.toNat (snu S a0.toNat + zSg a2 b3 * zUn a1)).1 ∧ ws' = mRw ad ae cs K (mJof (oNum S a0.toNat (snu S a0.toNat + zSg a2 b3 * zUn a1)).2 0) rest) ∨ (¬ ((0 ≤ a0 ∧ a0 < 4)) ∧ ws' = mRw ad ae cs K (mJof S 1) rest) ∨ (((0 ≤ a0 ∧ a0 < 4)) ∧ ¬ (0 ≤ a1 ∧ a1 ≤ 2) ∧ ws' = mRw ad ae cs K (mJof S 2) rest))) mNo := by
  refine mCt.of (by decide +kernel) (Nat.le_of_ble_eq_true rfl) (fun X hX hE => ?_)
  replace hX : mOK X RX4 cX4_move 7 ⟨3, 0, 0, 69⟩ [] (mTy cs) := hX
  refine r_aload_n hX dX4_move_0 rfl rfl (r_iload_n hX dX4_move_1 rfl rfl (r_callS hX (z_X4_isNone _ _ _ (by first | with_reducible assumption | decide | omega)) ks_X4_61 rfl rfl (Nat.le_of_ble_eq_true rfl) ⟨(Nat.le_of_ble_eq_true rfl), (Nat.le_of_ble_eq_true rfl)⟩ ⟨(Nat.le_of_ble_eq_true rfl), (Nat.le_of_ble_eq_true rfl)⟩ dX4_move_2 (fun _ _ z => False.elim z) (fun v9 ws9 h1 => ?_)))
  obtain ⟨rfl, hw9⟩ := h1
  subst ws9
  dsimp only [mPush]
  refine r_iload_n hX dX4_move_5 rfl rfl (r_i2lZ hX dX4_move_6 (by first | with_reducible assumption | decide | omega) (r_lconstZ (v := 0) hX dX4_move_7 rfl (r_ldc2Z (z := 2) hX kc_X4_42 (by decide +kernel) dX4_move_8 (r_callS hX (z_X4_isIn _ _ _ _ _ (by first | with_reducible assumption | decide | omega) (by first | with_reducible assumption | decide | omega) (by first | with_reducible assumption | decide | omega)) ks_X4_38 rfl rfl (Nat.le_of_ble_eq_true rfl) ⟨(Nat.le_of_ble_eq_true rfl), (Nat.le_of_ble_eq_true rfl)⟩ ⟨(Nat.le_of_ble_eq_true rfl), (Nat.le_of_ble_eq_true rfl)⟩ dX4_move_11 (fun _ _ z => False.elim z) (fun v9 ws9 h2 => ?_)))))
  obtain ⟨rfl, hw9⟩ := h2
  subst ws9
  dsimp only [mPush]
  refine r_if_neB (tgt := 21) hX dX4_move_14 (by decide) (fun c3 => ?_) (fun c3 => ?_)
  · have c3 := of_decide_eq_true c3
    refine r_iconst (v := b2i false) hX dX4_move_21 (by decide) (r_callV hX (z_X4_isStopped ad ae cs K S th rest (decide (¬ (0 ≤ a0 ∧ a0 < 4))) false) kv_X4_68 14 rfl rfl rfl rfl (Nat.le_of_ble_eq_true rfl) ⟨(Nat.le_of_ble_eq_true rfl), (Nat.le_of_ble_eq_true rfl)⟩ ⟨(Nat.le_of_ble_eq_true rfl), (Nat.le_of_ble_eq_true rfl)⟩ dX4_move_22 (fun _ _ z => False.elim z) (fun v9 ws9 h4 => ?_))
    obtain ⟨rfl, hw9⟩ := h4
    subst ws9
    dsimp only [mPush]
    refine r_if_eqB (tgt := 30) hX dX4_move_25 (by decide) (fun c5 => ?_) (fun c5 => ?_)
    · obtain ⟨⟨hx, hy⟩, e0⟩ := zst0 c5
      have hx := of_decide_eq_false hx
      rw [e0]
      have hnu := hS.2.1 a0.toNat (by omega)
      refine r_iload hX dX4_move_30 rfl (r_if_eqB (tgt := 41) hX dX4_move_32 (by decide) (fun c6 => ?_) (fun c6 => ?_))
      · have c6 := id c6
        refine r_iload_n hX dX4_move_41 rfl rfl (r_i2lZ hX dX4_move_42 (by first | with_reducible assumption | decide | omega) (r_iload_n hX dX4_move_43 rfl rfl (r_if_neZ (tgt := 53) hX dX4_move_44 (by decide) (by first | with_reducible assumption | decide | omega) (fun c7 => ?_) (fun c7 => ?_))))
        · refine r_iload_n hX dX4_move_53 rfl rfl (r_iconstZ hX dX4_move_54 (r_icmp_neZ (tgt := 64) hX dX4_move_55 (by decide) (by first | with_reducible assumption | decide | omega) (by decide) (fun c8 => ?_) (fun c8 => ?_)))
          · refine r_lconstZ (v := 1) hX dX4_move_64 rfl (r_lmulZ hX dX4_move_65 (r_lstore hX dX4_move_66 (by decide) rfl (r_aload_n hX dX4_move_68 rfl rfl (r_iload_n hX dX4_move_69 rfl rfl (r_aload_n hX dX4_move_70 rfl rfl (r_get hX kf_X4_13 14 rfl rfl dX4_move_71 (r_iload_n hX dX4_move_74 rfl rfl ?_)))))))
            refine r_laldZ hX 16 1 rfl rfl (a0).toNat (by first | with_reducible assumption | decide | omega) (by first | with_reducible assumption | decide | omega) (by decide) dX4_move_75 (r_lload hX dX4_move_76 rfl (r_laddZ hX dX4_move_78 (r_callV hX (z_X4_become ad ae cs K S 0 rest hS _ (a0).toNat (by first | with_reducible assumption | decide | omega) (by first | with_reducible assumption | decide | omega) _ (by first | with_reducible assumption | decide | omega)) kv_X4_105 14 rfl rfl rfl rfl (Nat.le_of_ble_eq_true rfl) ⟨(Nat.le_of_ble_eq_true rfl), (Nat.le_of_ble_eq_true rfl)⟩ ⟨(Nat.le_of_ble_eq_true rfl), (Nat.le_of_ble_eq_true rfl)⟩ dX4_move_79 (fun _ _ z => False.elim z) (fun v9 ws9 h9 => ?_))))
            obtain ⟨rfl, hw9⟩ := h9
            subst ws9
            dsimp only [mPush]
            refine r_iret hX hE dX4_move_82 (Nat.le_of_ble_eq_true rfl) (Nat.le_of_ble_eq_true rfl) ⟨_, rfl, Or.inl ⟨by omega, ?_⟩⟩
            first | rw [show b3 = true by assumption] | rw [show b3 = false by assumption]
            simp only [zSg, cond]
            first | rw [show zUn a1 = 1000000000 by unfold zUn; rw [if_pos (by omega)]] | rw [show zUn a1 = 1000000 by unfold zUn; rw [if_neg (by omega), if_pos (by omega)]] | rw [show zUn a1 = 1 by unfold zUn; rw [if_neg (by omega), if_neg (by omega)]]
            exact oeR (oNum_c (by omega))
          · refine r_ldc2Z (z := 1000000) hX kc_X4_111 (by decide +kernel) dX4_move_58 (r_goto (tgt := 65) hX dX4_move_61 (by decide) (r_lmulZ hX dX4_move_65 (r_lstore hX dX4_move_66 (by decide) rfl (r_aload_n hX dX4_move_68 rfl rfl (r_iload_n hX dX4_move_69 rfl rfl (r_aload_n hX dX4_move_70 rfl rfl (r_get hX kf_X4_13 14 rfl rfl dX4_move_71 ?_)))))))
            refine r_iload_n hX dX4_move_74 rfl rfl (r_laldZ hX 16 1 rfl rfl (a0).toNat (by first | with_reducible assumption | decide | omega) (by first | with_reducible assumption | decide | omega) (by decide) dX4_move_75 (r_lload hX dX4_move_76 rfl (r_laddZ hX dX4_move_78 (r_callV hX (z_X4_become ad ae cs K S 0 rest hS _ (a0).toNat (by first | with_reducible assumption | decide | omega) (by first | with_reducible assumption | decide | omega) _ (by first | with_reducible assumption | decide | omega)) kv_X4_105 14 rfl rfl rfl rfl (Nat.le_of_ble_eq_true rfl) ⟨(Nat.le_of_ble_eq_true rfl), (Nat.le_of_ble_eq_true rfl)⟩ ⟨(Nat.le_of_ble_eq_true rfl), (Nat.le_of_ble_eq_true rfl)⟩ dX4_move_79 (fun _ _ z => False.elim z) (fun v9 ws9 h10 => ?_)))))
            obtain ⟨rfl, hw9⟩ := h10
            subst ws9
            dsimp only [mPush]
            refine r_iret hX hE dX4_move_82 (Nat.le_of_ble_eq_true rfl) (Nat.le_of_ble_eq_true rfl) ⟨_, rfl, Or.inl ⟨by omega, ?_⟩⟩
            first | rw [show b3 = true by assumption] | rw [show b3 = false by assumption]
            simp only [zSg, cond]
            first | rw [show zUn a1 = 1000000000 by unfold zUn; rw [if_pos (by omega)]] | rw [show zUn a1 = 1000000 by unfold zUn; rw [if_neg (by omega), if_pos (by omega)]] | rw [show zUn a1 = 1 by unfold zUn; rw [if_neg (by omega), if_neg (by omega)]]
            exact oeR (oNum_c (by omega))
        · refine r_ldc2Z (z := 1000000000) hX kc_X4_96 (by decide +kernel) dX4_move_47 (r_goto (tgt := 65) hX dX4_move_50 (by decide) (r_lmulZ hX dX4_move_65 (r_lstore hX dX4_move_66 (by decide) rfl (r_aload_n hX dX4_move_68 rfl rfl (r_iload_n hX dX4_move_69 rfl rfl (r_aload_n hX dX4_move_70 rfl rfl (r_get hX kf_X4_13 14 rfl rfl dX4_move_71 ?_)))))))
          refine r_iload_n hX dX4_move_74 rfl rfl (r_laldZ hX 16 1 rfl rfl (a0).toNat (by first | with_reducible assumption | decide | omega) (by first | with_reducible assumption | decide | omega) (by decide) dX4_move_75 (r_lload hX dX4_move_76 rfl (r_laddZ hX dX4_move_78 (r_callV hX (z_X4_become ad ae cs K S 0 rest hS _ (a0).toNat (by first | with_reducible assumption | decide | omega) (by first | with_reducible assumption | decide | omega) _ (by first | with_reducible assumption | decide | omega)) kv_X4_105 14 rfl rfl rfl rfl (Nat.le_of_ble_eq_true rfl) ⟨(Nat.le_of_ble_eq_true rfl), (Nat.le_of_ble_eq_true rfl)⟩ ⟨(Nat.le_of_ble_eq_true rfl), (Nat.le_of_ble_eq_true rfl)⟩ dX4_move_79 (fun _ _ z => False.elim z) (fun v9 ws9 h11 => ?_)))))
          obtain ⟨rfl, hw9⟩ := h11
          subst ws9
          dsimp only [mPush]
          refine r_iret hX hE dX4_move_82 (Nat.le_of_ble_eq_true rfl) (Nat.le_of_ble_eq_true rfl) ⟨_, rfl, Or.inl ⟨by omega, ?_⟩⟩
          first | rw [show b3 = true by assumption] | rw [show b3 = false by assumption]
          simp only [zSg, cond]
          first | rw [show zUn a1 = 1000000000 by unfold zUn; rw [if_pos (by omega)]] | rw [show zUn a1 = 1000000 by unfold zUn; rw [if_neg (by omega), if_pos (by omega)]] | rw [show zUn a1 = 1 by unfold zUn; rw [if_neg (by omega), if_neg (by omega)]]
          exact oeR (oNum_c (by omega))
      · have c6 := id c6
        refine r_iload_n hX dX4_move_35 rfl rfl (r_i2lZ hX dX4_move_36 (by first | with_reducible assumption | decide | omega) (r_lnegZ hX dX4_move_37 (r_goto (tgt := 43) hX dX4_move_38 (by decide) (r_iload_n hX dX4_move_43 rfl rfl (r_if_neZ (tgt := 53) hX dX4_move_44 (by decide) (by first | with_reducible assumption | decide | omega) (fun c12 => ?_) (fun c12 => ?_))))))
        · refine r_iload_n hX dX4_move_53 rfl rfl (r_iconstZ hX dX4_move_54 (r_icmp_neZ (tgt := 64) hX dX4_move_55 (by decide) (by first | with_reducible assumption | decide | omega) (by decide) (fun c13 => ?_) (fun c13 => ?_)))
          · refine r_lconstZ (v := 1) hX dX4_move_64 rfl (r_lmulZ hX dX4_move_65 (r_lstore hX dX4_move_66 (by decide) rfl (r_aload_n hX dX4_move_68 rfl rfl (r_iload_n hX dX4_move_69 rfl rfl (r_aload_n hX dX4_move_70 rfl rfl (r_get hX kf_X4_13 14 rfl rfl dX4_move_71 (r_iload_n hX dX4_move_74 rfl rfl ?_)))))))
            refine r_laldZ hX 16 1 rfl rfl (a0).toNat (by first | with_reducible assumption | decide | omega) (by first | with_reducible assumption | decide | omega) (by decide) dX4_move_75 (r_lload hX dX4_move_76 rfl (r_laddZ hX dX4_move_78 (r_callV hX (z_X4_become ad ae cs K S 0 rest hS _ (a0).toNat (by first | with_reducible assumption | decide | omega) (by first | with_reducible assumption | decide | omega) _ (by first | with_reducible assumption | decide | omega)) kv_X4_105 14 rfl rfl rfl rfl (Nat.le_of_ble_eq_true rfl) ⟨(Nat.le_of_ble_eq_true rfl), (Nat.le_of_ble_eq_true rfl)⟩ ⟨(Nat.le_of_ble_eq_true rfl), (Nat.le_of_ble_eq_true rfl)⟩ dX4_move_79 (fun _ _ z => False.elim z) (fun v9 ws9 h14 => ?_))))
            obtain ⟨rfl, hw9⟩ := h14
            subst ws9
            dsimp only [mPush]
            refine r_iret hX hE dX4_move_82 (Nat.le_of_ble_eq_true rfl) (Nat.le_of_ble_eq_true rfl) ⟨_, rfl, Or.inl ⟨by omega, ?_⟩⟩
            first | rw [show b3 = true by assumption] | rw [show b3 = false by assumption]
            simp only [zSg, cond]
            first | rw [show zUn a1 = 1000000000 by unfold zUn; rw [if_pos (by omega)]] | rw [show zUn a1 = 1000000 by unfold zUn; rw [if_neg (by omega), if_pos (by omega)]] | rw [show zUn a1 = 1 by unfold zUn; rw [if_neg (by omega), if_neg (by omega)]]
            exact oeR (oNum_c (by omega))
          · refine r_ldc2Z (z := 1000000) hX kc_X4_111 (by decide +kernel) dX4_move_58 (r_goto (tgt := 65) hX dX4_move_61 (by decide) (r_lmulZ hX dX4_move_65 (r_lstore hX dX4_move_66 (by decide) rfl (r_aload_n hX dX4_move_68 rfl rfl (r_iload_n hX dX4_move_69 rfl rfl (r_aload_n hX dX4_move_70 rfl rfl (r_get hX kf_X4_13 14 rfl rfl dX4_move_71 ?_)))))))
            refine r_iload_n hX dX4_move_74 rfl rfl (r_laldZ hX 16 1 rfl rfl (a0).toNat (by first | with_reducible assumption | decide | omega) (by first | with_reducible assumption | decide | omega) (by decide) dX4_move_75 (r_lload hX dX4_move_76 rfl (r_laddZ hX dX4_move_78 (r_callV hX (z_X4_become ad ae cs K S 0 rest hS _ (a0).toNat (by first | with_reducible assumption | decide | omega) (by first | with_reducible assumption | decide | omega) _ (by first | with_reducible assumption | decide | omega)) kv_X4_105 14 rfl rfl rfl rfl (Nat.le_of_ble_eq_true rfl) ⟨(Nat.le_of_ble_eq_true rfl), (Nat.le_of_ble_eq_true rfl)⟩ ⟨(Nat.le_of_ble_eq_true rfl), (Nat.le_of_ble_eq_true rfl)⟩ dX4_move_79 (fun _ _ z => False.elim z) (fun v9 ws9 h15 => ?_)))))
            obtain ⟨rfl, hw9⟩ := h15
            subst ws9
            dsimp only [mPush]
            refine r_iret hX hE dX4_move_82 (Nat.le_of_ble_eq_true rfl) (Nat.le_of_ble_eq_true rfl) ⟨_, rfl, Or.inl ⟨by omega, ?_⟩⟩
            first | rw [show b3 = true by assumption] | rw [show b3 = false by assumption]
            simp only [zSg, cond]
            first | rw [show zUn a1 = 1000000000 by unfold zUn; rw [if_pos (by omega)]] | rw [show zUn a1 = 1000000 by unfold zUn; rw [if_neg (by omega), if_pos (by omega)]] | rw [show zUn a1 = 1 by unfold zUn; rw [if_neg (by omega), if_neg (by omega)]]
            exact oeR (oNum_c (by omega))
        · refine r_ldc2Z (z := 1000000000) hX kc_X4_96 (by decide +kernel) dX4_move_47 (r_goto (tgt := 65) hX dX4_move_50 (by decide) (r_lmulZ hX dX4_move_65 (r_lstore hX dX4_move_66 (by decide) rfl (r_aload_n hX dX4_move_68 rfl rfl (r_iload_n hX dX4_move_69 rfl rfl (r_aload_n hX dX4_move_70 rfl rfl (r_get hX kf_X4_13 14 rfl rfl dX4_move_71 ?_)))))))
          refine r_iload_n hX dX4_move_74 rfl rfl (r_laldZ hX 16 1 rfl rfl (a0).toNat (by first | with_reducible assumption | decide | omega) (by first | with_reducible assumption | decide | omega) (by decide) dX4_move_75 (r_lload hX dX4_move_76 rfl (r_laddZ hX dX4_move_78 (r_callV hX (z_X4_become ad ae cs K S 0 rest hS _ (a0).toNat (by first | with_reducible assumption | decide | omega) (by first | with_reducible assumption | decide | omega) _ (by first | with_reducible assumption | decide | omega)) kv_X4_105 14 rfl rfl rfl rfl (Nat.le_of_ble_eq_true rfl) ⟨(Nat.le_of_ble_eq_true rfl), (Nat.le_of_ble_eq_true rfl)⟩ ⟨(Nat.le_of_ble_eq_true rfl), (Nat.le_of_ble_eq_true rfl)⟩ dX4_move_79 (fun _ _ z => False.elim z) (fun v9 ws9 h16 => ?_)))))
          obtain ⟨rfl, hw9⟩ := h16
          subst ws9
          dsimp only [mPush]
          refine r_iret hX hE dX4_move_82 (Nat.le_of_ble_eq_true rfl) (Nat.le_of_ble_eq_true rfl) ⟨_, rfl, Or.inl ⟨by omega, ?_⟩⟩
          first | rw [show b3 = true by assumption] | rw [show b3 = false by assumption]
          simp only [zSg, cond]
          first | rw [show zUn a1 = 1000000000 by unfold zUn; rw [if_pos (by omega)]] | rw [show zUn a1 = 1000000 by unfold zUn; rw [if_neg (by omega), if_pos (by omega)]] | rw [show zUn a1 = 1 by unfold zUn; rw [if_neg (by omega), if_neg (by omega)]]
          exact oeR (oNum_c (by omega))
    · rcases zst1 c5 with ⟨hx, e0⟩ | ⟨hx, hy, e0⟩
      · rw [e0]
        have hx := of_decide_eq_true hx
        refine r_iconstZ hX dX4_move_28 ?_
        exact r_iret hX hE dX4_move_29 (Nat.le_of_ble_eq_true rfl) (Nat.le_of_ble_eq_true rfl) ⟨_, rfl, Or.inr (Or.inl ⟨by omega, rfl⟩)⟩
      · exact absurd hy (by decide)
  · have c3 := of_decide_eq_false c3
    refine r_iconst (v := b2i true) hX dX4_move_17 (by decide) (r_goto (tgt := 22) hX dX4_move_18 (by decide) (r_callV hX (z_X4_isStopped ad ae cs K S th rest (decide (¬ (0 ≤ a0 ∧ a0 < 4))) true) kv_X4_68 14 rfl rfl rfl rfl (Nat.le_of_ble_eq_true rfl) ⟨(Nat.le_of_ble_eq_true rfl), (Nat.le_of_ble_eq_true rfl)⟩ ⟨(Nat.le_of_ble_eq_true rfl), (Nat.le_of_ble_eq_true rfl)⟩ dX4_move_22 (fun _ _ z => False.elim z) (fun v9 ws9 h17 => ?_)))
    obtain ⟨rfl, hw9⟩ := h17
    subst ws9
    dsimp only [mPush]
    refine r_if_eqB (tgt := 30) hX dX4_move_25 (by decide) (fun c18 => ?_) (fun c18 => ?_)
    · exact absurd c18 (by simp)
    · rcases zst1 c18 with ⟨hx, e0⟩ | ⟨hx, hy, e0⟩
      · rw [e0]
        have hx := of_decide_eq_true hx
        refine r_iconstZ hX dX4_move_28 ?_
        exact r_iret hX hE dX4_move_29 (Nat.le_of_ble_eq_true rfl) (Nat.le_of_ble_eq_true rfl) ⟨_, rfl, Or.inr (Or.inl ⟨by omega, rfl⟩)⟩
      · rw [e0]
        have hx := of_decide_eq_false hx
        refine r_iconstZ hX dX4_move_28 ?_
        exact r_iret hX hE dX4_move_29 (Nat.le_of_ble_eq_true rfl) (Nat.le_of_ble_eq_true rfl) ⟨_, rfl, Or.inr (Or.inr ⟨by omega, by omega, rfl⟩)⟩
set_option maxHeartbeats 4000000 in
set_option maxRecDepth 20000 in
theorem z_X4_momentOf (ad ae : Nat → Nat) (cs : ClassId × ClassId × ClassId) (K : mK) (S : mS) (th : Int32) (rest : va_W) (hS : sWF S) (a0 : Int) (h0 : rJ a0) (a1 : Int) (h1 : rJ a1)  : mCt (mTy cs) yX4_momentOf cX4_momentOf 3 (some .int) ⟨3, 0, 0, 69⟩ [.ref (ae 0), .int (iZ a0), .int (iZ a1)] (mRw ad ae cs K (mJof S th) rest) (fun v ws' => ∃ r : Int32, v = some (.int r) ∧ (((((0 ≤ a0 ∧ a0 < 4) ∧ (0 ≤ a1 ∧ a1 < 4)) ∧ (0 ≤ (0 : Int))) ∧ r = iZ (oNum S a0.toNat ((sse S a1.toNat - sow S a1.toNat) * 1000000000 + sna S a1.toNat)).1 ∧ ws' = mRw ad ae cs K (mJof (oNum S a0.toNat ((sse S a1.toNat - sow S a1.toNat) * 1000000000 + sna S a1.toNat)).2 0) rest) ∨ (¬ ((0 ≤ a0 ∧ a0 < 4) ∧ (0 ≤ a1 ∧ a1 < 4)) ∧ ws' = mRw ad ae cs K (mJof S 1) rest) ∨ (((0 ≤ a0 ∧ a0 < 4) ∧ (0 ≤ a1 ∧ a1 < 4)) ∧ ¬ (0 ≤ (0 : Int)) ∧ ws' = mRw ad ae cs K (mJof S 2) rest))) mNo := by
  refine mCt.of (by decide +kernel) (Nat.le_of_ble_eq_true rfl) (fun X hX hE => ?_)
  replace hX : mOK X RX4 cX4_momentOf 3 ⟨3, 0, 0, 69⟩ [] (mTy cs) := hX
  refine r_aload_n hX dX4_momentOf_0 rfl rfl (r_iload_n hX dX4_momentOf_1 rfl rfl (r_callS hX (z_X4_isNone _ _ _ (by first | with_reducible assumption | decide | omega)) ks_X4_61 rfl rfl (Nat.le_of_ble_eq_true rfl) ⟨(Nat.le_of_ble_eq_true rfl), (Nat.le_of_ble_eq_true rfl)⟩ ⟨(Nat.le_of_ble_eq_true rfl), (Nat.le_of_ble_eq_true rfl)⟩ dX4_momentOf_2 (fun _ _ z => False.elim z) (fun v9 ws9 h1 => ?_)))
  obtain ⟨rfl, hw9⟩ := h1
  subst ws9
  dsimp only [mPush]
  refine r_if_neB (tgt := 15) hX dX4_momentOf_5 (by decide) (fun c2 => ?_) (fun c2 => ?_)
  · have c2 := of_decide_eq_true c2
    refine r_iconst (v := b2i true) hX dX4_momentOf_15 (by decide) (r_goto (tgt := 20) hX dX4_momentOf_16 (by decide) (r_iconst (v := b2i false) hX dX4_momentOf_20 (by decide) (r_callV hX (z_X4_isStopped ad ae cs K S th rest true false) kv_X4_68 14 rfl rfl rfl rfl (Nat.le_of_ble_eq_true rfl) ⟨(Nat.le_of_ble_eq_true rfl), (Nat.le_of_ble_eq_true rfl)⟩ ⟨(Nat.le_of_ble_eq_true rfl), (Nat.le_of_ble_eq_true rfl)⟩ dX4_momentOf_21 (fun _ _ z => False.elim z) (fun v9 ws9 h3 => ?_))))
    obtain ⟨rfl, hw9⟩ := h3
    subst ws9
    dsimp only [mPush]
    refine r_if_eqB (tgt := 31) hX dX4_momentOf_24 (by decide) (fun c4 => ?_) (fun c4 => ?_)
    · exact absurd c4 (by simp)
    · rcases zst1 c4 with ⟨hx, e0⟩ | ⟨hx, hy, e0⟩
      · rw [e0]
        refine r_iconstZ hX dX4_momentOf_27 (r_goto (tgt := 41) hX dX4_momentOf_28 (by decide) ?_)
        exact r_iret hX hE dX4_momentOf_41 (Nat.le_of_ble_eq_true rfl) (Nat.le_of_ble_eq_true rfl) ⟨_, rfl, Or.inr (Or.inl ⟨by omega, rfl⟩)⟩
      · exact absurd hx (by decide)
  · have c2 := of_decide_eq_false c2
    refine r_iload_n hX dX4_momentOf_8 rfl rfl (r_callS hX (z_X4_isNone _ _ _ (by first | with_reducible assumption | decide | omega)) ks_X4_61 rfl rfl (Nat.le_of_ble_eq_true rfl) ⟨(Nat.le_of_ble_eq_true rfl), (Nat.le_of_ble_eq_true rfl)⟩ ⟨(Nat.le_of_ble_eq_true rfl), (Nat.le_of_ble_eq_true rfl)⟩ dX4_momentOf_9 (fun _ _ z => False.elim z) (fun v9 ws9 h5 => ?_))
    obtain ⟨rfl, hw9⟩ := h5
    subst ws9
    dsimp only [mPush]
    refine r_if_eqB (tgt := 19) hX dX4_momentOf_12 (by decide) (fun c6 => ?_) (fun c6 => ?_)
    · have c6 := of_decide_eq_false c6
      refine r_iconst (v := b2i false) hX dX4_momentOf_19 (by decide) (r_iconst (v := b2i false) hX dX4_momentOf_20 (by decide) (r_callV hX (z_X4_isStopped ad ae cs K S th rest false false) kv_X4_68 14 rfl rfl rfl rfl (Nat.le_of_ble_eq_true rfl) ⟨(Nat.le_of_ble_eq_true rfl), (Nat.le_of_ble_eq_true rfl)⟩ ⟨(Nat.le_of_ble_eq_true rfl), (Nat.le_of_ble_eq_true rfl)⟩ dX4_momentOf_21 (fun _ _ z => False.elim z) (fun v9 ws9 h7 => ?_)))
      obtain ⟨rfl, hw9⟩ := h7
      subst ws9
      dsimp only [mPush]
      refine r_if_eqB (tgt := 31) hX dX4_momentOf_24 (by decide) (fun c8 => ?_) (fun c8 => ?_)
      · obtain ⟨⟨hx, hy⟩, e0⟩ := zst0 c8
        rw [e0]
        have hr1 := zrg hS (d := a1.toNat) (by omega)
        have hse := hS.2.2.2.1 a1.toNat (by omega)
        refine r_aload_n hX dX4_momentOf_31 rfl rfl (r_iload_n hX dX4_momentOf_32 rfl rfl (r_aload_n hX dX4_momentOf_33 rfl rfl (r_iload_n hX dX4_momentOf_34 rfl rfl (r_callV hX (z_X4_number ad ae cs K S 0 rest hS _ (a1).toNat (by first | with_reducible assumption | decide | omega) (by first | with_reducible assumption | decide | omega)) kv_X4_115 14 rfl rfl rfl rfl (Nat.le_of_ble_eq_true rfl) ⟨(Nat.le_of_ble_eq_true rfl), (Nat.le_of_ble_eq_true rfl)⟩ ⟨(Nat.le_of_ble_eq_true rfl), (Nat.le_of_ble_eq_true rfl)⟩ dX4_momentOf_35 (fun _ _ z => False.elim z) (fun v9 ws9 h9 => ?_)))))
        obtain ⟨rfl, hw9⟩ := h9
        subst ws9
        dsimp only [mPush]
        refine r_callV hX (z_X4_become ad ae cs K S 0 rest hS _ (a0).toNat (by first | with_reducible assumption | decide | omega) (by first | with_reducible assumption | decide | omega) _ (by first | with_reducible assumption | decide | omega)) kv_X4_105 14 rfl rfl rfl rfl (Nat.le_of_ble_eq_true rfl) ⟨(Nat.le_of_ble_eq_true rfl), (Nat.le_of_ble_eq_true rfl)⟩ ⟨(Nat.le_of_ble_eq_true rfl), (Nat.le_of_ble_eq_true rfl)⟩ dX4_momentOf_38 (fun _ _ z => False.elim z) (fun v9 ws9 h10 => ?_)
        obtain ⟨rfl, hw9⟩ := h10
        subst ws9
        dsimp only [mPush]
        refine r_iret hX hE dX4_momentOf_41 (Nat.le_of_ble_eq_true rfl) (Nat.le_of_ble_eq_true rfl) ⟨_, rfl, Or.inl ⟨by omega, ?_⟩⟩
        exact ⟨rfl, rfl⟩
      · rcases zst1 c8 with ⟨hx, e0⟩ | ⟨hx, hy, e0⟩
        · exact absurd hx (by decide)
        · exact absurd hy (by decide)
    · have c6 := of_decide_eq_true c6
      refine r_iconst (v := b2i true) hX dX4_momentOf_15 (by decide) (r_goto (tgt := 20) hX dX4_momentOf_16 (by decide) (r_iconst (v := b2i false) hX dX4_momentOf_20 (by decide) (r_callV hX (z_X4_isStopped ad ae cs K S th rest true false) kv_X4_68 14 rfl rfl rfl rfl (Nat.le_of_ble_eq_true rfl) ⟨(Nat.le_of_ble_eq_true rfl), (Nat.le_of_ble_eq_true rfl)⟩ ⟨(Nat.le_of_ble_eq_true rfl), (Nat.le_of_ble_eq_true rfl)⟩ dX4_momentOf_21 (fun _ _ z => False.elim z) (fun v9 ws9 h11 => ?_))))
      obtain ⟨rfl, hw9⟩ := h11
      subst ws9
      dsimp only [mPush]
      refine r_if_eqB (tgt := 31) hX dX4_momentOf_24 (by decide) (fun c12 => ?_) (fun c12 => ?_)
      · exact absurd c12 (by simp)
      · rcases zst1 c12 with ⟨hx, e0⟩ | ⟨hx, hy, e0⟩
        · rw [e0]
          refine r_iconstZ hX dX4_momentOf_27 (r_goto (tgt := 41) hX dX4_momentOf_28 (by decide) ?_)
          exact r_iret hX hE dX4_momentOf_41 (Nat.le_of_ble_eq_true rfl) (Nat.le_of_ble_eq_true rfl) ⟨_, rfl, Or.inr (Or.inl ⟨by omega, rfl⟩)⟩
        · exact absurd hx (by decide)
set_option maxHeartbeats 4000000 in
set_option maxRecDepth 20000 in
theorem z_X4_copyMoment (ad ae : Nat → Nat) (cs : ClassId × ClassId × ClassId) (K : mK) (S : mS) (th : Int32) (rest : va_W) (hS : sWF S) (a0 : Int) (h0 : rJ a0) (a1 : Int) (h1 : rJ a1)  : mCt (mTy cs) yX4_copyMoment cX4_copyMoment 3 (some .int) ⟨3, 0, 0, 69⟩ [.ref (ae 0), .int (iZ a0), .int (iZ a1)] (mRw ad ae cs K (mJof S th) rest) (fun v ws' => ∃ r : Int32, v = some (.int r) ∧ (((((0 ≤ a0 ∧ a0 < 4) ∧ (0 ≤ a1 ∧ a1 < 4)) ∧ (0 ≤ (0 : Int))) ∧ r = iZ (oNum S a0.toNat (snu S a1.toNat)).1 ∧ ws' = mRw ad ae cs K (mJof (oNum S a0.toNat (snu S a1.toNat)).2 0) rest) ∨ (¬ ((0 ≤ a0 ∧ a0 < 4) ∧ (0 ≤ a1 ∧ a1 < 4)) ∧ ws' = mRw ad ae cs K (mJof S 1) rest) ∨ (((0 ≤ a0 ∧ a0 < 4) ∧ (0 ≤ a1 ∧ a1 < 4)) ∧ ¬ (0 ≤ (0 : Int)) ∧ ws' = mRw ad ae cs K (mJof S 2) rest))) mNo := by
  refine mCt.of (by decide +kernel) (Nat.le_of_ble_eq_true rfl) (fun X hX hE => ?_)
  replace hX : mOK X RX4 cX4_copyMoment 3 ⟨3, 0, 0, 69⟩ [] (mTy cs) := hX
  refine r_aload_n hX dX4_copyMoment_0 rfl rfl (r_iload_n hX dX4_copyMoment_1 rfl rfl (r_callS hX (z_X4_isNone _ _ _ (by first | with_reducible assumption | decide | omega)) ks_X4_61 rfl rfl (Nat.le_of_ble_eq_true rfl) ⟨(Nat.le_of_ble_eq_true rfl), (Nat.le_of_ble_eq_true rfl)⟩ ⟨(Nat.le_of_ble_eq_true rfl), (Nat.le_of_ble_eq_true rfl)⟩ dX4_copyMoment_2 (fun _ _ z => False.elim z) (fun v9 ws9 h1 => ?_)))
  obtain ⟨rfl, hw9⟩ := h1
  subst ws9
  dsimp only [mPush]
  refine r_if_neB (tgt := 15) hX dX4_copyMoment_5 (by decide) (fun c2 => ?_) (fun c2 => ?_)
  · have c2 := of_decide_eq_true c2
    refine r_iconst (v := b2i true) hX dX4_copyMoment_15 (by decide) (r_goto (tgt := 20) hX dX4_copyMoment_16 (by decide) (r_iconst (v := b2i false) hX dX4_copyMoment_20 (by decide) (r_callV hX (z_X4_isStopped ad ae cs K S th rest true false) kv_X4_68 14 rfl rfl rfl rfl (Nat.le_of_ble_eq_true rfl) ⟨(Nat.le_of_ble_eq_true rfl), (Nat.le_of_ble_eq_true rfl)⟩ ⟨(Nat.le_of_ble_eq_true rfl), (Nat.le_of_ble_eq_true rfl)⟩ dX4_copyMoment_21 (fun _ _ z => False.elim z) (fun v9 ws9 h3 => ?_))))
    obtain ⟨rfl, hw9⟩ := h3
    subst ws9
    dsimp only [mPush]
    refine r_if_eqB (tgt := 31) hX dX4_copyMoment_24 (by decide) (fun c4 => ?_) (fun c4 => ?_)
    · exact absurd c4 (by simp)
    · rcases zst1 c4 with ⟨hx, e0⟩ | ⟨hx, hy, e0⟩
      · rw [e0]
        refine r_iconstZ hX dX4_copyMoment_27 (r_goto (tgt := 42) hX dX4_copyMoment_28 (by decide) ?_)
        exact r_iret hX hE dX4_copyMoment_42 (Nat.le_of_ble_eq_true rfl) (Nat.le_of_ble_eq_true rfl) ⟨_, rfl, Or.inr (Or.inl ⟨by omega, rfl⟩)⟩
      · exact absurd hx (by decide)
  · have c2 := of_decide_eq_false c2
    refine r_iload_n hX dX4_copyMoment_8 rfl rfl (r_callS hX (z_X4_isNone _ _ _ (by first | with_reducible assumption | decide | omega)) ks_X4_61 rfl rfl (Nat.le_of_ble_eq_true rfl) ⟨(Nat.le_of_ble_eq_true rfl), (Nat.le_of_ble_eq_true rfl)⟩ ⟨(Nat.le_of_ble_eq_true rfl), (Nat.le_of_ble_eq_true rfl)⟩ dX4_copyMoment_9 (fun _ _ z => False.elim z) (fun v9 ws9 h5 => ?_))
    obtain ⟨rfl, hw9⟩ := h5
    subst ws9
    dsimp only [mPush]
    refine r_if_eqB (tgt := 19) hX dX4_copyMoment_12 (by decide) (fun c6 => ?_) (fun c6 => ?_)
    · have c6 := of_decide_eq_false c6
      refine r_iconst (v := b2i false) hX dX4_copyMoment_19 (by decide) (r_iconst (v := b2i false) hX dX4_copyMoment_20 (by decide) (r_callV hX (z_X4_isStopped ad ae cs K S th rest false false) kv_X4_68 14 rfl rfl rfl rfl (Nat.le_of_ble_eq_true rfl) ⟨(Nat.le_of_ble_eq_true rfl), (Nat.le_of_ble_eq_true rfl)⟩ ⟨(Nat.le_of_ble_eq_true rfl), (Nat.le_of_ble_eq_true rfl)⟩ dX4_copyMoment_21 (fun _ _ z => False.elim z) (fun v9 ws9 h7 => ?_)))
      obtain ⟨rfl, hw9⟩ := h7
      subst ws9
      dsimp only [mPush]
      refine r_if_eqB (tgt := 31) hX dX4_copyMoment_24 (by decide) (fun c8 => ?_) (fun c8 => ?_)
      · obtain ⟨⟨hx, hy⟩, e0⟩ := zst0 c8
        rw [e0]
        have hnu0 := hS.2.1 a0.toNat (by omega)
        have hnu1 := hS.2.1 a1.toNat (by omega)
        refine r_aload_n hX dX4_copyMoment_31 rfl rfl (r_iload_n hX dX4_copyMoment_32 rfl rfl (r_aload_n hX dX4_copyMoment_33 rfl rfl (r_get hX kf_X4_13 14 rfl rfl dX4_copyMoment_34 (r_iload_n hX dX4_copyMoment_37 rfl rfl (r_laldZ hX 16 1 rfl rfl (a1).toNat (by first | with_reducible assumption | decide | omega) (by first | with_reducible assumption | decide | omega) (by decide) dX4_copyMoment_38 (r_callV hX (z_X4_become ad ae cs K S 0 rest hS _ (a0).toNat (by first | with_reducible assumption | decide | omega) (by first | with_reducible assumption | decide | omega) _ (by first | with_reducible assumption | decide | omega)) kv_X4_105 14 rfl rfl rfl rfl (Nat.le_of_ble_eq_true rfl) ⟨(Nat.le_of_ble_eq_true rfl), (Nat.le_of_ble_eq_true rfl)⟩ ⟨(Nat.le_of_ble_eq_true rfl), (Nat.le_of_ble_eq_true rfl)⟩ dX4_copyMoment_39 (fun _ _ z => False.elim z) (fun v9 ws9 h9 => ?_)))))))
        obtain ⟨rfl, hw9⟩ := h9
        subst ws9
        dsimp only [mPush]
        refine r_iret hX hE dX4_copyMoment_42 (Nat.le_of_ble_eq_true rfl) (Nat.le_of_ble_eq_true rfl) ⟨_, rfl, Or.inl ⟨by omega, ?_⟩⟩
        exact ⟨rfl, rfl⟩
      · rcases zst1 c8 with ⟨hx, e0⟩ | ⟨hx, hy, e0⟩
        · exact absurd hx (by decide)
        · exact absurd hy (by decide)
    · have c6 := of_decide_eq_true c6
      refine r_iconst (v := b2i true) hX dX4_copyMoment_15 (by decide) (r_goto (tgt := 20) hX dX4_copyMoment_16 (by decide) (r_iconst (v := b2i false) hX dX4_copyMoment_20 (by decide) (r_callV hX (z_X4_isStopped ad ae cs K S th rest true false) kv_X4_68 14 rfl rfl rfl rfl (Nat.le_of_ble_eq_true rfl) ⟨(Nat.le_of_ble_eq_true rfl), (Nat.le_of_ble_eq_true rfl)⟩ ⟨(Nat.le_of_ble_eq_true rfl), (Nat.le_of_ble_eq_true rfl)⟩ dX4_copyMoment_21 (fun _ _ z => False.elim z) (fun v9 ws9 h10 => ?_))))
      obtain ⟨rfl, hw9⟩ := h10
      subst ws9
      dsimp only [mPush]
      refine r_if_eqB (tgt := 31) hX dX4_copyMoment_24 (by decide) (fun c11 => ?_) (fun c11 => ?_)
      · exact absurd c11 (by simp)
      · rcases zst1 c11 with ⟨hx, e0⟩ | ⟨hx, hy, e0⟩
        · rw [e0]
          refine r_iconstZ hX dX4_copyMoment_27 (r_goto (tgt := 42) hX dX4_copyMoment_28 (by decide) ?_)
          exact r_iret hX hE dX4_copyMoment_42 (Nat.le_of_ble_eq_true rfl) (Nat.le_of_ble_eq_true rfl) ⟨_, rfl, Or.inr (Or.inl ⟨by omega, rfl⟩)⟩
        · exact absurd hx (by decide)
set_option maxHeartbeats 4000000 in
set_option maxRecDepth 20000 in
theorem z_X4_ofMoment (ad ae : Nat → Nat) (cs : ClassId × ClassId × ClassId) (K : mK) (S : mS) (th : Int32) (rest : va_W) (hS : sWF S) (a0 : Int) (h0 : rJ a0) (b1 : Bool)  : mCt (mTy cs) yX4_ofMoment cX4_ofMoment 3 (some .int) ⟨2, 0, 0, 46⟩ [.ref (ae 0), .int (iZ a0), .int (b2i b1)] (mRw ad ae cs K (mJof S th) rest) (fun v ws' => ∃ r : Int32, v = some (.int r) ∧ (((((0 ≤ a0 ∧ a0 < 4)) ∧ (0 ≤ (0 : Int))) ∧ r = iZ (cond b1 (snu S a0.toNat % 1000000000) (snu S a0.toNat / 1000000000)) ∧ ws' = mRw ad ae cs K (mJof S 0) rest) ∨ (¬ ((0 ≤ a0 ∧ a0 < 4)) ∧ ws' = mRw ad ae cs K (mJof S 1) rest) ∨ (((0 ≤ a0 ∧ a0 < 4)) ∧ ¬ (0 ≤ (0 : Int)) ∧ ws' = mRw ad ae cs K (mJof S 2) rest))) mNo := by
  refine mCt.of (by decide +kernel) (Nat.le_of_ble_eq_true rfl) (fun X hX hE => ?_)
  replace hX : mOK X RX4 cX4_ofMoment 3 ⟨2, 0, 0, 46⟩ [] (mTy cs) := hX
  refine r_aload_n hX dX4_ofMoment_0 rfl rfl (r_iload_n hX dX4_ofMoment_1 rfl rfl (r_callS hX (z_X4_isNone _ _ _ (by first | with_reducible assumption | decide | omega)) ks_X4_61 rfl rfl (Nat.le_of_ble_eq_true rfl) ⟨(Nat.le_of_ble_eq_true rfl), (Nat.le_of_ble_eq_true rfl)⟩ ⟨(Nat.le_of_ble_eq_true rfl), (Nat.le_of_ble_eq_true rfl)⟩ dX4_ofMoment_2 (fun _ _ z => False.elim z) (fun v9 ws9 h1 => ?_)))
  obtain ⟨rfl, hw9⟩ := h1
  subst ws9
  dsimp only [mPush]
  refine r_iconst (v := b2i false) hX dX4_ofMoment_5 (by decide) (r_callV hX (z_X4_isStopped ad ae cs K S th rest (decide (¬ (0 ≤ a0 ∧ a0 < 4))) false) kv_X4_68 14 rfl rfl rfl rfl (Nat.le_of_ble_eq_true rfl) ⟨(Nat.le_of_ble_eq_true rfl), (Nat.le_of_ble_eq_true rfl)⟩ ⟨(Nat.le_of_ble_eq_true rfl), (Nat.le_of_ble_eq_true rfl)⟩ dX4_ofMoment_6 (fun _ _ z => False.elim z) (fun v9 ws9 h2 => ?_))
  obtain ⟨rfl, hw9⟩ := h2
  subst ws9
  dsimp only [mPush]
  refine r_if_eqB (tgt := 14) hX dX4_ofMoment_9 (by decide) (fun c3 => ?_) (fun c3 => ?_)
  · obtain ⟨⟨hx, hy⟩, e0⟩ := zst0 c3
    have hx := of_decide_eq_false hx
    rw [e0]
    have hnu := hS.2.1 a0.toNat (by omega)
    refine r_iload_n hX dX4_ofMoment_14 rfl rfl (r_if_eqB (tgt := 33) hX dX4_ofMoment_15 (by decide) (fun c4 => ?_) (fun c4 => ?_))
    · have c4 := id c4
      refine r_aload_n hX dX4_ofMoment_33 rfl rfl (r_get hX kf_X4_13 14 rfl rfl dX4_ofMoment_34 (r_iload_n hX dX4_ofMoment_37 rfl rfl (r_laldZ hX 16 1 rfl rfl (a0).toNat (by first | with_reducible assumption | decide | omega) (by first | with_reducible assumption | decide | omega) (by decide) dX4_ofMoment_38 (r_ldc2Z (z := 1000000000) hX kc_X4_96 (by decide +kernel) dX4_ofMoment_39 (r_callS hX (c_X4_whole_x _ _ _ _ (by first | with_reducible assumption | decide | omega) (by first | with_reducible assumption | decide | omega) (by first | with_reducible assumption | decide | omega) (by first | with_reducible assumption | decide | omega)) ks_X4_92 rfl rfl (Nat.le_of_ble_eq_true rfl) ⟨(Nat.le_of_ble_eq_true rfl), (Nat.le_of_ble_eq_true rfl)⟩ ⟨(Nat.le_of_ble_eq_true rfl), (Nat.le_of_ble_eq_true rfl)⟩ dX4_ofMoment_42 (fun _ _ z => False.elim z) (fun v9 ws9 h5 => ?_))))))
      obtain ⟨rfl, hw9⟩ := h5
      subst ws9
      dsimp only [mPush]
      refine r_l2iZ hX dX4_ofMoment_45 (r_iret hX hE dX4_ofMoment_46 (Nat.le_of_ble_eq_true rfl) (Nat.le_of_ble_eq_true rfl) ⟨_, rfl, Or.inl ⟨by omega, congrArg iZ ?_, rfl⟩⟩)
      first | (rw [show b1 = true by assumption]; rfl) | (rw [show b1 = false by assumption]; rfl)
    · have c4 := id c4
      refine r_aload_n hX dX4_ofMoment_18 rfl rfl (r_get hX kf_X4_13 14 rfl rfl dX4_ofMoment_19 (r_iload_n hX dX4_ofMoment_22 rfl rfl (r_laldZ hX 16 1 rfl rfl (a0).toNat (by first | with_reducible assumption | decide | omega) (by first | with_reducible assumption | decide | omega) (by decide) dX4_ofMoment_23 (r_ldc2Z (z := 1000000000) hX kc_X4_96 (by decide +kernel) dX4_ofMoment_24 (r_callS hX (c_X4_rest_x _ _ _ _ (by first | with_reducible assumption | decide | omega) (by first | with_reducible assumption | decide | omega) (by first | with_reducible assumption | decide | omega) (by first | with_reducible assumption | decide | omega)) ks_X4_102 rfl rfl (Nat.le_of_ble_eq_true rfl) ⟨(Nat.le_of_ble_eq_true rfl), (Nat.le_of_ble_eq_true rfl)⟩ ⟨(Nat.le_of_ble_eq_true rfl), (Nat.le_of_ble_eq_true rfl)⟩ dX4_ofMoment_27 (fun _ _ z => False.elim z) (fun v9 ws9 h6 => ?_))))))
      obtain ⟨rfl, hw9⟩ := h6
      subst ws9
      dsimp only [mPush]
      refine r_goto (tgt := 46) hX dX4_ofMoment_30 (by decide) (r_iret hX hE dX4_ofMoment_46 (Nat.le_of_ble_eq_true rfl) (Nat.le_of_ble_eq_true rfl) ⟨_, rfl, Or.inl ⟨by omega, congrArg iZ ?_, rfl⟩⟩)
      first | (rw [show b1 = true by assumption]; rfl) | (rw [show b1 = false by assumption]; rfl)
  · rcases zst1 c3 with ⟨hx, e0⟩ | ⟨hx, hy, e0⟩
    · rw [e0]
      have hx := of_decide_eq_true hx
      refine r_iconstZ hX dX4_ofMoment_12 ?_
      exact r_iret hX hE dX4_ofMoment_13 (Nat.le_of_ble_eq_true rfl) (Nat.le_of_ble_eq_true rfl) ⟨_, rfl, Or.inr (Or.inl ⟨by omega, rfl⟩)⟩
    · exact absurd hy (by decide)
set_option maxHeartbeats 4000000 in
set_option maxRecDepth 20000 in
theorem z_X4_orderMoment (ad ae : Nat → Nat) (cs : ClassId × ClassId × ClassId) (K : mK) (S : mS) (th : Int32) (rest : va_W) (hS : sWF S) (a0 : Int) (h0 : rJ a0) (a1 : Int) (h1 : rJ a1)  : mCt (mTy cs) yX4_orderMoment cX4_orderMoment 3 (some .int) ⟨2, 0, 0, 45⟩ [.ref (ae 0), .int (iZ a0), .int (iZ a1)] (mRw ad ae cs K (mJof S th) rest) (fun v ws' => ∃ r : Int32, v = some (.int r) ∧ (((((0 ≤ a0 ∧ a0 < 4) ∧ (0 ≤ a1 ∧ a1 < 4)) ∧ (0 ≤ (0 : Int))) ∧ r = iZ (cmpZ (snu S a0.toNat) (snu S a1.toNat)) ∧ ws' = mRw ad ae cs K (mJof S 0) rest) ∨ (¬ ((0 ≤ a0 ∧ a0 < 4) ∧ (0 ≤ a1 ∧ a1 < 4)) ∧ ws' = mRw ad ae cs K (mJof S 1) rest) ∨ (((0 ≤ a0 ∧ a0 < 4) ∧ (0 ≤ a1 ∧ a1 < 4)) ∧ ¬ (0 ≤ (0 : Int)) ∧ ws' = mRw ad ae cs K (mJof S 2) rest))) mNo := by
  refine mCt.of (by decide +kernel) (Nat.le_of_ble_eq_true rfl) (fun X hX hE => ?_)
  replace hX : mOK X RX4 cX4_orderMoment 3 ⟨2, 0, 0, 45⟩ [] (mTy cs) := hX
  refine r_aload_n hX dX4_orderMoment_0 rfl rfl (r_iload_n hX dX4_orderMoment_1 rfl rfl (r_callS hX (z_X4_isNone _ _ _ (by first | with_reducible assumption | decide | omega)) ks_X4_61 rfl rfl (Nat.le_of_ble_eq_true rfl) ⟨(Nat.le_of_ble_eq_true rfl), (Nat.le_of_ble_eq_true rfl)⟩ ⟨(Nat.le_of_ble_eq_true rfl), (Nat.le_of_ble_eq_true rfl)⟩ dX4_orderMoment_2 (fun _ _ z => False.elim z) (fun v9 ws9 h1 => ?_)))
  obtain ⟨rfl, hw9⟩ := h1
  subst ws9
  dsimp only [mPush]
  refine r_if_neB (tgt := 15) hX dX4_orderMoment_5 (by decide) (fun c2 => ?_) (fun c2 => ?_)
  · have c2 := of_decide_eq_true c2
    refine r_iconst (v := b2i true) hX dX4_orderMoment_15 (by decide) (r_goto (tgt := 20) hX dX4_orderMoment_16 (by decide) (r_iconst (v := b2i false) hX dX4_orderMoment_20 (by decide) (r_callV hX (z_X4_isStopped ad ae cs K S th rest true false) kv_X4_68 14 rfl rfl rfl rfl (Nat.le_of_ble_eq_true rfl) ⟨(Nat.le_of_ble_eq_true rfl), (Nat.le_of_ble_eq_true rfl)⟩ ⟨(Nat.le_of_ble_eq_true rfl), (Nat.le_of_ble_eq_true rfl)⟩ dX4_orderMoment_21 (fun _ _ z => False.elim z) (fun v9 ws9 h3 => ?_))))
    obtain ⟨rfl, hw9⟩ := h3
    subst ws9
    dsimp only [mPush]
    refine r_if_eqB (tgt := 31) hX dX4_orderMoment_24 (by decide) (fun c4 => ?_) (fun c4 => ?_)
    · exact absurd c4 (by simp)
    · rcases zst1 c4 with ⟨hx, e0⟩ | ⟨hx, hy, e0⟩
      · rw [e0]
        refine r_iconstZ hX dX4_orderMoment_27 (r_goto (tgt := 46) hX dX4_orderMoment_28 (by decide) ?_)
        exact r_iret hX hE dX4_orderMoment_46 (Nat.le_of_ble_eq_true rfl) (Nat.le_of_ble_eq_true rfl) ⟨_, rfl, Or.inr (Or.inl ⟨by omega, rfl⟩)⟩
      · exact absurd hx (by decide)
  · have c2 := of_decide_eq_false c2
    refine r_iload_n hX dX4_orderMoment_8 rfl rfl (r_callS hX (z_X4_isNone _ _ _ (by first | with_reducible assumption | decide | omega)) ks_X4_61 rfl rfl (Nat.le_of_ble_eq_true rfl) ⟨(Nat.le_of_ble_eq_true rfl), (Nat.le_of_ble_eq_true rfl)⟩ ⟨(Nat.le_of_ble_eq_true rfl), (Nat.le_of_ble_eq_true rfl)⟩ dX4_orderMoment_9 (fun _ _ z => False.elim z) (fun v9 ws9 h5 => ?_))
    obtain ⟨rfl, hw9⟩ := h5
    subst ws9
    dsimp only [mPush]
    refine r_if_eqB (tgt := 19) hX dX4_orderMoment_12 (by decide) (fun c6 => ?_) (fun c6 => ?_)
    · have c6 := of_decide_eq_false c6
      refine r_iconst (v := b2i false) hX dX4_orderMoment_19 (by decide) (r_iconst (v := b2i false) hX dX4_orderMoment_20 (by decide) (r_callV hX (z_X4_isStopped ad ae cs K S th rest false false) kv_X4_68 14 rfl rfl rfl rfl (Nat.le_of_ble_eq_true rfl) ⟨(Nat.le_of_ble_eq_true rfl), (Nat.le_of_ble_eq_true rfl)⟩ ⟨(Nat.le_of_ble_eq_true rfl), (Nat.le_of_ble_eq_true rfl)⟩ dX4_orderMoment_21 (fun _ _ z => False.elim z) (fun v9 ws9 h7 => ?_)))
      obtain ⟨rfl, hw9⟩ := h7
      subst ws9
      dsimp only [mPush]
      refine r_if_eqB (tgt := 31) hX dX4_orderMoment_24 (by decide) (fun c8 => ?_) (fun c8 => ?_)
      · obtain ⟨⟨hx, hy⟩, e0⟩ := zst0 c8
        rw [e0]
        have hnu0 := hS.2.1 a0.toNat (by omega)
        have hnu1 := hS.2.1 a1.toNat (by omega)
        refine r_aload_n hX dX4_orderMoment_31 rfl rfl (r_get hX kf_X4_13 14 rfl rfl dX4_orderMoment_32 (r_iload_n hX dX4_orderMoment_35 rfl rfl (r_laldZ hX 16 1 rfl rfl (a0).toNat (by first | with_reducible assumption | decide | omega) (by first | with_reducible assumption | decide | omega) (by decide) dX4_orderMoment_36 (r_aload_n hX dX4_orderMoment_37 rfl rfl (r_get hX kf_X4_13 14 rfl rfl dX4_orderMoment_38 (r_iload_n hX dX4_orderMoment_41 rfl rfl (r_laldZ hX 16 1 rfl rfl (a1).toNat (by first | with_reducible assumption | decide | omega) (by first | with_reducible assumption | decide | omega) (by decide) dX4_orderMoment_42 ?_)))))))
        refine r_callS hX (z_X4_order _ _ _ _ (by first | with_reducible assumption | decide | omega) (by first | with_reducible assumption | decide | omega)) ks_X4_88 rfl rfl (Nat.le_of_ble_eq_true rfl) ⟨(Nat.le_of_ble_eq_true rfl), (Nat.le_of_ble_eq_true rfl)⟩ ⟨(Nat.le_of_ble_eq_true rfl), (Nat.le_of_ble_eq_true rfl)⟩ dX4_orderMoment_43 (fun _ _ z => False.elim z) (fun v9 ws9 h9 => ?_)
        obtain ⟨rfl, hw9⟩ := h9
        subst ws9
        dsimp only [mPush]
        have hcm9 := cmpZ_b (snu S ((a0).toNat)) (snu S ((a1).toNat))
        refine r_iret hX hE dX4_orderMoment_46 (Nat.le_of_ble_eq_true rfl) (Nat.le_of_ble_eq_true rfl) ⟨_, rfl, Or.inl ⟨by omega, congrArg iZ ?_, rfl⟩⟩
        rfl
      · rcases zst1 c8 with ⟨hx, e0⟩ | ⟨hx, hy, e0⟩
        · exact absurd hx (by decide)
        · exact absurd hy (by decide)
    · have c6 := of_decide_eq_true c6
      refine r_iconst (v := b2i true) hX dX4_orderMoment_15 (by decide) (r_goto (tgt := 20) hX dX4_orderMoment_16 (by decide) (r_iconst (v := b2i false) hX dX4_orderMoment_20 (by decide) (r_callV hX (z_X4_isStopped ad ae cs K S th rest true false) kv_X4_68 14 rfl rfl rfl rfl (Nat.le_of_ble_eq_true rfl) ⟨(Nat.le_of_ble_eq_true rfl), (Nat.le_of_ble_eq_true rfl)⟩ ⟨(Nat.le_of_ble_eq_true rfl), (Nat.le_of_ble_eq_true rfl)⟩ dX4_orderMoment_21 (fun _ _ z => False.elim z) (fun v9 ws9 h10 => ?_))))
      obtain ⟨rfl, hw9⟩ := h10
      subst ws9
      dsimp only [mPush]
      refine r_if_eqB (tgt := 31) hX dX4_orderMoment_24 (by decide) (fun c11 => ?_) (fun c11 => ?_)
      · exact absurd c11 (by simp)
      · rcases zst1 c11 with ⟨hx, e0⟩ | ⟨hx, hy, e0⟩
        · rw [e0]
          refine r_iconstZ hX dX4_orderMoment_27 (r_goto (tgt := 46) hX dX4_orderMoment_28 (by decide) ?_)
          exact r_iret hX hE dX4_orderMoment_46 (Nat.le_of_ble_eq_true rfl) (Nat.le_of_ble_eq_true rfl) ⟨_, rfl, Or.inr (Or.inl ⟨by omega, rfl⟩)⟩
        · exact absurd hx (by decide)
theorem b2i_t {b : Bool} (h : b = true) : b2i b = iZ 1 := by rw [h]; rfl
theorem b2i_f {b : Bool} (h : b = false) : b2i b = iZ 0 := by rw [h]; rfl
set_option maxHeartbeats 4000000 in
set_option maxRecDepth 20000 in
theorem z_X4_isMoment (ad ae : Nat → Nat) (cs : ClassId × ClassId × ClassId) (K : mK) (S : mS) (th : Int32) (rest : va_W) (hS : sWF S) (a0 : Int) (h0 : rJ a0) (a1 : Int) (h1 : rJ a1) (a2 : Int) (h2 : rJ a2)  : mCt (mTy cs) yX4_isMoment cX4_isMoment 4 (some .boolean) ⟨2, 0, 0, 45⟩ [.ref (ae 0), .int (iZ a0), .int (iZ a1), .int (iZ a2)] (mRw ad ae cs K (mJof S th) rest) (fun v ws' => ∃ r : Int32, v = some (.int r) ∧ (((((0 ≤ a0 ∧ a0 < 4) ∧ (0 ≤ a1 ∧ a1 < 4)) ∧ (0 ≤ a2 ∧ a2 ≤ 2)) ∧ r = b2i (zIs (cmpZ (snu S a0.toNat) (snu S a1.toNat)) a2) ∧ ws' = mRw ad ae cs K (mJof S 0) rest) ∨ (¬ ((0 ≤ a0 ∧ a0 < 4) ∧ (0 ≤ a1 ∧ a1 < 4)) ∧ ws' = mRw ad ae cs K (mJof S 1) rest) ∨ (((0 ≤ a0 ∧ a0 < 4) ∧ (0 ≤ a1 ∧ a1 < 4)) ∧ ¬ (0 ≤ a2 ∧ a2 ≤ 2) ∧ ws' = mRw ad ae cs K (mJof S 2) rest))) mNo := by
  refine mCt.of (by decide +kernel) (Nat.le_of_ble_eq_true rfl) (fun X hX hE => ?_)
  replace hX : mOK X RX4 cX4_isMoment 4 ⟨2, 0, 0, 45⟩ [] (mTy cs) := hX
  refine r_aload_n hX dX4_isMoment_0 rfl rfl (r_iload_n hX dX4_isMoment_1 rfl rfl (r_callS hX (z_X4_isNone _ _ _ (by first | with_reducible assumption | decide | omega)) ks_X4_61 rfl rfl (Nat.le_of_ble_eq_true rfl) ⟨(Nat.le_of_ble_eq_true rfl), (Nat.le_of_ble_eq_true rfl)⟩ ⟨(Nat.le_of_ble_eq_true rfl), (Nat.le_of_ble_eq_true rfl)⟩ dX4_isMoment_2 (fun _ _ z => False.elim z) (fun v9 ws9 h1 => ?_)))
  obtain ⟨rfl, hw9⟩ := h1
  subst ws9
  dsimp only [mPush]
  refine r_if_neB (tgt := 15) hX dX4_isMoment_5 (by decide) (fun c2 => ?_) (fun c2 => ?_)
  · have c2 := of_decide_eq_true c2
    refine r_iconst (v := b2i true) hX dX4_isMoment_15 (by decide) (r_goto (tgt := 20) hX dX4_isMoment_16 (by decide) (r_iload_n hX dX4_isMoment_20 rfl rfl (r_i2lZ hX dX4_isMoment_21 (by first | with_reducible assumption | decide | omega) (r_lconstZ (v := 0) hX dX4_isMoment_22 rfl (r_ldc2Z (z := 2) hX kc_X4_42 (by decide +kernel) dX4_isMoment_23 (r_callS hX (z_X4_isIn _ _ _ _ _ (by first | with_reducible assumption | decide | omega) (by first | with_reducible assumption | decide | omega) (by first | with_reducible assumption | decide | omega)) ks_X4_38 rfl rfl (Nat.le_of_ble_eq_true rfl) ⟨(Nat.le_of_ble_eq_true rfl), (Nat.le_of_ble_eq_true rfl)⟩ ⟨(Nat.le_of_ble_eq_true rfl), (Nat.le_of_ble_eq_true rfl)⟩ dX4_isMoment_26 (fun _ _ z => False.elim z) (fun v9 ws9 h3 => ?_)))))))
    obtain ⟨rfl, hw9⟩ := h3
    subst ws9
    dsimp only [mPush]
    refine r_if_neB (tgt := 36) hX dX4_isMoment_29 (by decide) (fun c4 => ?_) (fun c4 => ?_)
    · have c4 := of_decide_eq_true c4
      refine r_iconst (v := b2i false) hX dX4_isMoment_36 (by decide) (r_callV hX (z_X4_isStopped ad ae cs K S th rest true false) kv_X4_68 14 rfl rfl rfl rfl (Nat.le_of_ble_eq_true rfl) ⟨(Nat.le_of_ble_eq_true rfl), (Nat.le_of_ble_eq_true rfl)⟩ ⟨(Nat.le_of_ble_eq_true rfl), (Nat.le_of_ble_eq_true rfl)⟩ dX4_isMoment_37 (fun _ _ z => False.elim z) (fun v9 ws9 h5 => ?_))
      obtain ⟨rfl, hw9⟩ := h5
      subst ws9
      dsimp only [mPush]
      refine r_if_eqB (tgt := 45) hX dX4_isMoment_40 (by decide) (fun c6 => ?_) (fun c6 => ?_)
      · exact absurd c6 (by simp)
      · rcases zst1 c6 with ⟨hx, e0⟩ | ⟨hx, hy, e0⟩
        · rw [e0]
          refine r_iconstZ hX dX4_isMoment_43 ?_
          exact r_zret hX hE dX4_isMoment_44 (by decide) (Nat.le_of_ble_eq_true rfl) (Nat.le_of_ble_eq_true rfl) ⟨_, rfl, Or.inr (Or.inl ⟨by omega, rfl⟩)⟩
        · exact absurd hx (by decide)
    · have c4 := of_decide_eq_false c4
      refine r_iconst (v := b2i true) hX dX4_isMoment_32 (by decide) (r_goto (tgt := 37) hX dX4_isMoment_33 (by decide) (r_callV hX (z_X4_isStopped ad ae cs K S th rest true true) kv_X4_68 14 rfl rfl rfl rfl (Nat.le_of_ble_eq_true rfl) ⟨(Nat.le_of_ble_eq_true rfl), (Nat.le_of_ble_eq_true rfl)⟩ ⟨(Nat.le_of_ble_eq_true rfl), (Nat.le_of_ble_eq_true rfl)⟩ dX4_isMoment_37 (fun _ _ z => False.elim z) (fun v9 ws9 h7 => ?_)))
      obtain ⟨rfl, hw9⟩ := h7
      subst ws9
      dsimp only [mPush]
      refine r_if_eqB (tgt := 45) hX dX4_isMoment_40 (by decide) (fun c8 => ?_) (fun c8 => ?_)
      · exact absurd c8 (by simp)
      · rcases zst1 c8 with ⟨hx, e0⟩ | ⟨hx, hy, e0⟩
        · rw [e0]
          refine r_iconstZ hX dX4_isMoment_43 ?_
          exact r_zret hX hE dX4_isMoment_44 (by decide) (Nat.le_of_ble_eq_true rfl) (Nat.le_of_ble_eq_true rfl) ⟨_, rfl, Or.inr (Or.inl ⟨by omega, rfl⟩)⟩
        · exact absurd hx (by decide)
  · have c2 := of_decide_eq_false c2
    refine r_iload_n hX dX4_isMoment_8 rfl rfl (r_callS hX (z_X4_isNone _ _ _ (by first | with_reducible assumption | decide | omega)) ks_X4_61 rfl rfl (Nat.le_of_ble_eq_true rfl) ⟨(Nat.le_of_ble_eq_true rfl), (Nat.le_of_ble_eq_true rfl)⟩ ⟨(Nat.le_of_ble_eq_true rfl), (Nat.le_of_ble_eq_true rfl)⟩ dX4_isMoment_9 (fun _ _ z => False.elim z) (fun v9 ws9 h9 => ?_))
    obtain ⟨rfl, hw9⟩ := h9
    subst ws9
    dsimp only [mPush]
    refine r_if_eqB (tgt := 19) hX dX4_isMoment_12 (by decide) (fun c10 => ?_) (fun c10 => ?_)
    · have c10 := of_decide_eq_false c10
      refine r_iconst (v := b2i false) hX dX4_isMoment_19 (by decide) (r_iload_n hX dX4_isMoment_20 rfl rfl (r_i2lZ hX dX4_isMoment_21 (by first | with_reducible assumption | decide | omega) (r_lconstZ (v := 0) hX dX4_isMoment_22 rfl (r_ldc2Z (z := 2) hX kc_X4_42 (by decide +kernel) dX4_isMoment_23 (r_callS hX (z_X4_isIn _ _ _ _ _ (by first | with_reducible assumption | decide | omega) (by first | with_reducible assumption | decide | omega) (by first | with_reducible assumption | decide | omega)) ks_X4_38 rfl rfl (Nat.le_of_ble_eq_true rfl) ⟨(Nat.le_of_ble_eq_true rfl), (Nat.le_of_ble_eq_true rfl)⟩ ⟨(Nat.le_of_ble_eq_true rfl), (Nat.le_of_ble_eq_true rfl)⟩ dX4_isMoment_26 (fun _ _ z => False.elim z) (fun v9 ws9 h11 => ?_))))))
      obtain ⟨rfl, hw9⟩ := h11
      subst ws9
      dsimp only [mPush]
      refine r_if_neB (tgt := 36) hX dX4_isMoment_29 (by decide) (fun c12 => ?_) (fun c12 => ?_)
      · have c12 := of_decide_eq_true c12
        refine r_iconst (v := b2i false) hX dX4_isMoment_36 (by decide) (r_callV hX (z_X4_isStopped ad ae cs K S th rest false false) kv_X4_68 14 rfl rfl rfl rfl (Nat.le_of_ble_eq_true rfl) ⟨(Nat.le_of_ble_eq_true rfl), (Nat.le_of_ble_eq_true rfl)⟩ ⟨(Nat.le_of_ble_eq_true rfl), (Nat.le_of_ble_eq_true rfl)⟩ dX4_isMoment_37 (fun _ _ z => False.elim z) (fun v9 ws9 h13 => ?_))
        obtain ⟨rfl, hw9⟩ := h13
        subst ws9
        dsimp only [mPush]
        refine r_if_eqB (tgt := 45) hX dX4_isMoment_40 (by decide) (fun c14 => ?_) (fun c14 => ?_)
        · obtain ⟨⟨hx, hy⟩, e0⟩ := zst0 c14
          rw [e0]
          have hnu0 := hS.2.1 a0.toNat (by omega)
          have hnu1 := hS.2.1 a1.toNat (by omega)
          refine r_aload_n hX dX4_isMoment_45 rfl rfl (r_get hX kf_X4_13 14 rfl rfl dX4_isMoment_46 (r_iload_n hX dX4_isMoment_49 rfl rfl (r_laldZ hX 16 1 rfl rfl (a0).toNat (by first | with_reducible assumption | decide | omega) (by first | with_reducible assumption | decide | omega) (by decide) dX4_isMoment_50 (r_aload_n hX dX4_isMoment_51 rfl rfl (r_get hX kf_X4_13 14 rfl rfl dX4_isMoment_52 (r_iload_n hX dX4_isMoment_55 rfl rfl (r_laldZ hX 16 1 rfl rfl (a1).toNat (by first | with_reducible assumption | decide | omega) (by first | with_reducible assumption | decide | omega) (by decide) dX4_isMoment_56 ?_)))))))
          refine r_callS hX (z_X4_order _ _ _ _ (by first | with_reducible assumption | decide | omega) (by first | with_reducible assumption | decide | omega)) ks_X4_88 rfl rfl (Nat.le_of_ble_eq_true rfl) ⟨(Nat.le_of_ble_eq_true rfl), (Nat.le_of_ble_eq_true rfl)⟩ ⟨(Nat.le_of_ble_eq_true rfl), (Nat.le_of_ble_eq_true rfl)⟩ dX4_isMoment_57 (fun _ _ z => False.elim z) (fun v9 ws9 h15 => ?_)
          obtain ⟨rfl, hw9⟩ := h15
          subst ws9
          dsimp only [mPush]
          have hcm15 := cmpZ_b (snu S ((a0).toNat)) (snu S ((a1).toNat))
          refine r_iload_n hX dX4_isMoment_60 rfl rfl (r_if_neZ (tgt := 68) hX dX4_isMoment_61 (by decide) (by first | with_reducible assumption | decide | omega) (fun c16 => ?_) (fun c16 => ?_))
          · refine r_iload_n hX dX4_isMoment_68 rfl rfl (r_iconstZ hX dX4_isMoment_69 (r_icmp_neZ (tgt := 77) hX dX4_isMoment_70 (by decide) (by first | with_reducible assumption | decide | omega) (by decide) (fun c17 => ?_) (fun c17 => ?_)))
            · refine r_iconstZ hX dX4_isMoment_77 (r_icmp_neZ (tgt := 85) hX dX4_isMoment_78 (by decide) (by first | with_reducible assumption | decide | omega) (by decide) (fun c18 => ?_) (fun c18 => ?_))
              · refine r_iconstZ hX dX4_isMoment_85 (r_zret hX hE dX4_isMoment_86 (by decide) (Nat.le_of_ble_eq_true rfl) (Nat.le_of_ble_eq_true rfl) ⟨_, rfl, Or.inl ⟨by omega, ?_, rfl⟩⟩)
                refine (b2i_f ?_).symm
                unfold zIs
                first | rw [if_pos (by omega)] | rw [if_neg (by omega), if_pos (by omega)] | rw [if_neg (by omega), if_neg (by omega)]
                exact decide_eq_false (by omega)
              · refine r_iconstZ hX dX4_isMoment_81 (r_goto (tgt := 86) hX dX4_isMoment_82 (by decide) (r_zret hX hE dX4_isMoment_86 (by decide) (Nat.le_of_ble_eq_true rfl) (Nat.le_of_ble_eq_true rfl) ⟨_, rfl, Or.inl ⟨by omega, ?_, rfl⟩⟩))
                refine (b2i_t ?_).symm
                unfold zIs
                first | rw [if_pos (by omega)] | rw [if_neg (by omega), if_pos (by omega)] | rw [if_neg (by omega), if_neg (by omega)]
                exact decide_eq_true (by omega)
            · refine r_iconstZ hX dX4_isMoment_73 (r_goto (tgt := 78) hX dX4_isMoment_74 (by decide) (r_icmp_neZ (tgt := 85) hX dX4_isMoment_78 (by decide) (by first | with_reducible assumption | decide | omega) (by decide) (fun c19 => ?_) (fun c19 => ?_)))
              · refine r_iconstZ hX dX4_isMoment_85 (r_zret hX hE dX4_isMoment_86 (by decide) (Nat.le_of_ble_eq_true rfl) (Nat.le_of_ble_eq_true rfl) ⟨_, rfl, Or.inl ⟨by omega, ?_, rfl⟩⟩)
                refine (b2i_f ?_).symm
                unfold zIs
                first | rw [if_pos (by omega)] | rw [if_neg (by omega), if_pos (by omega)] | rw [if_neg (by omega), if_neg (by omega)]
                exact decide_eq_false (by omega)
              · refine r_iconstZ hX dX4_isMoment_81 (r_goto (tgt := 86) hX dX4_isMoment_82 (by decide) (r_zret hX hE dX4_isMoment_86 (by decide) (Nat.le_of_ble_eq_true rfl) (Nat.le_of_ble_eq_true rfl) ⟨_, rfl, Or.inl ⟨by omega, ?_, rfl⟩⟩))
                refine (b2i_t ?_).symm
                unfold zIs
                first | rw [if_pos (by omega)] | rw [if_neg (by omega), if_pos (by omega)] | rw [if_neg (by omega), if_neg (by omega)]
                exact decide_eq_true (by omega)
          · refine r_iconstZ hX dX4_isMoment_64 (r_goto (tgt := 78) hX dX4_isMoment_65 (by decide) (r_icmp_neZ (tgt := 85) hX dX4_isMoment_78 (by decide) (by first | with_reducible assumption | decide | omega) (by decide) (fun c20 => ?_) (fun c20 => ?_)))
            · refine r_iconstZ hX dX4_isMoment_85 (r_zret hX hE dX4_isMoment_86 (by decide) (Nat.le_of_ble_eq_true rfl) (Nat.le_of_ble_eq_true rfl) ⟨_, rfl, Or.inl ⟨by omega, ?_, rfl⟩⟩)
              refine (b2i_f ?_).symm
              unfold zIs
              first | rw [if_pos (by omega)] | rw [if_neg (by omega), if_pos (by omega)] | rw [if_neg (by omega), if_neg (by omega)]
              exact decide_eq_false (by omega)
            · refine r_iconstZ hX dX4_isMoment_81 (r_goto (tgt := 86) hX dX4_isMoment_82 (by decide) (r_zret hX hE dX4_isMoment_86 (by decide) (Nat.le_of_ble_eq_true rfl) (Nat.le_of_ble_eq_true rfl) ⟨_, rfl, Or.inl ⟨by omega, ?_, rfl⟩⟩))
              refine (b2i_t ?_).symm
              unfold zIs
              first | rw [if_pos (by omega)] | rw [if_neg (by omega), if_pos (by omega)] | rw [if_neg (by omega), if_neg (by omega)]
              exact decide_eq_true (by omega)
        · rcases zst1 c14 with ⟨hx, e0⟩ | ⟨hx, hy, e0⟩
          · exact absurd hx (by decide)
          · exact absurd hy (by decide)
      · have c12 := of_decide_eq_false c12
        refine r_iconst (v := b2i true) hX dX4_isMoment_32 (by decide) (r_goto (tgt := 37) hX dX4_isMoment_33 (by decide) (r_callV hX (z_X4_isStopped ad ae cs K S th rest false true) kv_X4_68 14 rfl rfl rfl rfl (Nat.le_of_ble_eq_true rfl) ⟨(Nat.le_of_ble_eq_true rfl), (Nat.le_of_ble_eq_true rfl)⟩ ⟨(Nat.le_of_ble_eq_true rfl), (Nat.le_of_ble_eq_true rfl)⟩ dX4_isMoment_37 (fun _ _ z => False.elim z) (fun v9 ws9 h21 => ?_)))
        obtain ⟨rfl, hw9⟩ := h21
        subst ws9
        dsimp only [mPush]
        refine r_if_eqB (tgt := 45) hX dX4_isMoment_40 (by decide) (fun c22 => ?_) (fun c22 => ?_)
        · exact absurd c22 (by simp)
        · rcases zst1 c22 with ⟨hx, e0⟩ | ⟨hx, hy, e0⟩
          · exact absurd hx (by decide)
          · rw [e0]
            refine r_iconstZ hX dX4_isMoment_43 ?_
            exact r_zret hX hE dX4_isMoment_44 (by decide) (Nat.le_of_ble_eq_true rfl) (Nat.le_of_ble_eq_true rfl) ⟨_, rfl, Or.inr (Or.inr ⟨by omega, by omega, rfl⟩)⟩
    · have c10 := of_decide_eq_true c10
      refine r_iconst (v := b2i true) hX dX4_isMoment_15 (by decide) (r_goto (tgt := 20) hX dX4_isMoment_16 (by decide) (r_iload_n hX dX4_isMoment_20 rfl rfl (r_i2lZ hX dX4_isMoment_21 (by first | with_reducible assumption | decide | omega) (r_lconstZ (v := 0) hX dX4_isMoment_22 rfl (r_ldc2Z (z := 2) hX kc_X4_42 (by decide +kernel) dX4_isMoment_23 (r_callS hX (z_X4_isIn _ _ _ _ _ (by first | with_reducible assumption | decide | omega) (by first | with_reducible assumption | decide | omega) (by first | with_reducible assumption | decide | omega)) ks_X4_38 rfl rfl (Nat.le_of_ble_eq_true rfl) ⟨(Nat.le_of_ble_eq_true rfl), (Nat.le_of_ble_eq_true rfl)⟩ ⟨(Nat.le_of_ble_eq_true rfl), (Nat.le_of_ble_eq_true rfl)⟩ dX4_isMoment_26 (fun _ _ z => False.elim z) (fun v9 ws9 h23 => ?_)))))))
      obtain ⟨rfl, hw9⟩ := h23
      subst ws9
      dsimp only [mPush]
      refine r_if_neB (tgt := 36) hX dX4_isMoment_29 (by decide) (fun c24 => ?_) (fun c24 => ?_)
      · have c24 := of_decide_eq_true c24
        refine r_iconst (v := b2i false) hX dX4_isMoment_36 (by decide) (r_callV hX (z_X4_isStopped ad ae cs K S th rest true false) kv_X4_68 14 rfl rfl rfl rfl (Nat.le_of_ble_eq_true rfl) ⟨(Nat.le_of_ble_eq_true rfl), (Nat.le_of_ble_eq_true rfl)⟩ ⟨(Nat.le_of_ble_eq_true rfl), (Nat.le_of_ble_eq_true rfl)⟩ dX4_isMoment_37 (fun _ _ z => False.elim z) (fun v9 ws9 h25 => ?_))
        obtain ⟨rfl, hw9⟩ := h25
        subst ws9
        dsimp only [mPush]
        refine r_if_eqB (tgt := 45) hX dX4_isMoment_40 (by decide) (fun c26 => ?_) (fun c26 => ?_)
        · exact absurd c26 (by simp)
        · rcases zst1 c26 with ⟨hx, e0⟩ | ⟨hx, hy, e0⟩
          · rw [e0]
            refine r_iconstZ hX dX4_isMoment_43 ?_
            exact r_zret hX hE dX4_isMoment_44 (by decide) (Nat.le_of_ble_eq_true rfl) (Nat.le_of_ble_eq_true rfl) ⟨_, rfl, Or.inr (Or.inl ⟨by omega, rfl⟩)⟩
          · exact absurd hx (by decide)
      · have c24 := of_decide_eq_false c24
        refine r_iconst (v := b2i true) hX dX4_isMoment_32 (by decide) (r_goto (tgt := 37) hX dX4_isMoment_33 (by decide) (r_callV hX (z_X4_isStopped ad ae cs K S th rest true true) kv_X4_68 14 rfl rfl rfl rfl (Nat.le_of_ble_eq_true rfl) ⟨(Nat.le_of_ble_eq_true rfl), (Nat.le_of_ble_eq_true rfl)⟩ ⟨(Nat.le_of_ble_eq_true rfl), (Nat.le_of_ble_eq_true rfl)⟩ dX4_isMoment_37 (fun _ _ z => False.elim z) (fun v9 ws9 h27 => ?_)))
        obtain ⟨rfl, hw9⟩ := h27
        subst ws9
        dsimp only [mPush]
        refine r_if_eqB (tgt := 45) hX dX4_isMoment_40 (by decide) (fun c28 => ?_) (fun c28 => ?_)
        · exact absurd c28 (by simp)
        · rcases zst1 c28 with ⟨hx, e0⟩ | ⟨hx, hy, e0⟩
          · rw [e0]
            refine r_iconstZ hX dX4_isMoment_43 ?_
            exact r_zret hX hE dX4_isMoment_44 (by decide) (Nat.le_of_ble_eq_true rfl) (Nat.le_of_ble_eq_true rfl) ⟨_, rfl, Or.inr (Or.inl ⟨by omega, rfl⟩)⟩
          · exact absurd hx (by decide)
end
-- 75 zrdate
section
/-! The reference, exact (rows by a program of this repository). -/
set_option maxHeartbeats 4000000 in
set_option maxRecDepth 20000 in
theorem z_X4_date (ad ae : Nat → Nat) (cs : ClassId × ClassId × ClassId) (K : mK) (S : mS) (th : Int32) (rest : va_W) (hS : sWF S) (a0 : Int) (h0 : rJ a0) (a1 : Int) (h1 : rJ a1) (a2 : Int) (h2 : rJ a2) (a3 : Int) (h3 : rJ a3) (a4 : Int) (h4 : rJ a4) (a5 : Int) (h5 : rJ a5)  : mCt (mTy cs) yX4_date cX4_date 7 (some .int) ⟨4, 0, 0, 94⟩ [.ref (ae 0), .int (iZ a0), .int (iZ a1), .int (iZ a2), .int (iZ a3), .int (iZ a4), .int (iZ a5)] (mRw ad ae cs K (mJof S th) rest) (fun v ws' => ∃ r : Int32, v = some (.int r) ∧ (((((0 ≤ a0 ∧ a0 < 4) ∧ (0 ≤ a5 ∧ a5 < 4)) ∧ ((0 ≤ a2 ∧ a2 ≤ 9999) ∧ (0 ≤ a3 ∧ a3 ≤ 86399) ∧ (0 ≤ a4 ∧ a4 ≤ 999999999))) ∧ r = iZ (oDate S a0.toNat a1 a2 a3 a4 (sof S a5.toNat)).1 ∧ ws' = mRw ad ae cs K (mJof (oDate S a0.toNat a1 a2 a3 a4 (sof S a5.toNat)).2 0) rest) ∨ (¬ ((0 ≤ a0 ∧ a0 < 4) ∧ (0 ≤ a5 ∧ a5 < 4)) ∧ ws' = mRw ad ae cs K (mJof S 1) rest) ∨ (((0 ≤ a0 ∧ a0 < 4) ∧ (0 ≤ a5 ∧ a5 < 4)) ∧ ¬ ((0 ≤ a2 ∧ a2 ≤ 9999) ∧ (0 ≤ a3 ∧ a3 ≤ 86399) ∧ (0 ≤ a4 ∧ a4 ≤ 999999999)) ∧ ws' = mRw ad ae cs K (mJof S 2) rest))) mNo := by
  refine mCt.of (by decide +kernel) (Nat.le_of_ble_eq_true rfl) (fun X hX hE => ?_)
  replace hX : mOK X RX4 cX4_date 7 ⟨4, 0, 0, 94⟩ [] (mTy cs) := hX
  refine r_aload_n hX dX4_date_0 rfl rfl (r_iload_n hX dX4_date_1 rfl rfl (r_callS hX (z_X4_isNone _ _ _ (by first | with_reducible assumption | decide | omega)) ks_X4_61 rfl rfl (Nat.le_of_ble_eq_true rfl) ⟨(Nat.le_of_ble_eq_true rfl), (Nat.le_of_ble_eq_true rfl)⟩ ⟨(Nat.le_of_ble_eq_true rfl), (Nat.le_of_ble_eq_true rfl)⟩ dX4_date_2 (fun _ _ z => False.elim z) (fun v9 ws9 h1 => ?_)))
  obtain ⟨rfl, hw9⟩ := h1
  subst ws9
  dsimp only [mPush]
  refine r_if_neB (tgt := 16) hX dX4_date_5 (by decide) (fun c2 => ?_) (fun c2 => ?_)
  · have c2 := of_decide_eq_true c2
    refine r_iconst (v := b2i true) hX dX4_date_16 (by decide) (r_goto (tgt := 21) hX dX4_date_17 (by decide) (r_iload_n hX dX4_date_21 rfl rfl (r_i2lZ hX dX4_date_22 (by first | with_reducible assumption | decide | omega) (r_lconstZ (v := 0) hX dX4_date_23 rfl (r_ldc2Z (z := 9999) hX kc_X4_153 (by decide +kernel) dX4_date_24 (r_callS hX (z_X4_isIn _ _ _ _ _ (by first | with_reducible assumption | decide | omega) (by first | with_reducible assumption | decide | omega) (by first | with_reducible assumption | decide | omega)) ks_X4_38 rfl rfl (Nat.le_of_ble_eq_true rfl) ⟨(Nat.le_of_ble_eq_true rfl), (Nat.le_of_ble_eq_true rfl)⟩ ⟨(Nat.le_of_ble_eq_true rfl), (Nat.le_of_ble_eq_true rfl)⟩ dX4_date_27 (fun _ _ z => False.elim z) (fun v9 ws9 h3 => ?_)))))))
    obtain ⟨rfl, hw9⟩ := h3
    subst ws9
    dsimp only [mPush]
    refine r_if_eqB (tgt := 43) hX dX4_date_30 (by decide) (fun c4 => ?_) (fun c4 => ?_)
    · have c4 := of_decide_eq_false c4
      refine r_iconst (v := b2i true) hX dX4_date_43 (by decide) (r_goto (tgt := 48) hX dX4_date_44 (by decide) (r_callV hX (z_X4_isStopped ad ae cs K S th rest true true) kv_X4_68 14 rfl rfl rfl rfl (Nat.le_of_ble_eq_true rfl) ⟨(Nat.le_of_ble_eq_true rfl), (Nat.le_of_ble_eq_true rfl)⟩ ⟨(Nat.le_of_ble_eq_true rfl), (Nat.le_of_ble_eq_true rfl)⟩ dX4_date_48 (fun _ _ z => False.elim z) (fun v9 ws9 h5 => ?_)))
      obtain ⟨rfl, hw9⟩ := h5
      subst ws9
      dsimp only [mPush]
      refine r_if_eqB (tgt := 56) hX dX4_date_51 (by decide) (fun c6 => ?_) (fun c6 => ?_)
      · exact absurd c6 (by simp)
      · rcases zst1 c6 with ⟨hx, e0⟩ | ⟨hx, hy, e0⟩
        · rw [e0]
          refine r_iconstZ hX dX4_date_54 ?_
          exact r_iret hX hE dX4_date_55 (Nat.le_of_ble_eq_true rfl) (Nat.le_of_ble_eq_true rfl) ⟨_, rfl, Or.inr (Or.inl ⟨by omega, rfl⟩)⟩
        · exact absurd hx (by decide)
    · have c4 := of_decide_eq_true c4
      refine r_iload hX dX4_date_33 rfl (r_iload hX dX4_date_35 rfl (r_callS hX (z_X4_isTime _ _ _ _ (by first | with_reducible assumption | decide | omega) (by first | with_reducible assumption | decide | omega)) ks_X4_155 rfl rfl (Nat.le_of_ble_eq_true rfl) ⟨(Nat.le_of_ble_eq_true rfl), (Nat.le_of_ble_eq_true rfl)⟩ ⟨(Nat.le_of_ble_eq_true rfl), (Nat.le_of_ble_eq_true rfl)⟩ dX4_date_37 (fun _ _ z => False.elim z) (fun v9 ws9 h7 => ?_)))
      obtain ⟨rfl, hw9⟩ := h7
      subst ws9
      dsimp only [mPush]
      refine r_if_neB (tgt := 47) hX dX4_date_40 (by decide) (fun c8 => ?_) (fun c8 => ?_)
      · have c8 := of_decide_eq_true c8
        refine r_iconst (v := b2i false) hX dX4_date_47 (by decide) (r_callV hX (z_X4_isStopped ad ae cs K S th rest true false) kv_X4_68 14 rfl rfl rfl rfl (Nat.le_of_ble_eq_true rfl) ⟨(Nat.le_of_ble_eq_true rfl), (Nat.le_of_ble_eq_true rfl)⟩ ⟨(Nat.le_of_ble_eq_true rfl), (Nat.le_of_ble_eq_true rfl)⟩ dX4_date_48 (fun _ _ z => False.elim z) (fun v9 ws9 h9 => ?_))
        obtain ⟨rfl, hw9⟩ := h9
        subst ws9
        dsimp only [mPush]
        refine r_if_eqB (tgt := 56) hX dX4_date_51 (by decide) (fun c10 => ?_) (fun c10 => ?_)
        · exact absurd c10 (by simp)
        · rcases zst1 c10 with ⟨hx, e0⟩ | ⟨hx, hy, e0⟩
          · rw [e0]
            refine r_iconstZ hX dX4_date_54 ?_
            exact r_iret hX hE dX4_date_55 (Nat.le_of_ble_eq_true rfl) (Nat.le_of_ble_eq_true rfl) ⟨_, rfl, Or.inr (Or.inl ⟨by omega, rfl⟩)⟩
          · exact absurd hx (by decide)
      · have c8 := of_decide_eq_false c8
        refine r_iconst (v := b2i true) hX dX4_date_43 (by decide) (r_goto (tgt := 48) hX dX4_date_44 (by decide) (r_callV hX (z_X4_isStopped ad ae cs K S th rest true true) kv_X4_68 14 rfl rfl rfl rfl (Nat.le_of_ble_eq_true rfl) ⟨(Nat.le_of_ble_eq_true rfl), (Nat.le_of_ble_eq_true rfl)⟩ ⟨(Nat.le_of_ble_eq_true rfl), (Nat.le_of_ble_eq_true rfl)⟩ dX4_date_48 (fun _ _ z => False.elim z) (fun v9 ws9 h11 => ?_)))
        obtain ⟨rfl, hw9⟩ := h11
        subst ws9
        dsimp only [mPush]
        refine r_if_eqB (tgt := 56) hX dX4_date_51 (by decide) (fun c12 => ?_) (fun c12 => ?_)
        · exact absurd c12 (by simp)
        · rcases zst1 c12 with ⟨hx, e0⟩ | ⟨hx, hy, e0⟩
          · rw [e0]
            refine r_iconstZ hX dX4_date_54 ?_
            exact r_iret hX hE dX4_date_55 (Nat.le_of_ble_eq_true rfl) (Nat.le_of_ble_eq_true rfl) ⟨_, rfl, Or.inr (Or.inl ⟨by omega, rfl⟩)⟩
          · exact absurd hx (by decide)
  · have c2 := of_decide_eq_false c2
    refine r_iload hX dX4_date_8 rfl (r_callS hX (z_X4_isNone _ _ _ (by first | with_reducible assumption | decide | omega)) ks_X4_61 rfl rfl (Nat.le_of_ble_eq_true rfl) ⟨(Nat.le_of_ble_eq_true rfl), (Nat.le_of_ble_eq_true rfl)⟩ ⟨(Nat.le_of_ble_eq_true rfl), (Nat.le_of_ble_eq_true rfl)⟩ dX4_date_10 (fun _ _ z => False.elim z) (fun v9 ws9 h13 => ?_))
    obtain ⟨rfl, hw9⟩ := h13
    subst ws9
    dsimp only [mPush]
    refine r_if_eqB (tgt := 20) hX dX4_date_13 (by decide) (fun c14 => ?_) (fun c14 => ?_)
    · have c14 := of_decide_eq_false c14
      refine r_iconst (v := b2i false) hX dX4_date_20 (by decide) (r_iload_n hX dX4_date_21 rfl rfl (r_i2lZ hX dX4_date_22 (by first | with_reducible assumption | decide | omega) (r_lconstZ (v := 0) hX dX4_date_23 rfl (r_ldc2Z (z := 9999) hX kc_X4_153 (by decide +kernel) dX4_date_24 (r_callS hX (z_X4_isIn _ _ _ _ _ (by first | with_reducible assumption | decide | omega) (by first | with_reducible assumption | decide | omega) (by first | with_reducible assumption | decide | omega)) ks_X4_38 rfl rfl (Nat.le_of_ble_eq_true rfl) ⟨(Nat.le_of_ble_eq_true rfl), (Nat.le_of_ble_eq_true rfl)⟩ ⟨(Nat.le_of_ble_eq_true rfl), (Nat.le_of_ble_eq_true rfl)⟩ dX4_date_27 (fun _ _ z => False.elim z) (fun v9 ws9 h15 => ?_))))))
      obtain ⟨rfl, hw9⟩ := h15
      subst ws9
      dsimp only [mPush]
      refine r_if_eqB (tgt := 43) hX dX4_date_30 (by decide) (fun c16 => ?_) (fun c16 => ?_)
      · have c16 := of_decide_eq_false c16
        refine r_iconst (v := b2i true) hX dX4_date_43 (by decide) (r_goto (tgt := 48) hX dX4_date_44 (by decide) (r_callV hX (z_X4_isStopped ad ae cs K S th rest false true) kv_X4_68 14 rfl rfl rfl rfl (Nat.le_of_ble_eq_true rfl) ⟨(Nat.le_of_ble_eq_true rfl), (Nat.le_of_ble_eq_true rfl)⟩ ⟨(Nat.le_of_ble_eq_true rfl), (Nat.le_of_ble_eq_true rfl)⟩ dX4_date_48 (fun _ _ z => False.elim z) (fun v9 ws9 h17 => ?_)))
        obtain ⟨rfl, hw9⟩ := h17
        subst ws9
        dsimp only [mPush]
        refine r_if_eqB (tgt := 56) hX dX4_date_51 (by decide) (fun c18 => ?_) (fun c18 => ?_)
        · exact absurd c18 (by simp)
        · rcases zst1 c18 with ⟨hx, e0⟩ | ⟨hx, hy, e0⟩
          · exact absurd hx (by decide)
          · rw [e0]
            refine r_iconstZ hX dX4_date_54 ?_
            exact r_iret hX hE dX4_date_55 (Nat.le_of_ble_eq_true rfl) (Nat.le_of_ble_eq_true rfl) ⟨_, rfl, Or.inr (Or.inr ⟨by omega, by omega, rfl⟩)⟩
      · have c16 := of_decide_eq_true c16
        refine r_iload hX dX4_date_33 rfl (r_iload hX dX4_date_35 rfl (r_callS hX (z_X4_isTime _ _ _ _ (by first | with_reducible assumption | decide | omega) (by first | with_reducible assumption | decide | omega)) ks_X4_155 rfl rfl (Nat.le_of_ble_eq_true rfl) ⟨(Nat.le_of_ble_eq_true rfl), (Nat.le_of_ble_eq_true rfl)⟩ ⟨(Nat.le_of_ble_eq_true rfl), (Nat.le_of_ble_eq_true rfl)⟩ dX4_date_37 (fun _ _ z => False.elim z) (fun v9 ws9 h19 => ?_)))
        obtain ⟨rfl, hw9⟩ := h19
        subst ws9
        dsimp only [mPush]
        refine r_if_neB (tgt := 47) hX dX4_date_40 (by decide) (fun c20 => ?_) (fun c20 => ?_)
        · have c20 := of_decide_eq_true c20
          refine r_iconst (v := b2i false) hX dX4_date_47 (by decide) (r_callV hX (z_X4_isStopped ad ae cs K S th rest false false) kv_X4_68 14 rfl rfl rfl rfl (Nat.le_of_ble_eq_true rfl) ⟨(Nat.le_of_ble_eq_true rfl), (Nat.le_of_ble_eq_true rfl)⟩ ⟨(Nat.le_of_ble_eq_true rfl), (Nat.le_of_ble_eq_true rfl)⟩ dX4_date_48 (fun _ _ z => False.elim z) (fun v9 ws9 h21 => ?_))
          obtain ⟨rfl, hw9⟩ := h21
          subst ws9
          dsimp only [mPush]
          refine r_if_eqB (tgt := 56) hX dX4_date_51 (by decide) (fun c22 => ?_) (fun c22 => ?_)
          · obtain ⟨⟨hx, hy⟩, e0⟩ := zst0 c22
            rw [e0]
            have hdmx := dm_b a1.toNat (a2 / 100).toNat
            refine r_iload_n hX dX4_date_56 rfl rfl (r_iload_n hX dX4_date_57 rfl rfl (r_bipushZ hX dX4_date_58 (by decide +kernel) (r_idivZ hX dX4_date_60 (by first | with_reducible assumption | decide | omega) (by decide) (r_iload_n hX dX4_date_61 rfl rfl (r_bipushZ hX dX4_date_62 (by decide +kernel) (r_iremZ hX dX4_date_64 (by first | with_reducible assumption | decide | omega) (by decide) (r_callS hX (z_X4_isThere _ _ _ _ _ (by first | with_reducible assumption | decide | omega) (by first | with_reducible assumption | decide | omega) (by first | with_reducible assumption | decide | omega)) ks_X4_159 rfl rfl (Nat.le_of_ble_eq_true rfl) ⟨(Nat.le_of_ble_eq_true rfl), (Nat.le_of_ble_eq_true rfl)⟩ ⟨(Nat.le_of_ble_eq_true rfl), (Nat.le_of_ble_eq_true rfl)⟩ dX4_date_65 (fun _ _ z => False.elim z) (fun v9 ws9 h23 => ?_))))))))
            obtain ⟨rfl, hw9⟩ := h23
            subst ws9
            dsimp only [mPush]
            refine r_if_eqB (tgt := 102) hX dX4_date_68 (by decide) (fun c24 => ?_) (fun c24 => ?_)
            · have c24 := of_decide_eq_false c24
              refine r_aload_n hX dX4_date_102 rfl rfl (r_callV hX (z_X4_no ad ae cs K S 0 rest) kv_X4_80 14 rfl rfl rfl rfl (Nat.le_of_ble_eq_true rfl) ⟨(Nat.le_of_ble_eq_true rfl), (Nat.le_of_ble_eq_true rfl)⟩ ⟨(Nat.le_of_ble_eq_true rfl), (Nat.le_of_ble_eq_true rfl)⟩ dX4_date_103 (fun _ _ z => False.elim z) (fun v9 ws9 h25 => ?_))
              obtain ⟨rfl, hw9⟩ := h25
              subst ws9
              dsimp only [mPush]
              refine r_iret hX hE dX4_date_106 (Nat.le_of_ble_eq_true rfl) (Nat.le_of_ble_eq_true rfl) ⟨_, rfl, Or.inl ⟨by omega, ?_⟩⟩
              unfold oDate
              rw [if_neg (by omega)]
              exact ⟨rfl, rfl⟩
            · have c24 := of_decide_eq_true c24
              refine r_aload_n hX dX4_date_71 rfl rfl (r_iload_n hX dX4_date_72 rfl rfl (r_iload_n hX dX4_date_73 rfl rfl (r_iload_n hX dX4_date_74 rfl rfl (r_bipushZ hX dX4_date_75 (by decide +kernel) (r_idivZ hX dX4_date_77 (by first | with_reducible assumption | decide | omega) (by decide) (r_iload_n hX dX4_date_78 rfl rfl (r_bipushZ hX dX4_date_79 (by decide +kernel) ?_)))))))
              refine r_iremZ hX dX4_date_81 (by first | with_reducible assumption | decide | omega) (by decide) (r_callS hX (z_X4_dayOf _ _ _ (a1).toNat (by first | with_reducible assumption | decide | omega) (by first | with_reducible assumption | decide | omega) _ (a2 / 100).toNat (by first | with_reducible assumption | decide | omega) (by first | with_reducible assumption | decide | omega) _ (by first | with_reducible assumption | decide | omega)) ks_X4_163 rfl rfl (Nat.le_of_ble_eq_true rfl) ⟨(Nat.le_of_ble_eq_true rfl), (Nat.le_of_ble_eq_true rfl)⟩ ⟨(Nat.le_of_ble_eq_true rfl), (Nat.le_of_ble_eq_true rfl)⟩ dX4_date_82 (fun _ _ z => False.elim z) (fun v9 ws9 h26 => ?_))
              obtain ⟨rfl, hw9⟩ := h26
              subst ws9
              dsimp only [mPush]
              refine r_iload hX dX4_date_85 rfl (r_iload hX dX4_date_87 rfl (r_aload_n hX dX4_date_89 rfl rfl (r_get hX kf_X4_7 14 rfl rfl dX4_date_90 (r_iload hX dX4_date_93 rfl (r_ialdZ hX 15 0 rfl rfl (a5).toNat (by first | with_reducible assumption | decide | omega) (by first | with_reducible assumption | decide | omega) (by decide) dX4_date_95 (r_callV hX (z_X4_put ad ae cs K S 0 rest hS _ (a0).toNat (by first | with_reducible assumption | decide | omega) (by first | with_reducible assumption | decide | omega) _ _ _ _ (by first | with_reducible assumption | decide | omega)) kv_X4_139 14 rfl rfl rfl rfl (Nat.le_of_ble_eq_true rfl) ⟨(Nat.le_of_ble_eq_true rfl), (Nat.le_of_ble_eq_true rfl)⟩ ⟨(Nat.le_of_ble_eq_true rfl), (Nat.le_of_ble_eq_true rfl)⟩ dX4_date_96 (fun _ _ z => False.elim z) (fun v9 ws9 h27 => ?_)))))))
              obtain ⟨rfl, hw9⟩ := h27
              subst ws9
              dsimp only [mPush]
              refine r_goto (tgt := 106) hX dX4_date_99 (by decide) (r_iret hX hE dX4_date_106 (Nat.le_of_ble_eq_true rfl) (Nat.le_of_ble_eq_true rfl) ⟨_, rfl, Or.inl ⟨by omega, ?_⟩⟩)
              have hin := day_inZ (y := a1.toNat) (m := (a2 / 100).toNat) (e := a2 % 100) (by omega) (by omega) (by omega) (by omega) (by omega) (by omega)
              unfold oDate
              rw [if_pos (by omega), oLoc_y (by omega)]
              exact ⟨congrArg iZ (by omega), rfl⟩
          · rcases zst1 c22 with ⟨hx, e0⟩ | ⟨hx, hy, e0⟩
            · exact absurd hx (by decide)
            · exact absurd hy (by decide)
        · have c20 := of_decide_eq_false c20
          refine r_iconst (v := b2i true) hX dX4_date_43 (by decide) (r_goto (tgt := 48) hX dX4_date_44 (by decide) (r_callV hX (z_X4_isStopped ad ae cs K S th rest false true) kv_X4_68 14 rfl rfl rfl rfl (Nat.le_of_ble_eq_true rfl) ⟨(Nat.le_of_ble_eq_true rfl), (Nat.le_of_ble_eq_true rfl)⟩ ⟨(Nat.le_of_ble_eq_true rfl), (Nat.le_of_ble_eq_true rfl)⟩ dX4_date_48 (fun _ _ z => False.elim z) (fun v9 ws9 h28 => ?_)))
          obtain ⟨rfl, hw9⟩ := h28
          subst ws9
          dsimp only [mPush]
          refine r_if_eqB (tgt := 56) hX dX4_date_51 (by decide) (fun c29 => ?_) (fun c29 => ?_)
          · exact absurd c29 (by simp)
          · rcases zst1 c29 with ⟨hx, e0⟩ | ⟨hx, hy, e0⟩
            · exact absurd hx (by decide)
            · rw [e0]
              refine r_iconstZ hX dX4_date_54 ?_
              exact r_iret hX hE dX4_date_55 (Nat.le_of_ble_eq_true rfl) (Nat.le_of_ble_eq_true rfl) ⟨_, rfl, Or.inr (Or.inr ⟨by omega, by omega, rfl⟩)⟩
    · have c14 := of_decide_eq_true c14
      refine r_iconst (v := b2i true) hX dX4_date_16 (by decide) (r_goto (tgt := 21) hX dX4_date_17 (by decide) (r_iload_n hX dX4_date_21 rfl rfl (r_i2lZ hX dX4_date_22 (by first | with_reducible assumption | decide | omega) (r_lconstZ (v := 0) hX dX4_date_23 rfl (r_ldc2Z (z := 9999) hX kc_X4_153 (by decide +kernel) dX4_date_24 (r_callS hX (z_X4_isIn _ _ _ _ _ (by first | with_reducible assumption | decide | omega) (by first | with_reducible assumption | decide | omega) (by first | with_reducible assumption | decide | omega)) ks_X4_38 rfl rfl (Nat.le_of_ble_eq_true rfl) ⟨(Nat.le_of_ble_eq_true rfl), (Nat.le_of_ble_eq_true rfl)⟩ ⟨(Nat.le_of_ble_eq_true rfl), (Nat.le_of_ble_eq_true rfl)⟩ dX4_date_27 (fun _ _ z => False.elim z) (fun v9 ws9 h30 => ?_)))))))
      obtain ⟨rfl, hw9⟩ := h30
      subst ws9
      dsimp only [mPush]
      refine r_if_eqB (tgt := 43) hX dX4_date_30 (by decide) (fun c31 => ?_) (fun c31 => ?_)
      · have c31 := of_decide_eq_false c31
        refine r_iconst (v := b2i true) hX dX4_date_43 (by decide) (r_goto (tgt := 48) hX dX4_date_44 (by decide) (r_callV hX (z_X4_isStopped ad ae cs K S th rest true true) kv_X4_68 14 rfl rfl rfl rfl (Nat.le_of_ble_eq_true rfl) ⟨(Nat.le_of_ble_eq_true rfl), (Nat.le_of_ble_eq_true rfl)⟩ ⟨(Nat.le_of_ble_eq_true rfl), (Nat.le_of_ble_eq_true rfl)⟩ dX4_date_48 (fun _ _ z => False.elim z) (fun v9 ws9 h32 => ?_)))
        obtain ⟨rfl, hw9⟩ := h32
        subst ws9
        dsimp only [mPush]
        refine r_if_eqB (tgt := 56) hX dX4_date_51 (by decide) (fun c33 => ?_) (fun c33 => ?_)
        · exact absurd c33 (by simp)
        · rcases zst1 c33 with ⟨hx, e0⟩ | ⟨hx, hy, e0⟩
          · rw [e0]
            refine r_iconstZ hX dX4_date_54 ?_
            exact r_iret hX hE dX4_date_55 (Nat.le_of_ble_eq_true rfl) (Nat.le_of_ble_eq_true rfl) ⟨_, rfl, Or.inr (Or.inl ⟨by omega, rfl⟩)⟩
          · exact absurd hx (by decide)
      · have c31 := of_decide_eq_true c31
        refine r_iload hX dX4_date_33 rfl (r_iload hX dX4_date_35 rfl (r_callS hX (z_X4_isTime _ _ _ _ (by first | with_reducible assumption | decide | omega) (by first | with_reducible assumption | decide | omega)) ks_X4_155 rfl rfl (Nat.le_of_ble_eq_true rfl) ⟨(Nat.le_of_ble_eq_true rfl), (Nat.le_of_ble_eq_true rfl)⟩ ⟨(Nat.le_of_ble_eq_true rfl), (Nat.le_of_ble_eq_true rfl)⟩ dX4_date_37 (fun _ _ z => False.elim z) (fun v9 ws9 h34 => ?_)))
        obtain ⟨rfl, hw9⟩ := h34
        subst ws9
        dsimp only [mPush]
        refine r_if_neB (tgt := 47) hX dX4_date_40 (by decide) (fun c35 => ?_) (fun c35 => ?_)
        · have c35 := of_decide_eq_true c35
          refine r_iconst (v := b2i false) hX dX4_date_47 (by decide) (r_callV hX (z_X4_isStopped ad ae cs K S th rest true false) kv_X4_68 14 rfl rfl rfl rfl (Nat.le_of_ble_eq_true rfl) ⟨(Nat.le_of_ble_eq_true rfl), (Nat.le_of_ble_eq_true rfl)⟩ ⟨(Nat.le_of_ble_eq_true rfl), (Nat.le_of_ble_eq_true rfl)⟩ dX4_date_48 (fun _ _ z => False.elim z) (fun v9 ws9 h36 => ?_))
          obtain ⟨rfl, hw9⟩ := h36
          subst ws9
          dsimp only [mPush]
          refine r_if_eqB (tgt := 56) hX dX4_date_51 (by decide) (fun c37 => ?_) (fun c37 => ?_)
          · exact absurd c37 (by simp)
          · rcases zst1 c37 with ⟨hx, e0⟩ | ⟨hx, hy, e0⟩
            · rw [e0]
              refine r_iconstZ hX dX4_date_54 ?_
              exact r_iret hX hE dX4_date_55 (Nat.le_of_ble_eq_true rfl) (Nat.le_of_ble_eq_true rfl) ⟨_, rfl, Or.inr (Or.inl ⟨by omega, rfl⟩)⟩
            · exact absurd hx (by decide)
        · have c35 := of_decide_eq_false c35
          refine r_iconst (v := b2i true) hX dX4_date_43 (by decide) (r_goto (tgt := 48) hX dX4_date_44 (by decide) (r_callV hX (z_X4_isStopped ad ae cs K S th rest true true) kv_X4_68 14 rfl rfl rfl rfl (Nat.le_of_ble_eq_true rfl) ⟨(Nat.le_of_ble_eq_true rfl), (Nat.le_of_ble_eq_true rfl)⟩ ⟨(Nat.le_of_ble_eq_true rfl), (Nat.le_of_ble_eq_true rfl)⟩ dX4_date_48 (fun _ _ z => False.elim z) (fun v9 ws9 h38 => ?_)))
          obtain ⟨rfl, hw9⟩ := h38
          subst ws9
          dsimp only [mPush]
          refine r_if_eqB (tgt := 56) hX dX4_date_51 (by decide) (fun c39 => ?_) (fun c39 => ?_)
          · exact absurd c39 (by simp)
          · rcases zst1 c39 with ⟨hx, e0⟩ | ⟨hx, hy, e0⟩
            · rw [e0]
              refine r_iconstZ hX dX4_date_54 ?_
              exact r_iret hX hE dX4_date_55 (Nat.le_of_ble_eq_true rfl) (Nat.le_of_ble_eq_true rfl) ⟨_, rfl, Or.inr (Or.inl ⟨by omega, rfl⟩)⟩
            · exact absurd hx (by decide)
set_option maxHeartbeats 4000000 in
set_option maxRecDepth 20000 in
theorem z_X4_dateOf (ad ae : Nat → Nat) (cs : ClassId × ClassId × ClassId) (K : mK) (S : mS) (th : Int32) (rest : va_W) (hS : sWF S) (a0 : Int) (h0 : rJ a0) (a1 : Int) (h1 : rJ a1) (a2 : Int) (h2 : rJ a2)  : mCt (mTy cs) yX4_dateOf cX4_dateOf 4 (some .int) ⟨5, 0, 0, 120⟩ [.ref (ae 0), .int (iZ a0), .int (iZ a1), .int (iZ a2)] (mRw ad ae cs K (mJof S th) rest) (fun v ws' => ∃ r : Int32, v = some (.int r) ∧ (((((0 ≤ a0 ∧ a0 < 4) ∧ (0 ≤ a1 ∧ a1 < 4) ∧ (0 ≤ a2 ∧ a2 < 4)) ∧ (0 ≤ (0 : Int))) ∧ r = iZ (oLoc S a0.toNat (snu S a1.toNat / 1000000000 + sof S a2.toNat) (snu S a1.toNat % 1000000000) (sof S a2.toNat)).1 ∧ ws' = mRw ad ae cs K (mJof (oLoc S a0.toNat (snu S a1.toNat / 1000000000 + sof S a2.toNat) (snu S a1.toNat % 1000000000) (sof S a2.toNat)).2 0) rest) ∨ (¬ ((0 ≤ a0 ∧ a0 < 4) ∧ (0 ≤ a1 ∧ a1 < 4) ∧ (0 ≤ a2 ∧ a2 < 4)) ∧ ws' = mRw ad ae cs K (mJof S 1) rest) ∨ (((0 ≤ a0 ∧ a0 < 4) ∧ (0 ≤ a1 ∧ a1 < 4) ∧ (0 ≤ a2 ∧ a2 < 4)) ∧ ¬ (0 ≤ (0 : Int)) ∧ ws' = mRw ad ae cs K (mJof S 2) rest))) mNo := by
  refine mCt.of (by decide +kernel) (Nat.le_of_ble_eq_true rfl) (fun X hX hE => ?_)
  replace hX : mOK X RX4 cX4_dateOf 4 ⟨5, 0, 0, 120⟩ [] (mTy cs) := hX
  refine r_aload_n hX dX4_dateOf_0 rfl rfl (r_iload_n hX dX4_dateOf_1 rfl rfl (r_callS hX (z_X4_isNone _ _ _ (by first | with_reducible assumption | decide | omega)) ks_X4_61 rfl rfl (Nat.le_of_ble_eq_true rfl) ⟨(Nat.le_of_ble_eq_true rfl), (Nat.le_of_ble_eq_true rfl)⟩ ⟨(Nat.le_of_ble_eq_true rfl), (Nat.le_of_ble_eq_true rfl)⟩ dX4_dateOf_2 (fun _ _ z => False.elim z) (fun v9 ws9 h1 => ?_)))
  obtain ⟨rfl, hw9⟩ := h1
  subst ws9
  dsimp only [mPush]
  refine r_if_neB (tgt := 22) hX dX4_dateOf_5 (by decide) (fun c2 => ?_) (fun c2 => ?_)
  · have c2 := of_decide_eq_true c2
    refine r_iconst (v := b2i true) hX dX4_dateOf_22 (by decide) (r_goto (tgt := 27) hX dX4_dateOf_23 (by decide) (r_iconst (v := b2i false) hX dX4_dateOf_27 (by decide) (r_callV hX (z_X4_isStopped ad ae cs K S th rest true false) kv_X4_68 14 rfl rfl rfl rfl (Nat.le_of_ble_eq_true rfl) ⟨(Nat.le_of_ble_eq_true rfl), (Nat.le_of_ble_eq_true rfl)⟩ ⟨(Nat.le_of_ble_eq_true rfl), (Nat.le_of_ble_eq_true rfl)⟩ dX4_dateOf_28 (fun _ _ z => False.elim z) (fun v9 ws9 h3 => ?_))))
    obtain ⟨rfl, hw9⟩ := h3
    subst ws9
    dsimp only [mPush]
    refine r_if_eqB (tgt := 36) hX dX4_dateOf_31 (by decide) (fun c4 => ?_) (fun c4 => ?_)
    · exact absurd c4 (by simp)
    · rcases zst1 c4 with ⟨hx, e0⟩ | ⟨hx, hy, e0⟩
      · rw [e0]
        refine r_iconstZ hX dX4_dateOf_34 ?_
        exact r_iret hX hE dX4_dateOf_35 (Nat.le_of_ble_eq_true rfl) (Nat.le_of_ble_eq_true rfl) ⟨_, rfl, Or.inr (Or.inl ⟨by omega, rfl⟩)⟩
      · exact absurd hx (by decide)
  · have c2 := of_decide_eq_false c2
    refine r_iload_n hX dX4_dateOf_8 rfl rfl (r_callS hX (z_X4_isNone _ _ _ (by first | with_reducible assumption | decide | omega)) ks_X4_61 rfl rfl (Nat.le_of_ble_eq_true rfl) ⟨(Nat.le_of_ble_eq_true rfl), (Nat.le_of_ble_eq_true rfl)⟩ ⟨(Nat.le_of_ble_eq_true rfl), (Nat.le_of_ble_eq_true rfl)⟩ dX4_dateOf_9 (fun _ _ z => False.elim z) (fun v9 ws9 h5 => ?_))
    obtain ⟨rfl, hw9⟩ := h5
    subst ws9
    dsimp only [mPush]
    refine r_if_neB (tgt := 22) hX dX4_dateOf_12 (by decide) (fun c6 => ?_) (fun c6 => ?_)
    · have c6 := of_decide_eq_true c6
      refine r_iconst (v := b2i true) hX dX4_dateOf_22 (by decide) (r_goto (tgt := 27) hX dX4_dateOf_23 (by decide) (r_iconst (v := b2i false) hX dX4_dateOf_27 (by decide) (r_callV hX (z_X4_isStopped ad ae cs K S th rest true false) kv_X4_68 14 rfl rfl rfl rfl (Nat.le_of_ble_eq_true rfl) ⟨(Nat.le_of_ble_eq_true rfl), (Nat.le_of_ble_eq_true rfl)⟩ ⟨(Nat.le_of_ble_eq_true rfl), (Nat.le_of_ble_eq_true rfl)⟩ dX4_dateOf_28 (fun _ _ z => False.elim z) (fun v9 ws9 h7 => ?_))))
      obtain ⟨rfl, hw9⟩ := h7
      subst ws9
      dsimp only [mPush]
      refine r_if_eqB (tgt := 36) hX dX4_dateOf_31 (by decide) (fun c8 => ?_) (fun c8 => ?_)
      · exact absurd c8 (by simp)
      · rcases zst1 c8 with ⟨hx, e0⟩ | ⟨hx, hy, e0⟩
        · rw [e0]
          refine r_iconstZ hX dX4_dateOf_34 ?_
          exact r_iret hX hE dX4_dateOf_35 (Nat.le_of_ble_eq_true rfl) (Nat.le_of_ble_eq_true rfl) ⟨_, rfl, Or.inr (Or.inl ⟨by omega, rfl⟩)⟩
        · exact absurd hx (by decide)
    · have c6 := of_decide_eq_false c6
      refine r_iload_n hX dX4_dateOf_15 rfl rfl (r_callS hX (z_X4_isNone _ _ _ (by first | with_reducible assumption | decide | omega)) ks_X4_61 rfl rfl (Nat.le_of_ble_eq_true rfl) ⟨(Nat.le_of_ble_eq_true rfl), (Nat.le_of_ble_eq_true rfl)⟩ ⟨(Nat.le_of_ble_eq_true rfl), (Nat.le_of_ble_eq_true rfl)⟩ dX4_dateOf_16 (fun _ _ z => False.elim z) (fun v9 ws9 h9 => ?_))
      obtain ⟨rfl, hw9⟩ := h9
      subst ws9
      dsimp only [mPush]
      refine r_if_eqB (tgt := 26) hX dX4_dateOf_19 (by decide) (fun c10 => ?_) (fun c10 => ?_)
      · have c10 := of_decide_eq_false c10
        refine r_iconst (v := b2i false) hX dX4_dateOf_26 (by decide) (r_iconst (v := b2i false) hX dX4_dateOf_27 (by decide) (r_callV hX (z_X4_isStopped ad ae cs K S th rest false false) kv_X4_68 14 rfl rfl rfl rfl (Nat.le_of_ble_eq_true rfl) ⟨(Nat.le_of_ble_eq_true rfl), (Nat.le_of_ble_eq_true rfl)⟩ ⟨(Nat.le_of_ble_eq_true rfl), (Nat.le_of_ble_eq_true rfl)⟩ dX4_dateOf_28 (fun _ _ z => False.elim z) (fun v9 ws9 h11 => ?_)))
        obtain ⟨rfl, hw9⟩ := h11
        subst ws9
        dsimp only [mPush]
        refine r_if_eqB (tgt := 36) hX dX4_dateOf_31 (by decide) (fun c12 => ?_) (fun c12 => ?_)
        · obtain ⟨⟨hx, hy⟩, e0⟩ := zst0 c12
          rw [e0]
          have hnu := hS.2.1 a1.toNat (by omega)
          have hof := hS.1 a2.toNat (by omega)
          refine r_aload_n hX dX4_dateOf_36 rfl rfl (r_iload_n hX dX4_dateOf_37 rfl rfl (r_lconstZ (v := 0) hX dX4_dateOf_38 rfl (r_aload_n hX dX4_dateOf_39 rfl rfl (r_get hX kf_X4_13 14 rfl rfl dX4_dateOf_40 (r_iload_n hX dX4_dateOf_43 rfl rfl (r_laldZ hX 16 1 rfl rfl (a1).toNat (by first | with_reducible assumption | decide | omega) (by first | with_reducible assumption | decide | omega) (by decide) dX4_dateOf_44 (r_ldc2Z (z := 1000000000) hX kc_X4_96 (by decide +kernel) dX4_dateOf_45 ?_)))))))
          refine r_callS hX (c_X4_whole_x _ _ _ _ (by first | with_reducible assumption | decide | omega) (by first | with_reducible assumption | decide | omega) (by first | with_reducible assumption | decide | omega) (by first | with_reducible assumption | decide | omega)) ks_X4_92 rfl rfl (Nat.le_of_ble_eq_true rfl) ⟨(Nat.le_of_ble_eq_true rfl), (Nat.le_of_ble_eq_true rfl)⟩ ⟨(Nat.le_of_ble_eq_true rfl), (Nat.le_of_ble_eq_true rfl)⟩ dX4_dateOf_48 (fun _ _ z => False.elim z) (fun v9 ws9 h13 => ?_)
          obtain ⟨rfl, hw9⟩ := h13
          subst ws9
          dsimp only [mPush]
          refine r_aload_n hX dX4_dateOf_51 rfl rfl (r_get hX kf_X4_7 14 rfl rfl dX4_dateOf_52 (r_iload_n hX dX4_dateOf_55 rfl rfl (r_ialdZ hX 15 0 rfl rfl (a2).toNat (by first | with_reducible assumption | decide | omega) (by first | with_reducible assumption | decide | omega) (by decide) dX4_dateOf_56 (r_i2lZ hX dX4_dateOf_57 (by first | with_reducible assumption | decide | omega) (r_laddZ hX dX4_dateOf_58 (r_aload_n hX dX4_dateOf_59 rfl rfl (r_get hX kf_X4_13 14 rfl rfl dX4_dateOf_60 ?_)))))))
          refine r_iload_n hX dX4_dateOf_63 rfl rfl (r_laldZ hX 16 1 rfl rfl (a1).toNat (by first | with_reducible assumption | decide | omega) (by first | with_reducible assumption | decide | omega) (by decide) dX4_dateOf_64 (r_ldc2Z (z := 1000000000) hX kc_X4_96 (by decide +kernel) dX4_dateOf_65 (r_callS hX (c_X4_rest_x _ _ _ _ (by first | with_reducible assumption | decide | omega) (by first | with_reducible assumption | decide | omega) (by first | with_reducible assumption | decide | omega) (by first | with_reducible assumption | decide | omega)) ks_X4_102 rfl rfl (Nat.le_of_ble_eq_true rfl) ⟨(Nat.le_of_ble_eq_true rfl), (Nat.le_of_ble_eq_true rfl)⟩ ⟨(Nat.le_of_ble_eq_true rfl), (Nat.le_of_ble_eq_true rfl)⟩ dX4_dateOf_68 (fun _ _ z => False.elim z) (fun v9 ws9 h14 => ?_))))
          obtain ⟨rfl, hw9⟩ := h14
          subst ws9
          dsimp only [mPush]
          refine r_aload_n hX dX4_dateOf_71 rfl rfl (r_get hX kf_X4_7 14 rfl rfl dX4_dateOf_72 (r_iload_n hX dX4_dateOf_75 rfl rfl (r_ialdZ hX 15 0 rfl rfl (a2).toNat (by first | with_reducible assumption | decide | omega) (by first | with_reducible assumption | decide | omega) (by decide) dX4_dateOf_76 (r_callV hX (z_X4_put_ ad ae cs K S 0 rest hS _ (a0).toNat (by first | with_reducible assumption | decide | omega) (by first | with_reducible assumption | decide | omega) _ _ _ _ (by first | with_reducible assumption | decide | omega) (by first | with_reducible assumption | decide | omega)) kv_X4_167 14 rfl rfl rfl rfl (Nat.le_of_ble_eq_true rfl) ⟨(Nat.le_of_ble_eq_true rfl), (Nat.le_of_ble_eq_true rfl)⟩ ⟨(Nat.le_of_ble_eq_true rfl), (Nat.le_of_ble_eq_true rfl)⟩ dX4_dateOf_77 (fun _ _ z => False.elim z) (fun v9 ws9 h15 => ?_)))))
          obtain ⟨rfl, hw9⟩ := h15
          subst ws9
          dsimp only [mPush]
          refine r_iret hX hE dX4_dateOf_80 (Nat.le_of_ble_eq_true rfl) (Nat.le_of_ble_eq_true rfl) ⟨_, rfl, Or.inl ⟨by omega, ?_⟩⟩
          exact oeR (oLoc_c (by omega) (by omega) (by omega))
        · rcases zst1 c12 with ⟨hx, e0⟩ | ⟨hx, hy, e0⟩
          · exact absurd hx (by decide)
          · exact absurd hy (by decide)
      · have c10 := of_decide_eq_true c10
        refine r_iconst (v := b2i true) hX dX4_dateOf_22 (by decide) (r_goto (tgt := 27) hX dX4_dateOf_23 (by decide) (r_iconst (v := b2i false) hX dX4_dateOf_27 (by decide) (r_callV hX (z_X4_isStopped ad ae cs K S th rest true false) kv_X4_68 14 rfl rfl rfl rfl (Nat.le_of_ble_eq_true rfl) ⟨(Nat.le_of_ble_eq_true rfl), (Nat.le_of_ble_eq_true rfl)⟩ ⟨(Nat.le_of_ble_eq_true rfl), (Nat.le_of_ble_eq_true rfl)⟩ dX4_dateOf_28 (fun _ _ z => False.elim z) (fun v9 ws9 h16 => ?_))))
        obtain ⟨rfl, hw9⟩ := h16
        subst ws9
        dsimp only [mPush]
        refine r_if_eqB (tgt := 36) hX dX4_dateOf_31 (by decide) (fun c17 => ?_) (fun c17 => ?_)
        · exact absurd c17 (by simp)
        · rcases zst1 c17 with ⟨hx, e0⟩ | ⟨hx, hy, e0⟩
          · rw [e0]
            refine r_iconstZ hX dX4_dateOf_34 ?_
            exact r_iret hX hE dX4_dateOf_35 (Nat.le_of_ble_eq_true rfl) (Nat.le_of_ble_eq_true rfl) ⟨_, rfl, Or.inr (Or.inl ⟨by omega, rfl⟩)⟩
          · exact absurd hx (by decide)
set_option maxHeartbeats 4000000 in
set_option maxRecDepth 20000 in
theorem z_X4_anew (ad ae : Nat → Nat) (cs : ClassId × ClassId × ClassId) (K : mK) (S : mS) (th : Int32) (rest : va_W) (hS : sWF S) (a0 : Int) (h0 : rJ a0) (a1 : Int) (h1 : rJ a1) (b2 : Bool)  : mCt (mTy cs) yX4_anew cX4_anew 5 (some .int) ⟨5, 0, 0, 120⟩ [.ref (ae 0), .int (iZ a0), .int (iZ a1), .int (b2i b2)] (mRw ad ae cs K (mJof S th) rest) (fun v ws' => ∃ r : Int32, v = some (.int r) ∧ (((((0 ≤ a0 ∧ a0 < 4) ∧ (0 ≤ a1 ∧ a1 < 4)) ∧ (0 ≤ (0 : Int))) ∧ r = iZ (oLoc S a0.toNat (cond b2 (sse S a0.toNat) (sse S a0.toNat - sow S a0.toNat + sof S a1.toNat)) (sna S a0.toNat) (sof S a1.toNat)).1 ∧ ws' = mRw ad ae cs K (mJof (oLoc S a0.toNat (cond b2 (sse S a0.toNat) (sse S a0.toNat - sow S a0.toNat + sof S a1.toNat)) (sna S a0.toNat) (sof S a1.toNat)).2 0) rest) ∨ (¬ ((0 ≤ a0 ∧ a0 < 4) ∧ (0 ≤ a1 ∧ a1 < 4)) ∧ ws' = mRw ad ae cs K (mJof S 1) rest) ∨ (((0 ≤ a0 ∧ a0 < 4) ∧ (0 ≤ a1 ∧ a1 < 4)) ∧ ¬ (0 ≤ (0 : Int)) ∧ ws' = mRw ad ae cs K (mJof S 2) rest))) mNo := by
  refine mCt.of (by decide +kernel) (Nat.le_of_ble_eq_true rfl) (fun X hX hE => ?_)
  replace hX : mOK X RX4 cX4_anew 5 ⟨5, 0, 0, 120⟩ [] (mTy cs) := hX
  refine r_aload_n hX dX4_anew_0 rfl rfl (r_iload_n hX dX4_anew_1 rfl rfl (r_callS hX (z_X4_isNone _ _ _ (by first | with_reducible assumption | decide | omega)) ks_X4_61 rfl rfl (Nat.le_of_ble_eq_true rfl) ⟨(Nat.le_of_ble_eq_true rfl), (Nat.le_of_ble_eq_true rfl)⟩ ⟨(Nat.le_of_ble_eq_true rfl), (Nat.le_of_ble_eq_true rfl)⟩ dX4_anew_2 (fun _ _ z => False.elim z) (fun v9 ws9 h1 => ?_)))
  obtain ⟨rfl, hw9⟩ := h1
  subst ws9
  dsimp only [mPush]
  refine r_if_neB (tgt := 15) hX dX4_anew_5 (by decide) (fun c2 => ?_) (fun c2 => ?_)
  · have c2 := of_decide_eq_true c2
    refine r_iconst (v := b2i true) hX dX4_anew_15 (by decide) (r_goto (tgt := 20) hX dX4_anew_16 (by decide) (r_iconst (v := b2i false) hX dX4_anew_20 (by decide) (r_callV hX (z_X4_isStopped ad ae cs K S th rest true false) kv_X4_68 14 rfl rfl rfl rfl (Nat.le_of_ble_eq_true rfl) ⟨(Nat.le_of_ble_eq_true rfl), (Nat.le_of_ble_eq_true rfl)⟩ ⟨(Nat.le_of_ble_eq_true rfl), (Nat.le_of_ble_eq_true rfl)⟩ dX4_anew_21 (fun _ _ z => False.elim z) (fun v9 ws9 h3 => ?_))))
    obtain ⟨rfl, hw9⟩ := h3
    subst ws9
    dsimp only [mPush]
    refine r_if_eqB (tgt := 29) hX dX4_anew_24 (by decide) (fun c4 => ?_) (fun c4 => ?_)
    · exact absurd c4 (by simp)
    · rcases zst1 c4 with ⟨hx, e0⟩ | ⟨hx, hy, e0⟩
      · rw [e0]
        refine r_iconstZ hX dX4_anew_27 ?_
        exact r_iret hX hE dX4_anew_28 (Nat.le_of_ble_eq_true rfl) (Nat.le_of_ble_eq_true rfl) ⟨_, rfl, Or.inr (Or.inl ⟨by omega, rfl⟩)⟩
      · exact absurd hx (by decide)
  · have c2 := of_decide_eq_false c2
    refine r_iload_n hX dX4_anew_8 rfl rfl (r_callS hX (z_X4_isNone _ _ _ (by first | with_reducible assumption | decide | omega)) ks_X4_61 rfl rfl (Nat.le_of_ble_eq_true rfl) ⟨(Nat.le_of_ble_eq_true rfl), (Nat.le_of_ble_eq_true rfl)⟩ ⟨(Nat.le_of_ble_eq_true rfl), (Nat.le_of_ble_eq_true rfl)⟩ dX4_anew_9 (fun _ _ z => False.elim z) (fun v9 ws9 h5 => ?_))
    obtain ⟨rfl, hw9⟩ := h5
    subst ws9
    dsimp only [mPush]
    refine r_if_eqB (tgt := 19) hX dX4_anew_12 (by decide) (fun c6 => ?_) (fun c6 => ?_)
    · have c6 := of_decide_eq_false c6
      refine r_iconst (v := b2i false) hX dX4_anew_19 (by decide) (r_iconst (v := b2i false) hX dX4_anew_20 (by decide) (r_callV hX (z_X4_isStopped ad ae cs K S th rest false false) kv_X4_68 14 rfl rfl rfl rfl (Nat.le_of_ble_eq_true rfl) ⟨(Nat.le_of_ble_eq_true rfl), (Nat.le_of_ble_eq_true rfl)⟩ ⟨(Nat.le_of_ble_eq_true rfl), (Nat.le_of_ble_eq_true rfl)⟩ dX4_anew_21 (fun _ _ z => False.elim z) (fun v9 ws9 h7 => ?_)))
      obtain ⟨rfl, hw9⟩ := h7
      subst ws9
      dsimp only [mPush]
      refine r_if_eqB (tgt := 29) hX dX4_anew_24 (by decide) (fun c8 => ?_) (fun c8 => ?_)
      · obtain ⟨⟨hx, hy⟩, e0⟩ := zst0 c8
        rw [e0]
        have hr0 := zrg hS (d := a0.toNat) (by omega)
        have hof := hS.1 a1.toNat (by omega)
        refine r_iload_n hX dX4_anew_29 rfl rfl (r_if_eqB (tgt := 37) hX dX4_anew_30 (by decide) (fun c9 => ?_) (fun c9 => ?_))
        · have c9 := id c9
          refine r_aload_n hX dX4_anew_37 rfl rfl (r_get hX kf_X4_7 14 rfl rfl dX4_anew_38 (r_iload_n hX dX4_anew_41 rfl rfl (r_ialdZ hX 15 0 rfl rfl (a1).toNat (by first | with_reducible assumption | decide | omega) (by first | with_reducible assumption | decide | omega) (by decide) dX4_anew_42 (r_aload_n hX dX4_anew_43 rfl rfl (r_get hX kf_X4_26 14 rfl rfl dX4_anew_44 (r_iload_n hX dX4_anew_47 rfl rfl (r_ialdZ hX 20 0 rfl rfl (a0).toNat (by first | with_reducible assumption | decide | omega) (by first | with_reducible assumption | decide | omega) (by decide) dX4_anew_48 ?_)))))))
          refine r_isubZ hX dX4_anew_49 (r_istore hX dX4_anew_50 (by decide) rfl (r_aload_n hX dX4_anew_52 rfl rfl (r_iload_n hX dX4_anew_53 rfl rfl (r_aload_n hX dX4_anew_54 rfl rfl (r_get hX kf_X4_17 14 rfl rfl dX4_anew_55 (r_iload_n hX dX4_anew_58 rfl rfl (r_ialdZ hX 17 0 rfl rfl (a0).toNat (by first | with_reducible assumption | decide | omega) (by first | with_reducible assumption | decide | omega) (by decide) dX4_anew_59 ?_)))))))
          refine r_i2lZ hX dX4_anew_60 (by first | with_reducible assumption | decide | omega) (r_aload_n hX dX4_anew_61 rfl rfl (r_get hX kf_X4_20 14 rfl rfl dX4_anew_62 (r_iload_n hX dX4_anew_65 rfl rfl (r_ialdZ hX 18 0 rfl rfl (a0).toNat (by first | with_reducible assumption | decide | omega) (by first | with_reducible assumption | decide | omega) (by decide) dX4_anew_66 (r_i2lZ hX dX4_anew_67 (by first | with_reducible assumption | decide | omega) (r_iload hX dX4_anew_68 rfl (r_i2lZ hX dX4_anew_70 (by first | with_reducible assumption | decide | omega) ?_)))))))
          refine r_laddZ hX dX4_anew_71 (r_aload_n hX dX4_anew_72 rfl rfl (r_get hX kf_X4_23 14 rfl rfl dX4_anew_73 (r_iload_n hX dX4_anew_76 rfl rfl (r_ialdZ hX 19 0 rfl rfl (a0).toNat (by first | with_reducible assumption | decide | omega) (by first | with_reducible assumption | decide | omega) (by decide) dX4_anew_77 (r_aload_n hX dX4_anew_78 rfl rfl (r_get hX kf_X4_7 14 rfl rfl dX4_anew_79 (r_iload_n hX dX4_anew_82 rfl rfl ?_)))))))
          refine r_ialdZ hX 15 0 rfl rfl (a1).toNat (by first | with_reducible assumption | decide | omega) (by first | with_reducible assumption | decide | omega) (by decide) dX4_anew_83 (r_callV hX (z_X4_put_ ad ae cs K S 0 rest hS _ (a0).toNat (by first | with_reducible assumption | decide | omega) (by first | with_reducible assumption | decide | omega) _ _ _ _ (by first | with_reducible assumption | decide | omega) (by first | with_reducible assumption | decide | omega)) kv_X4_167 14 rfl rfl rfl rfl (Nat.le_of_ble_eq_true rfl) ⟨(Nat.le_of_ble_eq_true rfl), (Nat.le_of_ble_eq_true rfl)⟩ ⟨(Nat.le_of_ble_eq_true rfl), (Nat.le_of_ble_eq_true rfl)⟩ dX4_anew_84 (fun _ _ z => False.elim z) (fun v9 ws9 h10 => ?_))
          obtain ⟨rfl, hw9⟩ := h10
          subst ws9
          dsimp only [mPush]
          refine r_iret hX hE dX4_anew_87 (Nat.le_of_ble_eq_true rfl) (Nat.le_of_ble_eq_true rfl) ⟨_, rfl, Or.inl ⟨by omega, ?_⟩⟩
          first | rw [show b2 = true by assumption] | rw [show b2 = false by assumption]
          simp only [cond]
          exact oeR (oLoc_c (by omega) (by omega) (by omega))
        · have c9 := id c9
          refine r_iconstZ hX dX4_anew_33 (r_goto (tgt := 50) hX dX4_anew_34 (by decide) (r_istore hX dX4_anew_50 (by decide) rfl (r_aload_n hX dX4_anew_52 rfl rfl (r_iload_n hX dX4_anew_53 rfl rfl (r_aload_n hX dX4_anew_54 rfl rfl (r_get hX kf_X4_17 14 rfl rfl dX4_anew_55 (r_iload_n hX dX4_anew_58 rfl rfl ?_)))))))
          refine r_ialdZ hX 17 0 rfl rfl (a0).toNat (by first | with_reducible assumption | decide | omega) (by first | with_reducible assumption | decide | omega) (by decide) dX4_anew_59 (r_i2lZ hX dX4_anew_60 (by first | with_reducible assumption | decide | omega) (r_aload_n hX dX4_anew_61 rfl rfl (r_get hX kf_X4_20 14 rfl rfl dX4_anew_62 (r_iload_n hX dX4_anew_65 rfl rfl (r_ialdZ hX 18 0 rfl rfl (a0).toNat (by first | with_reducible assumption | decide | omega) (by first | with_reducible assumption | decide | omega) (by decide) dX4_anew_66 (r_i2lZ hX dX4_anew_67 (by first | with_reducible assumption | decide | omega) (r_iload hX dX4_anew_68 rfl ?_)))))))
          refine r_i2lZ hX dX4_anew_70 (by decide) (r_laddZ hX dX4_anew_71 (r_aload_n hX dX4_anew_72 rfl rfl (r_get hX kf_X4_23 14 rfl rfl dX4_anew_73 (r_iload_n hX dX4_anew_76 rfl rfl (r_ialdZ hX 19 0 rfl rfl (a0).toNat (by first | with_reducible assumption | decide | omega) (by first | with_reducible assumption | decide | omega) (by decide) dX4_anew_77 (r_aload_n hX dX4_anew_78 rfl rfl (r_get hX kf_X4_7 14 rfl rfl dX4_anew_79 ?_)))))))
          refine r_iload_n hX dX4_anew_82 rfl rfl (r_ialdZ hX 15 0 rfl rfl (a1).toNat (by first | with_reducible assumption | decide | omega) (by first | with_reducible assumption | decide | omega) (by decide) dX4_anew_83 (r_callV hX (z_X4_put_ ad ae cs K S 0 rest hS _ (a0).toNat (by first | with_reducible assumption | decide | omega) (by first | with_reducible assumption | decide | omega) _ _ _ _ (by first | with_reducible assumption | decide | omega) (by first | with_reducible assumption | decide | omega)) kv_X4_167 14 rfl rfl rfl rfl (Nat.le_of_ble_eq_true rfl) ⟨(Nat.le_of_ble_eq_true rfl), (Nat.le_of_ble_eq_true rfl)⟩ ⟨(Nat.le_of_ble_eq_true rfl), (Nat.le_of_ble_eq_true rfl)⟩ dX4_anew_84 (fun _ _ z => False.elim z) (fun v9 ws9 h11 => ?_)))
          obtain ⟨rfl, hw9⟩ := h11
          subst ws9
          dsimp only [mPush]
          refine r_iret hX hE dX4_anew_87 (Nat.le_of_ble_eq_true rfl) (Nat.le_of_ble_eq_true rfl) ⟨_, rfl, Or.inl ⟨by omega, ?_⟩⟩
          first | rw [show b2 = true by assumption] | rw [show b2 = false by assumption]
          simp only [cond]
          exact oeR (oLoc_c (by omega) (by omega) (by omega))
      · rcases zst1 c8 with ⟨hx, e0⟩ | ⟨hx, hy, e0⟩
        · exact absurd hx (by decide)
        · exact absurd hy (by decide)
    · have c6 := of_decide_eq_true c6
      refine r_iconst (v := b2i true) hX dX4_anew_15 (by decide) (r_goto (tgt := 20) hX dX4_anew_16 (by decide) (r_iconst (v := b2i false) hX dX4_anew_20 (by decide) (r_callV hX (z_X4_isStopped ad ae cs K S th rest true false) kv_X4_68 14 rfl rfl rfl rfl (Nat.le_of_ble_eq_true rfl) ⟨(Nat.le_of_ble_eq_true rfl), (Nat.le_of_ble_eq_true rfl)⟩ ⟨(Nat.le_of_ble_eq_true rfl), (Nat.le_of_ble_eq_true rfl)⟩ dX4_anew_21 (fun _ _ z => False.elim z) (fun v9 ws9 h12 => ?_))))
      obtain ⟨rfl, hw9⟩ := h12
      subst ws9
      dsimp only [mPush]
      refine r_if_eqB (tgt := 29) hX dX4_anew_24 (by decide) (fun c13 => ?_) (fun c13 => ?_)
      · exact absurd c13 (by simp)
      · rcases zst1 c13 with ⟨hx, e0⟩ | ⟨hx, hy, e0⟩
        · rw [e0]
          refine r_iconstZ hX dX4_anew_27 ?_
          exact r_iret hX hE dX4_anew_28 (Nat.le_of_ble_eq_true rfl) (Nat.le_of_ble_eq_true rfl) ⟨_, rfl, Or.inr (Or.inl ⟨by omega, rfl⟩)⟩
        · exact absurd hx (by decide)
set_option maxHeartbeats 4000000 in
set_option maxRecDepth 20000 in
theorem z_X4_copy (ad ae : Nat → Nat) (cs : ClassId × ClassId × ClassId) (K : mK) (S : mS) (th : Int32) (rest : va_W) (hS : sWF S) (a0 : Int) (h0 : rJ a0) (a1 : Int) (h1 : rJ a1)  : mCt (mTy cs) yX4_copy cX4_copy 3 (some .int) ⟨2, 0, 0, 45⟩ [.ref (ae 0), .int (iZ a0), .int (iZ a1)] (mRw ad ae cs K (mJof S th) rest) (fun v ws' => ∃ r : Int32, v = some (.int r) ∧ (((((0 ≤ a0 ∧ a0 < 4) ∧ (0 ≤ a1 ∧ a1 < 4)) ∧ (0 ≤ (0 : Int))) ∧ r = iZ (oLoc S a0.toNat (sse S a1.toNat) (sna S a1.toNat) (sow S a1.toNat)).1 ∧ ws' = mRw ad ae cs K (mJof (oLoc S a0.toNat (sse S a1.toNat) (sna S a1.toNat) (sow S a1.toNat)).2 0) rest) ∨ (¬ ((0 ≤ a0 ∧ a0 < 4) ∧ (0 ≤ a1 ∧ a1 < 4)) ∧ ws' = mRw ad ae cs K (mJof S 1) rest) ∨ (((0 ≤ a0 ∧ a0 < 4) ∧ (0 ≤ a1 ∧ a1 < 4)) ∧ ¬ (0 ≤ (0 : Int)) ∧ ws' = mRw ad ae cs K (mJof S 2) rest))) mNo := by
  refine mCt.of (by decide +kernel) (Nat.le_of_ble_eq_true rfl) (fun X hX hE => ?_)
  replace hX : mOK X RX4 cX4_copy 3 ⟨2, 0, 0, 45⟩ [] (mTy cs) := hX
  refine r_aload_n hX dX4_copy_0 rfl rfl (r_iload_n hX dX4_copy_1 rfl rfl (r_callS hX (z_X4_isNone _ _ _ (by first | with_reducible assumption | decide | omega)) ks_X4_61 rfl rfl (Nat.le_of_ble_eq_true rfl) ⟨(Nat.le_of_ble_eq_true rfl), (Nat.le_of_ble_eq_true rfl)⟩ ⟨(Nat.le_of_ble_eq_true rfl), (Nat.le_of_ble_eq_true rfl)⟩ dX4_copy_2 (fun _ _ z => False.elim z) (fun v9 ws9 h1 => ?_)))
  obtain ⟨rfl, hw9⟩ := h1
  subst ws9
  dsimp only [mPush]
  refine r_if_neB (tgt := 15) hX dX4_copy_5 (by decide) (fun c2 => ?_) (fun c2 => ?_)
  · have c2 := of_decide_eq_true c2
    refine r_iconst (v := b2i true) hX dX4_copy_15 (by decide) (r_goto (tgt := 20) hX dX4_copy_16 (by decide) (r_iconst (v := b2i false) hX dX4_copy_20 (by decide) (r_callV hX (z_X4_isStopped ad ae cs K S th rest true false) kv_X4_68 14 rfl rfl rfl rfl (Nat.le_of_ble_eq_true rfl) ⟨(Nat.le_of_ble_eq_true rfl), (Nat.le_of_ble_eq_true rfl)⟩ ⟨(Nat.le_of_ble_eq_true rfl), (Nat.le_of_ble_eq_true rfl)⟩ dX4_copy_21 (fun _ _ z => False.elim z) (fun v9 ws9 h3 => ?_))))
    obtain ⟨rfl, hw9⟩ := h3
    subst ws9
    dsimp only [mPush]
    refine r_if_eqB (tgt := 31) hX dX4_copy_24 (by decide) (fun c4 => ?_) (fun c4 => ?_)
    · exact absurd c4 (by simp)
    · rcases zst1 c4 with ⟨hx, e0⟩ | ⟨hx, hy, e0⟩
      · rw [e0]
        refine r_iconstZ hX dX4_copy_27 (r_goto (tgt := 60) hX dX4_copy_28 (by decide) ?_)
        exact r_iret hX hE dX4_copy_60 (Nat.le_of_ble_eq_true rfl) (Nat.le_of_ble_eq_true rfl) ⟨_, rfl, Or.inr (Or.inl ⟨by omega, rfl⟩)⟩
      · exact absurd hx (by decide)
  · have c2 := of_decide_eq_false c2
    refine r_iload_n hX dX4_copy_8 rfl rfl (r_callS hX (z_X4_isNone _ _ _ (by first | with_reducible assumption | decide | omega)) ks_X4_61 rfl rfl (Nat.le_of_ble_eq_true rfl) ⟨(Nat.le_of_ble_eq_true rfl), (Nat.le_of_ble_eq_true rfl)⟩ ⟨(Nat.le_of_ble_eq_true rfl), (Nat.le_of_ble_eq_true rfl)⟩ dX4_copy_9 (fun _ _ z => False.elim z) (fun v9 ws9 h5 => ?_))
    obtain ⟨rfl, hw9⟩ := h5
    subst ws9
    dsimp only [mPush]
    refine r_if_eqB (tgt := 19) hX dX4_copy_12 (by decide) (fun c6 => ?_) (fun c6 => ?_)
    · have c6 := of_decide_eq_false c6
      refine r_iconst (v := b2i false) hX dX4_copy_19 (by decide) (r_iconst (v := b2i false) hX dX4_copy_20 (by decide) (r_callV hX (z_X4_isStopped ad ae cs K S th rest false false) kv_X4_68 14 rfl rfl rfl rfl (Nat.le_of_ble_eq_true rfl) ⟨(Nat.le_of_ble_eq_true rfl), (Nat.le_of_ble_eq_true rfl)⟩ ⟨(Nat.le_of_ble_eq_true rfl), (Nat.le_of_ble_eq_true rfl)⟩ dX4_copy_21 (fun _ _ z => False.elim z) (fun v9 ws9 h7 => ?_)))
      obtain ⟨rfl, hw9⟩ := h7
      subst ws9
      dsimp only [mPush]
      refine r_if_eqB (tgt := 31) hX dX4_copy_24 (by decide) (fun c8 => ?_) (fun c8 => ?_)
      · obtain ⟨⟨hx, hy⟩, e0⟩ := zst0 c8
        rw [e0]
        have hse := hS.2.2.2.1 a1.toNat (by omega)
        refine r_aload_n hX dX4_copy_31 rfl rfl (r_iload_n hX dX4_copy_32 rfl rfl (r_aload_n hX dX4_copy_33 rfl rfl (r_get hX kf_X4_17 14 rfl rfl dX4_copy_34 (r_iload_n hX dX4_copy_37 rfl rfl (r_ialdZ hX 17 0 rfl rfl (a1).toNat (by first | with_reducible assumption | decide | omega) (by first | with_reducible assumption | decide | omega) (by decide) dX4_copy_38 (r_aload_n hX dX4_copy_39 rfl rfl (r_get hX kf_X4_20 14 rfl rfl dX4_copy_40 ?_)))))))
        refine r_iload_n hX dX4_copy_43 rfl rfl (r_ialdZ hX 18 0 rfl rfl (a1).toNat (by first | with_reducible assumption | decide | omega) (by first | with_reducible assumption | decide | omega) (by decide) dX4_copy_44 (r_aload_n hX dX4_copy_45 rfl rfl (r_get hX kf_X4_23 14 rfl rfl dX4_copy_46 (r_iload_n hX dX4_copy_49 rfl rfl (r_ialdZ hX 19 0 rfl rfl (a1).toNat (by first | with_reducible assumption | decide | omega) (by first | with_reducible assumption | decide | omega) (by decide) dX4_copy_50 (r_aload_n hX dX4_copy_51 rfl rfl (r_get hX kf_X4_26 14 rfl rfl dX4_copy_52 ?_)))))))
        refine r_iload_n hX dX4_copy_55 rfl rfl (r_ialdZ hX 20 0 rfl rfl (a1).toNat (by first | with_reducible assumption | decide | omega) (by first | with_reducible assumption | decide | omega) (by decide) dX4_copy_56 (r_callV hX (z_X4_put ad ae cs K S 0 rest hS _ (a0).toNat (by first | with_reducible assumption | decide | omega) (by first | with_reducible assumption | decide | omega) _ _ _ _ (by first | with_reducible assumption | decide | omega)) kv_X4_139 14 rfl rfl rfl rfl (Nat.le_of_ble_eq_true rfl) ⟨(Nat.le_of_ble_eq_true rfl), (Nat.le_of_ble_eq_true rfl)⟩ ⟨(Nat.le_of_ble_eq_true rfl), (Nat.le_of_ble_eq_true rfl)⟩ dX4_copy_57 (fun _ _ z => False.elim z) (fun v9 ws9 h9 => ?_)))
        obtain ⟨rfl, hw9⟩ := h9
        subst ws9
        dsimp only [mPush]
        refine r_iret hX hE dX4_copy_60 (Nat.le_of_ble_eq_true rfl) (Nat.le_of_ble_eq_true rfl) ⟨_, rfl, Or.inl ⟨by omega, ?_⟩⟩
        rw [oLoc_y (by omega)]
        exact ⟨congrArg iZ (by omega), by rw [show sse S a1.toNat / 86400 * 86400 + sse S a1.toNat % 86400 = sse S a1.toNat by omega]⟩
      · rcases zst1 c8 with ⟨hx, e0⟩ | ⟨hx, hy, e0⟩
        · exact absurd hx (by decide)
        · exact absurd hy (by decide)
    · have c6 := of_decide_eq_true c6
      refine r_iconst (v := b2i true) hX dX4_copy_15 (by decide) (r_goto (tgt := 20) hX dX4_copy_16 (by decide) (r_iconst (v := b2i false) hX dX4_copy_20 (by decide) (r_callV hX (z_X4_isStopped ad ae cs K S th rest true false) kv_X4_68 14 rfl rfl rfl rfl (Nat.le_of_ble_eq_true rfl) ⟨(Nat.le_of_ble_eq_true rfl), (Nat.le_of_ble_eq_true rfl)⟩ ⟨(Nat.le_of_ble_eq_true rfl), (Nat.le_of_ble_eq_true rfl)⟩ dX4_copy_21 (fun _ _ z => False.elim z) (fun v9 ws9 h10 => ?_))))
      obtain ⟨rfl, hw9⟩ := h10
      subst ws9
      dsimp only [mPush]
      refine r_if_eqB (tgt := 31) hX dX4_copy_24 (by decide) (fun c11 => ?_) (fun c11 => ?_)
      · exact absurd c11 (by simp)
      · rcases zst1 c11 with ⟨hx, e0⟩ | ⟨hx, hy, e0⟩
        · rw [e0]
          refine r_iconstZ hX dX4_copy_27 (r_goto (tgt := 60) hX dX4_copy_28 (by decide) ?_)
          exact r_iret hX hE dX4_copy_60 (Nat.le_of_ble_eq_true rfl) (Nat.le_of_ble_eq_true rfl) ⟨_, rfl, Or.inr (Or.inl ⟨by omega, rfl⟩)⟩
        · exact absurd hx (by decide)
set_option maxHeartbeats 4000000 in
set_option maxRecDepth 20000 in
theorem z_X4_ofDate (ad ae : Nat → Nat) (cs : ClassId × ClassId × ClassId) (K : mK) (S : mS) (th : Int32) (rest : va_W) (hS : sWF S) (a0 : Int) (h0 : rJ a0) (a1 : Int) (h1 : rJ a1)  : mCt (mTy cs) yX4_ofDate cX4_ofDate 3 (some .int) ⟨6, 1, 4, 142⟩ [.ref (ae 0), .int (iZ a0), .int (iZ a1)] (mRw ad ae cs K (mJof S th) rest) (fun v ws' => ∃ r : Int32, v = some (.int r) ∧ (((((0 ≤ a0 ∧ a0 < 4)) ∧ (0 ≤ a1 ∧ a1 ≤ 12)) ∧ r = iZ (zDP (sse S a0.toNat) (sna S a0.toNat) (sow S a0.toNat) a1) ∧ ws' = mRw ad ae cs K (mJof S 0) rest) ∨ (¬ ((0 ≤ a0 ∧ a0 < 4)) ∧ ws' = mRw ad ae cs K (mJof S 1) rest) ∨ (((0 ≤ a0 ∧ a0 < 4)) ∧ ¬ (0 ≤ a1 ∧ a1 ≤ 12) ∧ ws' = mRw ad ae cs K (mJof S 2) rest))) mNo := by
  refine mCt.of (by decide +kernel) (Nat.le_of_ble_eq_true rfl) (fun X hX hE => ?_)
  replace hX : mOK X RX4 cX4_ofDate 3 ⟨6, 1, 4, 142⟩ [] (mTy cs) := hX
  refine r_aload_n hX dX4_ofDate_0 rfl rfl (r_iload_n hX dX4_ofDate_1 rfl rfl (r_callS hX (z_X4_isNone _ _ _ (by first | with_reducible assumption | decide | omega)) ks_X4_61 rfl rfl (Nat.le_of_ble_eq_true rfl) ⟨(Nat.le_of_ble_eq_true rfl), (Nat.le_of_ble_eq_true rfl)⟩ ⟨(Nat.le_of_ble_eq_true rfl), (Nat.le_of_ble_eq_true rfl)⟩ dX4_ofDate_2 (fun _ _ z => False.elim z) (fun v9 ws9 h1 => ?_)))
  obtain ⟨rfl, hw9⟩ := h1
  subst ws9
  dsimp only [mPush]
  refine r_iload_n hX dX4_ofDate_5 rfl rfl (r_i2lZ hX dX4_ofDate_6 (by first | with_reducible assumption | decide | omega) (r_lconstZ (v := 0) hX dX4_ofDate_7 rfl (r_ldc2Z (z := 12) hX kc_X4_151 (by decide +kernel) dX4_ofDate_8 (r_callS hX (z_X4_isIn _ _ _ _ _ (by first | with_reducible assumption | decide | omega) (by first | with_reducible assumption | decide | omega) (by first | with_reducible assumption | decide | omega)) ks_X4_38 rfl rfl (Nat.le_of_ble_eq_true rfl) ⟨(Nat.le_of_ble_eq_true rfl), (Nat.le_of_ble_eq_true rfl)⟩ ⟨(Nat.le_of_ble_eq_true rfl), (Nat.le_of_ble_eq_true rfl)⟩ dX4_ofDate_11 (fun _ _ z => False.elim z) (fun v9 ws9 h2 => ?_)))))
  obtain ⟨rfl, hw9⟩ := h2
  subst ws9
  dsimp only [mPush]
  refine r_if_neB (tgt := 21) hX dX4_ofDate_14 (by decide) (fun c3 => ?_) (fun c3 => ?_)
  · have c3 := of_decide_eq_true c3
    refine r_iconst (v := b2i false) hX dX4_ofDate_21 (by decide) (r_callV hX (z_X4_isStopped ad ae cs K S th rest (decide (¬ (0 ≤ a0 ∧ a0 < 4))) false) kv_X4_68 14 rfl rfl rfl rfl (Nat.le_of_ble_eq_true rfl) ⟨(Nat.le_of_ble_eq_true rfl), (Nat.le_of_ble_eq_true rfl)⟩ ⟨(Nat.le_of_ble_eq_true rfl), (Nat.le_of_ble_eq_true rfl)⟩ dX4_ofDate_22 (fun _ _ z => False.elim z) (fun v9 ws9 h4 => ?_))
    obtain ⟨rfl, hw9⟩ := h4
    subst ws9
    dsimp only [mPush]
    refine r_if_eqB (tgt := 32) hX dX4_ofDate_25 (by decide) (fun c5 => ?_) (fun c5 => ?_)
    · obtain ⟨⟨hx, hy⟩, e0⟩ := zst0 c5
      have hx := of_decide_eq_false hx
      rw [e0]
      refine r_aload_n hX dX4_ofDate_32 rfl rfl (r_iload_n hX dX4_ofDate_33 rfl rfl (r_iload_n hX dX4_ofDate_34 rfl rfl (r_callV hX (z_X4_told ad ae cs K S 0 rest hS _ (a0).toNat (by first | with_reducible assumption | decide | omega) (by first | with_reducible assumption | decide | omega) _ (by first | with_reducible assumption | decide | omega)) kv_X4_193 14 rfl rfl rfl rfl (Nat.le_of_ble_eq_true rfl) ⟨(Nat.le_of_ble_eq_true rfl), (Nat.le_of_ble_eq_true rfl)⟩ ⟨(Nat.le_of_ble_eq_true rfl), (Nat.le_of_ble_eq_true rfl)⟩ dX4_ofDate_35 (fun _ _ z => False.elim z) (fun v9 ws9 h6 => ?_))))
      obtain ⟨rfl, hw9⟩ := h6
      subst ws9
      dsimp only [mPush]
      refine r_iret hX hE dX4_ofDate_38 (Nat.le_of_ble_eq_true rfl) (Nat.le_of_ble_eq_true rfl) ⟨_, rfl, Or.inl ⟨by omega, congrArg iZ ?_, rfl⟩⟩
      rfl
    · rcases zst1 c5 with ⟨hx, e0⟩ | ⟨hx, hy, e0⟩
      · rw [e0]
        have hx := of_decide_eq_true hx
        refine r_iconstZ hX dX4_ofDate_28 (r_goto (tgt := 38) hX dX4_ofDate_29 (by decide) ?_)
        exact r_iret hX hE dX4_ofDate_38 (Nat.le_of_ble_eq_true rfl) (Nat.le_of_ble_eq_true rfl) ⟨_, rfl, Or.inr (Or.inl ⟨by omega, rfl⟩)⟩
      · exact absurd hy (by decide)
  · have c3 := of_decide_eq_false c3
    refine r_iconst (v := b2i true) hX dX4_ofDate_17 (by decide) (r_goto (tgt := 22) hX dX4_ofDate_18 (by decide) (r_callV hX (z_X4_isStopped ad ae cs K S th rest (decide (¬ (0 ≤ a0 ∧ a0 < 4))) true) kv_X4_68 14 rfl rfl rfl rfl (Nat.le_of_ble_eq_true rfl) ⟨(Nat.le_of_ble_eq_true rfl), (Nat.le_of_ble_eq_true rfl)⟩ ⟨(Nat.le_of_ble_eq_true rfl), (Nat.le_of_ble_eq_true rfl)⟩ dX4_ofDate_22 (fun _ _ z => False.elim z) (fun v9 ws9 h7 => ?_)))
    obtain ⟨rfl, hw9⟩ := h7
    subst ws9
    dsimp only [mPush]
    refine r_if_eqB (tgt := 32) hX dX4_ofDate_25 (by decide) (fun c8 => ?_) (fun c8 => ?_)
    · exact absurd c8 (by simp)
    · rcases zst1 c8 with ⟨hx, e0⟩ | ⟨hx, hy, e0⟩
      · rw [e0]
        have hx := of_decide_eq_true hx
        refine r_iconstZ hX dX4_ofDate_28 (r_goto (tgt := 38) hX dX4_ofDate_29 (by decide) ?_)
        exact r_iret hX hE dX4_ofDate_38 (Nat.le_of_ble_eq_true rfl) (Nat.le_of_ble_eq_true rfl) ⟨_, rfl, Or.inr (Or.inl ⟨by omega, rfl⟩)⟩
      · rw [e0]
        have hx := of_decide_eq_false hx
        refine r_iconstZ hX dX4_ofDate_28 (r_goto (tgt := 38) hX dX4_ofDate_29 (by decide) ?_)
        exact r_iret hX hE dX4_ofDate_38 (Nat.le_of_ble_eq_true rfl) (Nat.le_of_ble_eq_true rfl) ⟨_, rfl, Or.inr (Or.inr ⟨by omega, by omega, rfl⟩)⟩
set_option maxHeartbeats 4000000 in
set_option maxRecDepth 20000 in
theorem z_X4_orderDate (ad ae : Nat → Nat) (cs : ClassId × ClassId × ClassId) (K : mK) (S : mS) (th : Int32) (rest : va_W) (hS : sWF S) (a0 : Int) (h0 : rJ a0) (a1 : Int) (h1 : rJ a1)  : mCt (mTy cs) yX4_orderDate cX4_orderDate 3 (some .int) ⟨3, 0, 0, 65⟩ [.ref (ae 0), .int (iZ a0), .int (iZ a1)] (mRw ad ae cs K (mJof S th) rest) (fun v ws' => ∃ r : Int32, v = some (.int r) ∧ (((((0 ≤ a0 ∧ a0 < 4) ∧ (0 ≤ a1 ∧ a1 < 4)) ∧ (0 ≤ (0 : Int))) ∧ r = iZ (zTo (sse S a0.toNat) (sna S a0.toNat) (sow S a0.toNat) (sse S a1.toNat) (sna S a1.toNat) (sow S a1.toNat)) ∧ ws' = mRw ad ae cs K (mJof S 0) rest) ∨ (¬ ((0 ≤ a0 ∧ a0 < 4) ∧ (0 ≤ a1 ∧ a1 < 4)) ∧ ws' = mRw ad ae cs K (mJof S 1) rest) ∨ (((0 ≤ a0 ∧ a0 < 4) ∧ (0 ≤ a1 ∧ a1 < 4)) ∧ ¬ (0 ≤ (0 : Int)) ∧ ws' = mRw ad ae cs K (mJof S 2) rest))) mNo := by
  refine mCt.of (by decide +kernel) (Nat.le_of_ble_eq_true rfl) (fun X hX hE => ?_)
  replace hX : mOK X RX4 cX4_orderDate 3 ⟨3, 0, 0, 65⟩ [] (mTy cs) := hX
  refine r_aload_n hX dX4_orderDate_0 rfl rfl (r_iload_n hX dX4_orderDate_1 rfl rfl (r_callS hX (z_X4_isNone _ _ _ (by first | with_reducible assumption | decide | omega)) ks_X4_61 rfl rfl (Nat.le_of_ble_eq_true rfl) ⟨(Nat.le_of_ble_eq_true rfl), (Nat.le_of_ble_eq_true rfl)⟩ ⟨(Nat.le_of_ble_eq_true rfl), (Nat.le_of_ble_eq_true rfl)⟩ dX4_orderDate_2 (fun _ _ z => False.elim z) (fun v9 ws9 h1 => ?_)))
  obtain ⟨rfl, hw9⟩ := h1
  subst ws9
  dsimp only [mPush]
  refine r_if_neB (tgt := 15) hX dX4_orderDate_5 (by decide) (fun c2 => ?_) (fun c2 => ?_)
  · have c2 := of_decide_eq_true c2
    refine r_iconst (v := b2i true) hX dX4_orderDate_15 (by decide) (r_goto (tgt := 20) hX dX4_orderDate_16 (by decide) (r_iconst (v := b2i false) hX dX4_orderDate_20 (by decide) (r_callV hX (z_X4_isStopped ad ae cs K S th rest true false) kv_X4_68 14 rfl rfl rfl rfl (Nat.le_of_ble_eq_true rfl) ⟨(Nat.le_of_ble_eq_true rfl), (Nat.le_of_ble_eq_true rfl)⟩ ⟨(Nat.le_of_ble_eq_true rfl), (Nat.le_of_ble_eq_true rfl)⟩ dX4_orderDate_21 (fun _ _ z => False.elim z) (fun v9 ws9 h3 => ?_))))
    obtain ⟨rfl, hw9⟩ := h3
    subst ws9
    dsimp only [mPush]
    refine r_if_eqB (tgt := 31) hX dX4_orderDate_24 (by decide) (fun c4 => ?_) (fun c4 => ?_)
    · exact absurd c4 (by simp)
    · rcases zst1 c4 with ⟨hx, e0⟩ | ⟨hx, hy, e0⟩
      · rw [e0]
        refine r_iconstZ hX dX4_orderDate_27 (r_goto (tgt := 37) hX dX4_orderDate_28 (by decide) ?_)
        exact r_iret hX hE dX4_orderDate_37 (Nat.le_of_ble_eq_true rfl) (Nat.le_of_ble_eq_true rfl) ⟨_, rfl, Or.inr (Or.inl ⟨by omega, rfl⟩)⟩
      · exact absurd hx (by decide)
  · have c2 := of_decide_eq_false c2
    refine r_iload_n hX dX4_orderDate_8 rfl rfl (r_callS hX (z_X4_isNone _ _ _ (by first | with_reducible assumption | decide | omega)) ks_X4_61 rfl rfl (Nat.le_of_ble_eq_true rfl) ⟨(Nat.le_of_ble_eq_true rfl), (Nat.le_of_ble_eq_true rfl)⟩ ⟨(Nat.le_of_ble_eq_true rfl), (Nat.le_of_ble_eq_true rfl)⟩ dX4_orderDate_9 (fun _ _ z => False.elim z) (fun v9 ws9 h5 => ?_))
    obtain ⟨rfl, hw9⟩ := h5
    subst ws9
    dsimp only [mPush]
    refine r_if_eqB (tgt := 19) hX dX4_orderDate_12 (by decide) (fun c6 => ?_) (fun c6 => ?_)
    · have c6 := of_decide_eq_false c6
      refine r_iconst (v := b2i false) hX dX4_orderDate_19 (by decide) (r_iconst (v := b2i false) hX dX4_orderDate_20 (by decide) (r_callV hX (z_X4_isStopped ad ae cs K S th rest false false) kv_X4_68 14 rfl rfl rfl rfl (Nat.le_of_ble_eq_true rfl) ⟨(Nat.le_of_ble_eq_true rfl), (Nat.le_of_ble_eq_true rfl)⟩ ⟨(Nat.le_of_ble_eq_true rfl), (Nat.le_of_ble_eq_true rfl)⟩ dX4_orderDate_21 (fun _ _ z => False.elim z) (fun v9 ws9 h7 => ?_)))
      obtain ⟨rfl, hw9⟩ := h7
      subst ws9
      dsimp only [mPush]
      refine r_if_eqB (tgt := 31) hX dX4_orderDate_24 (by decide) (fun c8 => ?_) (fun c8 => ?_)
      · obtain ⟨⟨hx, hy⟩, e0⟩ := zst0 c8
        rw [e0]
        refine r_aload_n hX dX4_orderDate_31 rfl rfl (r_iload_n hX dX4_orderDate_32 rfl rfl (r_iload_n hX dX4_orderDate_33 rfl rfl (r_callV hX (z_X4_ordered ad ae cs K S 0 rest hS _ (a0).toNat (by first | with_reducible assumption | decide | omega) (by first | with_reducible assumption | decide | omega) _ (a1).toNat (by first | with_reducible assumption | decide | omega) (by first | with_reducible assumption | decide | omega)) kv_X4_196 14 rfl rfl rfl rfl (Nat.le_of_ble_eq_true rfl) ⟨(Nat.le_of_ble_eq_true rfl), (Nat.le_of_ble_eq_true rfl)⟩ ⟨(Nat.le_of_ble_eq_true rfl), (Nat.le_of_ble_eq_true rfl)⟩ dX4_orderDate_34 (fun _ _ z => False.elim z) (fun v9 ws9 h9 => ?_))))
        obtain ⟨rfl, hw9⟩ := h9
        subst ws9
        dsimp only [mPush]
        have hto9 := zTo_b (sse S ((a0).toNat)) (sna S ((a0).toNat)) (sow S ((a0).toNat)) (sse S ((a1).toNat)) (sna S ((a1).toNat)) (sow S ((a1).toNat))
        refine r_iret hX hE dX4_orderDate_37 (Nat.le_of_ble_eq_true rfl) (Nat.le_of_ble_eq_true rfl) ⟨_, rfl, Or.inl ⟨by omega, congrArg iZ ?_, rfl⟩⟩
        rfl
      · rcases zst1 c8 with ⟨hx, e0⟩ | ⟨hx, hy, e0⟩
        · exact absurd hx (by decide)
        · exact absurd hy (by decide)
    · have c6 := of_decide_eq_true c6
      refine r_iconst (v := b2i true) hX dX4_orderDate_15 (by decide) (r_goto (tgt := 20) hX dX4_orderDate_16 (by decide) (r_iconst (v := b2i false) hX dX4_orderDate_20 (by decide) (r_callV hX (z_X4_isStopped ad ae cs K S th rest true false) kv_X4_68 14 rfl rfl rfl rfl (Nat.le_of_ble_eq_true rfl) ⟨(Nat.le_of_ble_eq_true rfl), (Nat.le_of_ble_eq_true rfl)⟩ ⟨(Nat.le_of_ble_eq_true rfl), (Nat.le_of_ble_eq_true rfl)⟩ dX4_orderDate_21 (fun _ _ z => False.elim z) (fun v9 ws9 h10 => ?_))))
      obtain ⟨rfl, hw9⟩ := h10
      subst ws9
      dsimp only [mPush]
      refine r_if_eqB (tgt := 31) hX dX4_orderDate_24 (by decide) (fun c11 => ?_) (fun c11 => ?_)
      · exact absurd c11 (by simp)
      · rcases zst1 c11 with ⟨hx, e0⟩ | ⟨hx, hy, e0⟩
        · rw [e0]
          refine r_iconstZ hX dX4_orderDate_27 (r_goto (tgt := 37) hX dX4_orderDate_28 (by decide) ?_)
          exact r_iret hX hE dX4_orderDate_37 (Nat.le_of_ble_eq_true rfl) (Nat.le_of_ble_eq_true rfl) ⟨_, rfl, Or.inr (Or.inl ⟨by omega, rfl⟩)⟩
        · exact absurd hx (by decide)
set_option maxHeartbeats 4000000 in
set_option maxRecDepth 20000 in
theorem z_X4_isDate (ad ae : Nat → Nat) (cs : ClassId × ClassId × ClassId) (K : mK) (S : mS) (th : Int32) (rest : va_W) (hS : sWF S) (a0 : Int) (h0 : rJ a0) (a1 : Int) (h1 : rJ a1) (a2 : Int) (h2 : rJ a2)  : mCt (mTy cs) yX4_isDate cX4_isDate 4 (some .boolean) ⟨3, 0, 0, 66⟩ [.ref (ae 0), .int (iZ a0), .int (iZ a1), .int (iZ a2)] (mRw ad ae cs K (mJof S th) rest) (fun v ws' => ∃ r : Int32, v = some (.int r) ∧ (((((0 ≤ a0 ∧ a0 < 4) ∧ (0 ≤ a1 ∧ a1 < 4)) ∧ (0 ≤ a2 ∧ a2 ≤ 3)) ∧ r = b2i (zSo (sse S a0.toNat) (sna S a0.toNat) (sow S a0.toNat) (sse S a1.toNat) (sna S a1.toNat) (sow S a1.toNat) a2) ∧ ws' = mRw ad ae cs K (mJof S 0) rest) ∨ (¬ ((0 ≤ a0 ∧ a0 < 4) ∧ (0 ≤ a1 ∧ a1 < 4)) ∧ ws' = mRw ad ae cs K (mJof S 1) rest) ∨ (((0 ≤ a0 ∧ a0 < 4) ∧ (0 ≤ a1 ∧ a1 < 4)) ∧ ¬ (0 ≤ a2 ∧ a2 ≤ 3) ∧ ws' = mRw ad ae cs K (mJof S 2) rest))) mNo := by
  refine mCt.of (by decide +kernel) (Nat.le_of_ble_eq_true rfl) (fun X hX hE => ?_)
  replace hX : mOK X RX4 cX4_isDate 4 ⟨3, 0, 0, 66⟩ [] (mTy cs) := hX
  refine r_aload_n hX dX4_isDate_0 rfl rfl (r_iload_n hX dX4_isDate_1 rfl rfl (r_callS hX (z_X4_isNone _ _ _ (by first | with_reducible assumption | decide | omega)) ks_X4_61 rfl rfl (Nat.le_of_ble_eq_true rfl) ⟨(Nat.le_of_ble_eq_true rfl), (Nat.le_of_ble_eq_true rfl)⟩ ⟨(Nat.le_of_ble_eq_true rfl), (Nat.le_of_ble_eq_true rfl)⟩ dX4_isDate_2 (fun _ _ z => False.elim z) (fun v9 ws9 h1 => ?_)))
  obtain ⟨rfl, hw9⟩ := h1
  subst ws9
  dsimp only [mPush]
  refine r_if_neB (tgt := 15) hX dX4_isDate_5 (by decide) (fun c2 => ?_) (fun c2 => ?_)
  · have c2 := of_decide_eq_true c2
    refine r_iconst (v := b2i true) hX dX4_isDate_15 (by decide) (r_goto (tgt := 20) hX dX4_isDate_16 (by decide) (r_iload_n hX dX4_isDate_20 rfl rfl (r_i2lZ hX dX4_isDate_21 (by first | with_reducible assumption | decide | omega) (r_lconstZ (v := 0) hX dX4_isDate_22 rfl (r_ldc2Z (z := 3) hX kc_X4_36 (by decide +kernel) dX4_isDate_23 (r_callS hX (z_X4_isIn _ _ _ _ _ (by first | with_reducible assumption | decide | omega) (by first | with_reducible assumption | decide | omega) (by first | with_reducible assumption | decide | omega)) ks_X4_38 rfl rfl (Nat.le_of_ble_eq_true rfl) ⟨(Nat.le_of_ble_eq_true rfl), (Nat.le_of_ble_eq_true rfl)⟩ ⟨(Nat.le_of_ble_eq_true rfl), (Nat.le_of_ble_eq_true rfl)⟩ dX4_isDate_26 (fun _ _ z => False.elim z) (fun v9 ws9 h3 => ?_)))))))
    obtain ⟨rfl, hw9⟩ := h3
    subst ws9
    dsimp only [mPush]
    refine r_if_neB (tgt := 36) hX dX4_isDate_29 (by decide) (fun c4 => ?_) (fun c4 => ?_)
    · have c4 := of_decide_eq_true c4
      refine r_iconst (v := b2i false) hX dX4_isDate_36 (by decide) (r_callV hX (z_X4_isStopped ad ae cs K S th rest true false) kv_X4_68 14 rfl rfl rfl rfl (Nat.le_of_ble_eq_true rfl) ⟨(Nat.le_of_ble_eq_true rfl), (Nat.le_of_ble_eq_true rfl)⟩ ⟨(Nat.le_of_ble_eq_true rfl), (Nat.le_of_ble_eq_true rfl)⟩ dX4_isDate_37 (fun _ _ z => False.elim z) (fun v9 ws9 h5 => ?_))
      obtain ⟨rfl, hw9⟩ := h5
      subst ws9
      dsimp only [mPush]
      refine r_if_neB (tgt := 57) hX dX4_isDate_40 (by decide) (fun c6 => ?_) (fun c6 => ?_)
      · rcases zst1 c6 with ⟨hx, e0⟩ | ⟨hx, hy, e0⟩
        · rw [e0]
          refine r_iconstZ hX dX4_isDate_57 ?_
          exact r_zret hX hE dX4_isDate_58 (by decide) (Nat.le_of_ble_eq_true rfl) (Nat.le_of_ble_eq_true rfl) ⟨_, rfl, Or.inr (Or.inl ⟨by omega, rfl⟩)⟩
        · exact absurd hx (by decide)
      · exact absurd c6 (by simp)
    · have c4 := of_decide_eq_false c4
      refine r_iconst (v := b2i true) hX dX4_isDate_32 (by decide) (r_goto (tgt := 37) hX dX4_isDate_33 (by decide) (r_callV hX (z_X4_isStopped ad ae cs K S th rest true true) kv_X4_68 14 rfl rfl rfl rfl (Nat.le_of_ble_eq_true rfl) ⟨(Nat.le_of_ble_eq_true rfl), (Nat.le_of_ble_eq_true rfl)⟩ ⟨(Nat.le_of_ble_eq_true rfl), (Nat.le_of_ble_eq_true rfl)⟩ dX4_isDate_37 (fun _ _ z => False.elim z) (fun v9 ws9 h7 => ?_)))
      obtain ⟨rfl, hw9⟩ := h7
      subst ws9
      dsimp only [mPush]
      refine r_if_neB (tgt := 57) hX dX4_isDate_40 (by decide) (fun c8 => ?_) (fun c8 => ?_)
      · rcases zst1 c8 with ⟨hx, e0⟩ | ⟨hx, hy, e0⟩
        · rw [e0]
          refine r_iconstZ hX dX4_isDate_57 ?_
          exact r_zret hX hE dX4_isDate_58 (by decide) (Nat.le_of_ble_eq_true rfl) (Nat.le_of_ble_eq_true rfl) ⟨_, rfl, Or.inr (Or.inl ⟨by omega, rfl⟩)⟩
        · exact absurd hx (by decide)
      · exact absurd c8 (by simp)
  · have c2 := of_decide_eq_false c2
    refine r_iload_n hX dX4_isDate_8 rfl rfl (r_callS hX (z_X4_isNone _ _ _ (by first | with_reducible assumption | decide | omega)) ks_X4_61 rfl rfl (Nat.le_of_ble_eq_true rfl) ⟨(Nat.le_of_ble_eq_true rfl), (Nat.le_of_ble_eq_true rfl)⟩ ⟨(Nat.le_of_ble_eq_true rfl), (Nat.le_of_ble_eq_true rfl)⟩ dX4_isDate_9 (fun _ _ z => False.elim z) (fun v9 ws9 h9 => ?_))
    obtain ⟨rfl, hw9⟩ := h9
    subst ws9
    dsimp only [mPush]
    refine r_if_eqB (tgt := 19) hX dX4_isDate_12 (by decide) (fun c10 => ?_) (fun c10 => ?_)
    · have c10 := of_decide_eq_false c10
      refine r_iconst (v := b2i false) hX dX4_isDate_19 (by decide) (r_iload_n hX dX4_isDate_20 rfl rfl (r_i2lZ hX dX4_isDate_21 (by first | with_reducible assumption | decide | omega) (r_lconstZ (v := 0) hX dX4_isDate_22 rfl (r_ldc2Z (z := 3) hX kc_X4_36 (by decide +kernel) dX4_isDate_23 (r_callS hX (z_X4_isIn _ _ _ _ _ (by first | with_reducible assumption | decide | omega) (by first | with_reducible assumption | decide | omega) (by first | with_reducible assumption | decide | omega)) ks_X4_38 rfl rfl (Nat.le_of_ble_eq_true rfl) ⟨(Nat.le_of_ble_eq_true rfl), (Nat.le_of_ble_eq_true rfl)⟩ ⟨(Nat.le_of_ble_eq_true rfl), (Nat.le_of_ble_eq_true rfl)⟩ dX4_isDate_26 (fun _ _ z => False.elim z) (fun v9 ws9 h11 => ?_))))))
      obtain ⟨rfl, hw9⟩ := h11
      subst ws9
      dsimp only [mPush]
      refine r_if_neB (tgt := 36) hX dX4_isDate_29 (by decide) (fun c12 => ?_) (fun c12 => ?_)
      · have c12 := of_decide_eq_true c12
        refine r_iconst (v := b2i false) hX dX4_isDate_36 (by decide) (r_callV hX (z_X4_isStopped ad ae cs K S th rest false false) kv_X4_68 14 rfl rfl rfl rfl (Nat.le_of_ble_eq_true rfl) ⟨(Nat.le_of_ble_eq_true rfl), (Nat.le_of_ble_eq_true rfl)⟩ ⟨(Nat.le_of_ble_eq_true rfl), (Nat.le_of_ble_eq_true rfl)⟩ dX4_isDate_37 (fun _ _ z => False.elim z) (fun v9 ws9 h13 => ?_))
        obtain ⟨rfl, hw9⟩ := h13
        subst ws9
        dsimp only [mPush]
        refine r_if_neB (tgt := 57) hX dX4_isDate_40 (by decide) (fun c14 => ?_) (fun c14 => ?_)
        · rcases zst1 c14 with ⟨hx, e0⟩ | ⟨hx, hy, e0⟩
          · exact absurd hx (by decide)
          · exact absurd hy (by decide)
        · obtain ⟨⟨hx, hy⟩, e0⟩ := zst0 c14
          rw [e0]
          refine r_aload_n hX dX4_isDate_43 rfl rfl (r_iload_n hX dX4_isDate_44 rfl rfl (r_iload_n hX dX4_isDate_45 rfl rfl (r_iload_n hX dX4_isDate_46 rfl rfl (r_callV hX (z_X4_is ad ae cs K S 0 rest hS _ (a0).toNat (by first | with_reducible assumption | decide | omega) (by first | with_reducible assumption | decide | omega) _ (a1).toNat (by first | with_reducible assumption | decide | omega) (by first | with_reducible assumption | decide | omega) _ (by first | with_reducible assumption | decide | omega)) kv_X4_199 14 rfl rfl rfl rfl (Nat.le_of_ble_eq_true rfl) ⟨(Nat.le_of_ble_eq_true rfl), (Nat.le_of_ble_eq_true rfl)⟩ ⟨(Nat.le_of_ble_eq_true rfl), (Nat.le_of_ble_eq_true rfl)⟩ dX4_isDate_47 (fun _ _ z => False.elim z) (fun v9 ws9 h15 => ?_)))))
          obtain ⟨rfl, hw9⟩ := h15
          subst ws9
          dsimp only [mPush]
          refine r_if_eqB (tgt := 57) hX dX4_isDate_50 (by decide) (fun c16 => ?_) (fun c16 => ?_)
          · have c16 := id c16
            refine r_iconstZ hX dX4_isDate_57 (r_zret hX hE dX4_isDate_58 (by decide) (Nat.le_of_ble_eq_true rfl) (Nat.le_of_ble_eq_true rfl) ⟨_, rfl, Or.inl ⟨by omega, ?_, rfl⟩⟩)
            exact (b2i_f (by assumption)).symm
          · have c16 := id c16
            refine r_iconstZ hX dX4_isDate_53 (r_goto (tgt := 58) hX dX4_isDate_54 (by decide) (r_zret hX hE dX4_isDate_58 (by decide) (Nat.le_of_ble_eq_true rfl) (Nat.le_of_ble_eq_true rfl) ⟨_, rfl, Or.inl ⟨by omega, ?_, rfl⟩⟩))
            exact (b2i_t (by assumption)).symm
      · have c12 := of_decide_eq_false c12
        refine r_iconst (v := b2i true) hX dX4_isDate_32 (by decide) (r_goto (tgt := 37) hX dX4_isDate_33 (by decide) (r_callV hX (z_X4_isStopped ad ae cs K S th rest false true) kv_X4_68 14 rfl rfl rfl rfl (Nat.le_of_ble_eq_true rfl) ⟨(Nat.le_of_ble_eq_true rfl), (Nat.le_of_ble_eq_true rfl)⟩ ⟨(Nat.le_of_ble_eq_true rfl), (Nat.le_of_ble_eq_true rfl)⟩ dX4_isDate_37 (fun _ _ z => False.elim z) (fun v9 ws9 h17 => ?_)))
        obtain ⟨rfl, hw9⟩ := h17
        subst ws9
        dsimp only [mPush]
        refine r_if_neB (tgt := 57) hX dX4_isDate_40 (by decide) (fun c18 => ?_) (fun c18 => ?_)
        · rcases zst1 c18 with ⟨hx, e0⟩ | ⟨hx, hy, e0⟩
          · exact absurd hx (by decide)
          · rw [e0]
            refine r_iconstZ hX dX4_isDate_57 ?_
            exact r_zret hX hE dX4_isDate_58 (by decide) (Nat.le_of_ble_eq_true rfl) (Nat.le_of_ble_eq_true rfl) ⟨_, rfl, Or.inr (Or.inr ⟨by omega, by omega, rfl⟩)⟩
        · exact absurd c18 (by simp)
    · have c10 := of_decide_eq_true c10
      refine r_iconst (v := b2i true) hX dX4_isDate_15 (by decide) (r_goto (tgt := 20) hX dX4_isDate_16 (by decide) (r_iload_n hX dX4_isDate_20 rfl rfl (r_i2lZ hX dX4_isDate_21 (by first | with_reducible assumption | decide | omega) (r_lconstZ (v := 0) hX dX4_isDate_22 rfl (r_ldc2Z (z := 3) hX kc_X4_36 (by decide +kernel) dX4_isDate_23 (r_callS hX (z_X4_isIn _ _ _ _ _ (by first | with_reducible assumption | decide | omega) (by first | with_reducible assumption | decide | omega) (by first | with_reducible assumption | decide | omega)) ks_X4_38 rfl rfl (Nat.le_of_ble_eq_true rfl) ⟨(Nat.le_of_ble_eq_true rfl), (Nat.le_of_ble_eq_true rfl)⟩ ⟨(Nat.le_of_ble_eq_true rfl), (Nat.le_of_ble_eq_true rfl)⟩ dX4_isDate_26 (fun _ _ z => False.elim z) (fun v9 ws9 h19 => ?_)))))))
      obtain ⟨rfl, hw9⟩ := h19
      subst ws9
      dsimp only [mPush]
      refine r_if_neB (tgt := 36) hX dX4_isDate_29 (by decide) (fun c20 => ?_) (fun c20 => ?_)
      · have c20 := of_decide_eq_true c20
        refine r_iconst (v := b2i false) hX dX4_isDate_36 (by decide) (r_callV hX (z_X4_isStopped ad ae cs K S th rest true false) kv_X4_68 14 rfl rfl rfl rfl (Nat.le_of_ble_eq_true rfl) ⟨(Nat.le_of_ble_eq_true rfl), (Nat.le_of_ble_eq_true rfl)⟩ ⟨(Nat.le_of_ble_eq_true rfl), (Nat.le_of_ble_eq_true rfl)⟩ dX4_isDate_37 (fun _ _ z => False.elim z) (fun v9 ws9 h21 => ?_))
        obtain ⟨rfl, hw9⟩ := h21
        subst ws9
        dsimp only [mPush]
        refine r_if_neB (tgt := 57) hX dX4_isDate_40 (by decide) (fun c22 => ?_) (fun c22 => ?_)
        · rcases zst1 c22 with ⟨hx, e0⟩ | ⟨hx, hy, e0⟩
          · rw [e0]
            refine r_iconstZ hX dX4_isDate_57 ?_
            exact r_zret hX hE dX4_isDate_58 (by decide) (Nat.le_of_ble_eq_true rfl) (Nat.le_of_ble_eq_true rfl) ⟨_, rfl, Or.inr (Or.inl ⟨by omega, rfl⟩)⟩
          · exact absurd hx (by decide)
        · exact absurd c22 (by simp)
      · have c20 := of_decide_eq_false c20
        refine r_iconst (v := b2i true) hX dX4_isDate_32 (by decide) (r_goto (tgt := 37) hX dX4_isDate_33 (by decide) (r_callV hX (z_X4_isStopped ad ae cs K S th rest true true) kv_X4_68 14 rfl rfl rfl rfl (Nat.le_of_ble_eq_true rfl) ⟨(Nat.le_of_ble_eq_true rfl), (Nat.le_of_ble_eq_true rfl)⟩ ⟨(Nat.le_of_ble_eq_true rfl), (Nat.le_of_ble_eq_true rfl)⟩ dX4_isDate_37 (fun _ _ z => False.elim z) (fun v9 ws9 h23 => ?_)))
        obtain ⟨rfl, hw9⟩ := h23
        subst ws9
        dsimp only [mPush]
        refine r_if_neB (tgt := 57) hX dX4_isDate_40 (by decide) (fun c24 => ?_) (fun c24 => ?_)
        · rcases zst1 c24 with ⟨hx, e0⟩ | ⟨hx, hy, e0⟩
          · rw [e0]
            refine r_iconstZ hX dX4_isDate_57 ?_
            exact r_zret hX hE dX4_isDate_58 (by decide) (Nat.le_of_ble_eq_true rfl) (Nat.le_of_ble_eq_true rfl) ⟨_, rfl, Or.inr (Or.inl ⟨by omega, rfl⟩)⟩
          · exact absurd hx (by decide)
        · exact absurd c24 (by simp)
end
