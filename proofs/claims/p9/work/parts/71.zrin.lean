/-! The reference, exact (rows by a program of this repository). -/
theorem zRw_num {ad ae : Nat → Nat} {cs : ClassId × ClassId × ClassId} {K : mK} {S : mS} {th : Int32} {rest : va_W} {j : Nat} {z : Int} : (mRw ad ae cs K (mJof S th) rest).set 16 (ae 2, .inl (cs.2.1, 4, .inr (.inl (vp_updL (mJof S th).2.2.1 j (lZ z))))) = mRw ad ae cs K (mJof (sNu S j z) th) rest := by
  have e : vp_updL (mJof S th).2.2.1 j (lZ z) = (mJof (sNu S j z) th).2.2.1 := zup_updL
  rw [e]
  rfl
theorem zRw_off {ad ae : Nat → Nat} {cs : ClassId × ClassId × ClassId} {K : mK} {S : mS} {th : Int32} {rest : va_W} {j : Nat} {z : Int} : (mRw ad ae cs K (mJof S th) rest).set 15 (ae 1, .inl (cs.1, 4, .inl (upd (mJof S th).2.1 j (iZ z)))) = mRw ad ae cs K (mJof (sOf S j z) th) rest := by
  have e : upd (mJof S th).2.1 j (iZ z) = (mJof (sOf S j z) th).2.1 := zup_upd
  rw [e]
  rfl
theorem zJ_put {S : mS} {th : Int32} {k : Nat} {day sec n o : Int} (hs : 0 ≤ sec ∧ sec ≤ 86399) : (((mJof S th).1, (mJof S th).2.1, (mJof S th).2.2.1, upd (mJof S th).2.2.2.1 k (iZ day), upd (mJof S th).2.2.2.2.1 k (iZ sec), upd (mJof S th).2.2.2.2.2.1 k (iZ n), upd (mJof S th).2.2.2.2.2.2 k (iZ o)) : mJ) = mJof (sLo S k (day * 86400 + sec, n, o)) th := by
  have h1 : upd (mJof S th).2.2.2.1 k (iZ day) = (mJof (sLo S k (day * 86400 + sec, n, o)) th).2.2.2.1 := by
    funext j
    show (if j = k then iZ day else iZ (sse S j / 86400)) = iZ ((zup S.2.2.1 k (day * 86400 + sec, n, o) j).1 / 86400)
    by_cases h : j = k
    · subst h; rw [if_pos rfl, zup_eq]; congr 1; show day = (day * 86400 + sec) / 86400; omega
    · rw [if_neg h, zup_ne h]; rfl
  have h2 : upd (mJof S th).2.2.2.2.1 k (iZ sec) = (mJof (sLo S k (day * 86400 + sec, n, o)) th).2.2.2.2.1 := by
    funext j
    show (if j = k then iZ sec else iZ (sse S j % 86400)) = iZ ((zup S.2.2.1 k (day * 86400 + sec, n, o) j).1 % 86400)
    by_cases h : j = k
    · subst h; rw [if_pos rfl, zup_eq]; congr 1; show sec = (day * 86400 + sec) % 86400; omega
    · rw [if_neg h, zup_ne h]; rfl
  have h3 : upd (mJof S th).2.2.2.2.2.1 k (iZ n) = (mJof (sLo S k (day * 86400 + sec, n, o)) th).2.2.2.2.2.1 := by
    funext j
    show (if j = k then iZ n else iZ (sna S j)) = iZ (zup S.2.2.1 k (day * 86400 + sec, n, o) j).2.1
    by_cases h : j = k
    · subst h; rw [if_pos rfl, zup_eq]
    · rw [if_neg h, zup_ne h]; rfl
  have h4 : upd (mJof S th).2.2.2.2.2.2 k (iZ o) = (mJof (sLo S k (day * 86400 + sec, n, o)) th).2.2.2.2.2.2 := by
    funext j
    show (if j = k then iZ o else iZ (sow S j)) = iZ (zup S.2.2.1 k (day * 86400 + sec, n, o) j).2.2
    by_cases h : j = k
    · subst h; rw [if_pos rfl, zup_eq]
    · rw [if_neg h, zup_ne h]; rfl
  rw [h1, h2, h3, h4]
  rfl
theorem z_X4_no (ad ae : Nat → Nat) (cs : ClassId × ClassId × ClassId) (K : mK) (S : mS) (th : Int32) (rest : va_W) : mCt (mTy cs) yX4_no cX4_no 1 (some .int) ⟨0, 0, 0, 0⟩ [.ref (ae 0)] (mRw ad ae cs K (mJof S th) rest) (fun v ws' => v = some (.int (iZ (-9))) ∧ ws' = mRw ad ae cs K (mJof (sRf S) th) rest) mNo := by
  refine (c_X4_no ad ae cs K (mJof S th) rest).to (fun v w h => ?_)
  obtain ⟨J', h1, h2, hv, hw⟩ := h
  have e : J' = mJof (sRf S) th := Prod.ext (h1.trans rfl) (h2.trans rfl)
  exact ⟨hv, by rw [hw, e]⟩
/-- what stops a call -/
def zth (x y : Bool) : Int32 := cond x 1 (cond y 2 0)
theorem f_stop_Z (x y : Bool) : f_stop (b2i x) (b2i y) = zth x y := by cases x <;> cases y <;> rfl
theorem z_X4_isStopped (ad ae : Nat → Nat) (cs : ClassId × ClassId × ClassId) (K : mK) (S : mS) (th : Int32) (rest : va_W) (x y : Bool) : mCt (mTy cs) yX4_isStopped cX4_isStopped 3 (some .boolean) ⟨0, 0, 0, 0⟩ [.ref (ae 0), .int (b2i x), .int (b2i y)] (mRw ad ae cs K (mJof S th) rest) (fun v ws' => v = some (.int (b2i (x || y))) ∧ ws' = mRw ad ae cs K (mJof S (zth x y)) rest) mNo := by
  refine (c_X4_isStopped ad ae cs K (mJof S th) rest (b2i x) (b2i y)).to (fun v w h => ?_)
  obtain ⟨r, J', h1, h2, h3, h4, hv, hw⟩ := h
  rw [f_stop_Z] at h2
  have e : J' = mJof S (zth x y) := Prod.ext (Prod.ext h2 h3) h4
  have er : r = b2i (x || y) := by
    rcases h1 with ⟨a, b, c⟩ | ⟨a, b⟩
    · rw [a, (b2i_0 x).mp b, (b2i_0 y).mp c]; rfl
    · rw [a]
      cases x <;> cases y
      · exact absurd ⟨rfl, rfl⟩ b
      · rfl
      · rfl
      · rfl
  exact ⟨by rw [hv, er], by rw [hw, e]⟩
theorem zst0 {x y : Bool} (h : (x || y) = false) : (x = false ∧ y = false) ∧ zth x y = 0 := by cases x <;> cases y <;> simp_all [zth]
theorem zst1 {x y : Bool} (h : (x || y) = true) : (x = true ∧ zth x y = 1) ∨ (x = false ∧ y = true ∧ zth x y = 2) := by cases x <;> cases y <;> simp_all [zth]
theorem z_X4_isNone (tys : List (ClassId × FieldType)) (ws : va_W) (a : Int) (ha : rJ a) : mCt tys yX4_isNone cX4_isNone 1 (some .boolean) ⟨1, 0, 0, 25⟩ [.int (iZ a)] ws (fun v ws' => v = some (.int (b2i (decide (¬ (0 ≤ a ∧ a < 4))))) ∧ ws' = ws) mNo := by
  refine (c_X4_isNone tys ws (iZ a)).to (fun v w h => ?_)
  obtain ⟨r, h1, hv, hw⟩ := h
  refine ⟨?_, hw⟩
  rcases h1 with ⟨e, j, hj, ej⟩ | ⟨e, hn⟩
  · have := (iZ_in (N := 4) ha (by decide)).mpr ⟨j, hj, ej⟩
    rw [hv, e, decide_eq_false (by omega)]; rfl
  · have h2 : ¬ (0 ≤ a ∧ a < 4) := fun q => hn ((vp_in_Zi (N := 4) ha).mpr q)
    rw [hv, e, decide_eq_true h2]; rfl
theorem z_X4_isNoClock (tys : List (ClassId × FieldType)) (ws : va_W) (a : Int) (ha : rJ a) : mCt tys yX4_isNoClock cX4_isNoClock 1 (some .boolean) ⟨1, 0, 0, 25⟩ [.int (iZ a)] ws (fun v ws' => v = some (.int (b2i (decide (¬ (0 ≤ a ∧ a < 3))))) ∧ ws' = ws) mNo := by
  refine (c_X4_isNoClock tys ws (iZ a)).to (fun v w h => ?_)
  obtain ⟨r, h1, hv, hw⟩ := h
  refine ⟨?_, hw⟩
  rcases h1 with ⟨e, j, hj, ej⟩ | ⟨e, hn⟩
  · have := (iZ_in (N := 3) ha (by decide)).mpr ⟨j, hj, ej⟩
    rw [hv, e, decide_eq_false (by omega)]; rfl
  · have h2 : ¬ (0 ≤ a ∧ a < 3) := fun q => hn ((vp_in_Zi (N := 3) ha).mpr q)
    rw [hv, e, decide_eq_true h2]; rfl
set_option maxHeartbeats 4000000 in
set_option maxRecDepth 20000 in
theorem z_X4_one (tys : List (ClassId × FieldType)) (ws : va_W) (a : Int) (ha : 0 ≤ a ∧ a ≤ 1)  : mCt tys yX4_one cX4_one 1 (some .int) ⟨0, 0, 0, 0⟩ [.int (iZ a)] ws (fun v ws' => v = some (.int (iZ a)) ∧ ws' = ws) mNo := by
  refine mCt.of (by decide +kernel) (Nat.le_of_ble_eq_true rfl) (fun X hX hE => ?_)
  replace hX : mOK X RX4 cX4_one 1 ⟨0, 0, 0, 0⟩ [] tys := hX
  refine r_iload_n hX dX4_one_0 rfl rfl ?_
  refine r_if_eqZ (tgt := 8) hX dX4_one_1 (by decide) (by omega) (fun c1 => ?_) (fun c1 => ?_)
  · refine r_iconstZ hX dX4_one_8 ?_
    refine r_iret hX hE dX4_one_9 (Nat.le_of_ble_eq_true rfl) (Nat.le_of_ble_eq_true rfl) ⟨zi ?_, rfl⟩
    omega
  · refine r_iconstZ hX dX4_one_4 ?_
    refine r_goto (tgt := 9) hX dX4_one_5 (by decide) ?_
    refine r_iret hX hE dX4_one_9 (Nat.le_of_ble_eq_true rfl) (Nat.le_of_ble_eq_true rfl) ⟨zi ?_, rfl⟩
    omega
set_option maxHeartbeats 4000000 in
set_option maxRecDepth 20000 in
theorem z_X4_order (tys : List (ClassId × FieldType)) (ws : va_W) (a b : Int) (ha : rL a) (hb : rL b)  : mCt tys yX4_order cX4_order 4 (some .int) ⟨1, 0, 0, 20⟩ [.long (lZ a), .long (lZ b)] ws (fun v ws' => v = some (.int (iZ (cmpZ a b))) ∧ ws' = ws) mNo := by
  refine mCt.of (by decide +kernel) (Nat.le_of_ble_eq_true rfl) (fun X hX hE => ?_)
  replace hX : mOK X RX4 cX4_order 4 ⟨1, 0, 0, 20⟩ [] tys := hX
  refine r_lload_n hX dX4_order_0 rfl rfl ?_
  refine r_lload_n hX dX4_order_1 rfl rfl ?_
  refine r_lif_geZ (tgt := 10) hX dX4_order_2 dX4_order_3 (by decide) (by omega) (by omega) (fun c1 => ?_) (fun c1 => ?_)
  · refine r_lload_n hX dX4_order_10 rfl rfl ?_
    refine r_lload_n hX dX4_order_11 rfl rfl ?_
    refine r_lif_leZ (tgt := 20) hX dX4_order_12 dX4_order_13 (by decide) (by omega) (by omega) (fun c2 => ?_) (fun c2 => ?_)
    · refine r_iconstZ hX dX4_order_20 ?_
      refine r_callS hX (z_X4_one _ _ _ (by omega)) ks_X4_84 rfl rfl (Nat.le_of_ble_eq_true rfl) ⟨(Nat.le_of_ble_eq_true rfl), (Nat.le_of_ble_eq_true rfl)⟩ ⟨(Nat.le_of_ble_eq_true rfl), (Nat.le_of_ble_eq_true rfl)⟩ dX4_order_21 (fun _ _ z => False.elim z) (fun v9 ws9 h3 => ?_)
      obtain ⟨rfl, hw9⟩ := h3
      subst ws9
      dsimp only [mPush]
      refine r_iret hX hE dX4_order_24 (Nat.le_of_ble_eq_true rfl) (Nat.le_of_ble_eq_true rfl) ⟨zi ?_, rfl⟩
      unfold cmpZ
      repeat' split
      all_goals omega
    · refine r_iconstZ hX dX4_order_16 ?_
      refine r_goto (tgt := 21) hX dX4_order_17 (by decide) ?_
      refine r_callS hX (z_X4_one _ _ _ (by omega)) ks_X4_84 rfl rfl (Nat.le_of_ble_eq_true rfl) ⟨(Nat.le_of_ble_eq_true rfl), (Nat.le_of_ble_eq_true rfl)⟩ ⟨(Nat.le_of_ble_eq_true rfl), (Nat.le_of_ble_eq_true rfl)⟩ dX4_order_21 (fun _ _ z => False.elim z) (fun v9 ws9 h4 => ?_)
      obtain ⟨rfl, hw9⟩ := h4
      subst ws9
      dsimp only [mPush]
      refine r_iret hX hE dX4_order_24 (Nat.le_of_ble_eq_true rfl) (Nat.le_of_ble_eq_true rfl) ⟨zi ?_, rfl⟩
      unfold cmpZ
      repeat' split
      all_goals omega
  · refine r_iconstZ hX dX4_order_6 ?_
    refine r_goto (tgt := 24) hX dX4_order_7 (by decide) ?_
    refine r_iret hX hE dX4_order_24 (Nat.le_of_ble_eq_true rfl) (Nat.le_of_ble_eq_true rfl) ⟨zi ?_, rfl⟩
    unfold cmpZ
    repeat' split
    all_goals omega
set_option maxHeartbeats 4000000 in
set_option maxRecDepth 20000 in
theorem z_X4_number (ad ae : Nat → Nat) (cs : ClassId × ClassId × ClassId) (K : mK) (S : mS) (th : Int32) (rest : va_W) (hS : sWF S) (i : Int) (j : Nat) (hij : i = (j : Int)) (hj : j < 7)  : mCt (mTy cs) yX4_number cX4_number 2 (some .long) ⟨0, 0, 0, 0⟩ [.ref (ae 0), .int (iZ i)] (mRw ad ae cs K (mJof S th) rest) (fun v ws' => v = some (.long (lZ ((sse S j - sow S j) * 1000000000 + sna S j))) ∧ ws' = (mRw ad ae cs K (mJof S th) rest)) mNo := by
  refine mCt.of (by decide +kernel) (Nat.le_of_ble_eq_true rfl) (fun X hX hE => ?_)
  replace hX : mOK X RX4 cX4_number 2 ⟨0, 0, 0, 0⟩ [] (mTy cs) := hX
  have hr := zrg hS hj
  refine r_ldc2Z (z := 86400) hX kc_X4_113 (by decide) dX4_number_0 ?_
  refine r_aload_n hX dX4_number_3 rfl rfl ?_
  refine r_get hX kf_X4_17 14 rfl rfl dX4_number_4 ?_
  refine r_iload_n hX dX4_number_7 rfl rfl ?_
  refine r_ialdZ hX 17 0 rfl rfl j (by omega) (by omega) (by decide) dX4_number_8 ?_
  refine r_i2lZ hX dX4_number_9 (by omega) ?_
  refine r_lmulZ hX dX4_number_10 ?_
  refine r_aload_n hX dX4_number_11 rfl rfl ?_
  refine r_get hX kf_X4_20 14 rfl rfl dX4_number_12 ?_
  refine r_iload_n hX dX4_number_15 rfl rfl ?_
  refine r_ialdZ hX 18 0 rfl rfl j (by omega) (by omega) (by decide) dX4_number_16 ?_
  refine r_i2lZ hX dX4_number_17 (by omega) ?_
  refine r_laddZ hX dX4_number_18 ?_
  refine r_aload_n hX dX4_number_19 rfl rfl ?_
  refine r_get hX kf_X4_26 14 rfl rfl dX4_number_20 ?_
  refine r_iload_n hX dX4_number_23 rfl rfl ?_
  refine r_ialdZ hX 20 0 rfl rfl j (by omega) (by omega) (by decide) dX4_number_24 ?_
  refine r_i2lZ hX dX4_number_25 (by omega) ?_
  refine r_lsubZ hX dX4_number_26 ?_
  refine r_ldc2Z (z := 1000000000) hX kc_X4_96 (by decide) dX4_number_27 ?_
  refine r_lmulZ hX dX4_number_30 ?_
  refine r_aload_n hX dX4_number_31 rfl rfl ?_
  refine r_get hX kf_X4_23 14 rfl rfl dX4_number_32 ?_
  refine r_iload_n hX dX4_number_35 rfl rfl ?_
  refine r_ialdZ hX 19 0 rfl rfl j (by omega) (by omega) (by decide) dX4_number_36 ?_
  refine r_i2lZ hX dX4_number_37 (by omega) ?_
  refine r_laddZ hX dX4_number_38 ?_
  refine r_lret hX hE dX4_number_39 (Nat.le_of_ble_eq_true rfl) (Nat.le_of_ble_eq_true rfl) ⟨zl ?_, rfl⟩
  omega
set_option maxHeartbeats 4000000 in
set_option maxRecDepth 20000 in
theorem z_X4_become (ad ae : Nat → Nat) (cs : ClassId × ClassId × ClassId) (K : mK) (S : mS) (th : Int32) (rest : va_W) (hS : sWF S) (i : Int) (j : Nat) (hij : i = (j : Int)) (hj : j < 4) (z : Int) (hz : -4000000000000000000 ≤ z ∧ z ≤ 4000000000000000000)  : mCt (mTy cs) yX4_become cX4_become 4 (some .int) ⟨2, 0, 0, 46⟩ [.ref (ae 0), .int (iZ i), .long (lZ z)] (mRw ad ae cs K (mJof S th) rest) (fun v ws' => v = some (.int (iZ (oNum S j z).1)) ∧ ws' = mRw ad ae cs K (mJof (oNum S j z).2 th) rest) mNo := by
  refine mCt.of (by decide +kernel) (Nat.le_of_ble_eq_true rfl) (fun X hX hE => ?_)
  replace hX : mOK X RX4 cX4_become 4 ⟨2, 0, 0, 46⟩ [] (mTy cs) := hX
  refine r_lload_n hX dX4_become_0 rfl rfl ?_
  refine r_ldc2Z (z := 1000000000) hX kc_X4_96 (by decide) dX4_become_1 ?_
  refine r_callS hX (c_X4_whole_x _ _ _ _ (by omega) (by omega) (by omega) (by omega)) ks_X4_92 rfl rfl (Nat.le_of_ble_eq_true rfl) ⟨(Nat.le_of_ble_eq_true rfl), (Nat.le_of_ble_eq_true rfl)⟩ ⟨(Nat.le_of_ble_eq_true rfl), (Nat.le_of_ble_eq_true rfl)⟩ dX4_become_4 (fun _ _ z => False.elim z) (fun v9 ws9 h1 => ?_)
  obtain ⟨rfl, hw9⟩ := h1
  subst ws9
  dsimp only [mPush]
  refine r_ldc2Z (z := -1800000000) hX kc_X4_98 (by decide) dX4_become_7 ?_
  refine r_ldc2Z (z := 1800000000) hX kc_X4_100 (by decide) dX4_become_10 ?_
  refine r_callS hX (z_X4_isIn _ _ _ _ _ (by omega) (by omega) (by omega)) ks_X4_38 rfl rfl (Nat.le_of_ble_eq_true rfl) ⟨(Nat.le_of_ble_eq_true rfl), (Nat.le_of_ble_eq_true rfl)⟩ ⟨(Nat.le_of_ble_eq_true rfl), (Nat.le_of_ble_eq_true rfl)⟩ dX4_become_13 (fun _ _ z => False.elim z) (fun v9 ws9 h2 => ?_)
  obtain ⟨rfl, hw9⟩ := h2
  subst ws9
  dsimp only [mPush]
  refine r_if_neB (tgt := 24) hX dX4_become_16 (by decide) (fun c3 => ?_) (fun c3 => ?_)
  · have c3 := of_decide_eq_true c3
    refine r_aload_n hX dX4_become_24 rfl rfl ?_
    refine r_get hX kf_X4_13 14 rfl rfl dX4_become_25 ?_
    refine r_iload_n hX dX4_become_28 rfl rfl ?_
    refine r_lload_n hX dX4_become_29 rfl rfl ?_
    refine r_lastZ hX 16 1 rfl rfl j (by omega) (by omega) (by decide) dX4_become_30 ?_
    refine r_eqw (zRw_num (j := j) (z := z)) ?_
    refine r_lload_n hX dX4_become_31 rfl rfl ?_
    refine r_ldc2Z (z := 1000000000) hX kc_X4_96 (by decide) dX4_become_32 ?_
    refine r_callS hX (c_X4_rest_x _ _ _ _ (by omega) (by omega) (by omega) (by omega)) ks_X4_102 rfl rfl (Nat.le_of_ble_eq_true rfl) ⟨(Nat.le_of_ble_eq_true rfl), (Nat.le_of_ble_eq_true rfl)⟩ ⟨(Nat.le_of_ble_eq_true rfl), (Nat.le_of_ble_eq_true rfl)⟩ dX4_become_35 (fun _ _ z => False.elim z) (fun v9 ws9 h4 => ?_)
    obtain ⟨rfl, hw9⟩ := h4
    subst ws9
    dsimp only [mPush]
    refine r_iret hX hE dX4_become_38 (Nat.le_of_ble_eq_true rfl) (Nat.le_of_ble_eq_true rfl) ?_
    rw [oNum_y (by omega)]
    exact ⟨rfl, rfl⟩
  · have c3 := of_decide_eq_false c3
    refine r_aload_n hX dX4_become_19 rfl rfl ?_
    refine r_callV hX (z_X4_no ad ae cs K S th rest) kv_X4_80 14 rfl rfl rfl rfl (Nat.le_of_ble_eq_true rfl) ⟨(Nat.le_of_ble_eq_true rfl), (Nat.le_of_ble_eq_true rfl)⟩ ⟨(Nat.le_of_ble_eq_true rfl), (Nat.le_of_ble_eq_true rfl)⟩ dX4_become_20 (fun _ _ z => False.elim z) (fun v9 ws9 h5 => ?_)
    obtain ⟨rfl, hw9⟩ := h5
    subst ws9
    dsimp only [mPush]
    refine r_iret hX hE dX4_become_23 (Nat.le_of_ble_eq_true rfl) (Nat.le_of_ble_eq_true rfl) ?_
    rw [oNum_n (by omega)]
    exact ⟨rfl, rfl⟩

