/-! The reference, exact (rows by a program of this repository). -/
theorem MO_u {y m : Nat} {r : Int} (h1 : 1 ≤ m) (h2 : m ≤ 12) (h3 : DB y m ≤ r) (h4 : r < DB y (m + 1)) : MOy y r = m := by
  have hd : ∀ m : Nat, 1 ≤ m → DB y (m + 1) = DB y m + (dm y m : Int) := fun m h => DB_s h
  have e1 := DB_1 y
  have d1 := hd 1 (by omega)
  have d2 := hd 2 (by omega)
  have d3 := hd 3 (by omega)
  have d4 := hd 4 (by omega)
  have d5 := hd 5 (by omega)
  have d6 := hd 6 (by omega)
  have d7 := hd 7 (by omega)
  have d8 := hd 8 (by omega)
  have d9 := hd 9 (by omega)
  have d10 := hd 10 (by omega)
  have d11 := hd 11 (by omega)
  have d12 := hd 12 (by omega)
  simp only [Nat.reduceAdd] at d1 d2 d3 d4 d5 d6 d7 d8 d9 d10 d11 d12
  have b1 := dm_b y 1
  have b2 := dm_b y 2
  have b3 := dm_b y 3
  have b4 := dm_b y 4
  have b5 := dm_b y 5
  have b6 := dm_b y 6
  have b7 := dm_b y 7
  have b8 := dm_b y 8
  have b9 := dm_b y 9
  have b10 := dm_b y 10
  have b11 := dm_b y 11
  have b12 := dm_b y 12
  rcases (show m = 1 ∨ m = 2 ∨ m = 3 ∨ m = 4 ∨ m = 5 ∨ m = 6 ∨ m = 7 ∨ m = 8 ∨ m = 9 ∨ m = 10 ∨ m = 11 ∨ m = 12 by omega) with rfl | rfl | rfl | rfl | rfl | rfl | rfl | rfl | rfl | rfl | rfl | rfl
  · simp only [Nat.reduceAdd] at h4
    unfold MOy
    rw [if_pos (by omega)]
  · simp only [Nat.reduceAdd] at h4
    unfold MOy
    rw [if_neg (by omega)]
    rw [if_pos (by omega)]
  · simp only [Nat.reduceAdd] at h4
    unfold MOy
    rw [if_neg (by omega)]
    rw [if_neg (by omega)]
    rw [if_pos (by omega)]
  · simp only [Nat.reduceAdd] at h4
    unfold MOy
    rw [if_neg (by omega)]
    rw [if_neg (by omega)]
    rw [if_neg (by omega)]
    rw [if_pos (by omega)]
  · simp only [Nat.reduceAdd] at h4
    unfold MOy
    rw [if_neg (by omega)]
    rw [if_neg (by omega)]
    rw [if_neg (by omega)]
    rw [if_neg (by omega)]
    rw [if_pos (by omega)]
  · simp only [Nat.reduceAdd] at h4
    unfold MOy
    rw [if_neg (by omega)]
    rw [if_neg (by omega)]
    rw [if_neg (by omega)]
    rw [if_neg (by omega)]
    rw [if_neg (by omega)]
    rw [if_pos (by omega)]
  · simp only [Nat.reduceAdd] at h4
    unfold MOy
    rw [if_neg (by omega)]
    rw [if_neg (by omega)]
    rw [if_neg (by omega)]
    rw [if_neg (by omega)]
    rw [if_neg (by omega)]
    rw [if_neg (by omega)]
    rw [if_pos (by omega)]
  · simp only [Nat.reduceAdd] at h4
    unfold MOy
    rw [if_neg (by omega)]
    rw [if_neg (by omega)]
    rw [if_neg (by omega)]
    rw [if_neg (by omega)]
    rw [if_neg (by omega)]
    rw [if_neg (by omega)]
    rw [if_neg (by omega)]
    rw [if_pos (by omega)]
  · simp only [Nat.reduceAdd] at h4
    unfold MOy
    rw [if_neg (by omega)]
    rw [if_neg (by omega)]
    rw [if_neg (by omega)]
    rw [if_neg (by omega)]
    rw [if_neg (by omega)]
    rw [if_neg (by omega)]
    rw [if_neg (by omega)]
    rw [if_neg (by omega)]
    rw [if_pos (by omega)]
  · simp only [Nat.reduceAdd] at h4
    unfold MOy
    rw [if_neg (by omega)]
    rw [if_neg (by omega)]
    rw [if_neg (by omega)]
    rw [if_neg (by omega)]
    rw [if_neg (by omega)]
    rw [if_neg (by omega)]
    rw [if_neg (by omega)]
    rw [if_neg (by omega)]
    rw [if_neg (by omega)]
    rw [if_pos (by omega)]
  · simp only [Nat.reduceAdd] at h4
    unfold MOy
    rw [if_neg (by omega)]
    rw [if_neg (by omega)]
    rw [if_neg (by omega)]
    rw [if_neg (by omega)]
    rw [if_neg (by omega)]
    rw [if_neg (by omega)]
    rw [if_neg (by omega)]
    rw [if_neg (by omega)]
    rw [if_neg (by omega)]
    rw [if_neg (by omega)]
    rw [if_pos (by omega)]
  · simp only [Nat.reduceAdd] at h4
    unfold MOy
    rw [if_neg (by omega)]
    rw [if_neg (by omega)]
    rw [if_neg (by omega)]
    rw [if_neg (by omega)]
    rw [if_neg (by omega)]
    rw [if_neg (by omega)]
    rw [if_neg (by omega)]
    rw [if_neg (by omega)]
    rw [if_neg (by omega)]
    rw [if_neg (by omega)]
    rw [if_neg (by omega)]
theorem z_X4_firstOf (tys : List (ClassId × FieldType)) (ws : va_W) (Y : Int) (y : Nat) (hY : Y = (y : Int)) (hy : 1900 ≤ y ∧ y < 2100) : mCt tys yX4_firstOf cX4_firstOf 3 (some .int) ⟨2, 0, 0, 48⟩ [.int (iZ Y)] ws (fun v ws' => v = some (.int (iZ (FO y))) ∧ ws' = ws) mNo := by
  rw [hY, ← iZ_nI]
  exact c_X4_firstOf _ _ y hy.2 hy.1
theorem z_X4_daysOf_ (tys : List (ClassId × FieldType)) (ws : va_W) (Y : Int) (y : Nat) (hY : Y = (y : Int)) (hy : y < 2100) : mCt tys yX4_daysOf_ cX4_daysOf_ 1 (some .int) ⟨1, 0, 0, 20⟩ [.int (iZ Y)] ws (fun v ws' => v = some (.int (iZ (yl y : Nat))) ∧ ws' = ws) mNo := by
  rw [hY, ← iZ_nI, ← iZ_nI]
  exact c_X4_daysOf_ _ _ y hy
theorem z_X4_daysOf (tys : List (ClassId × FieldType)) (ws : va_W) (Y : Int) (y : Nat) (hY : Y = (y : Int)) (hy : y < 2100) (M : Int) (m : Nat) (hM : M = (m : Int)) (hm : m < 14) : mCt tys yX4_daysOf cX4_daysOf 2 (some .int) ⟨1, 0, 0, 20⟩ [.int (iZ Y), .int (iZ M)] ws (fun v ws' => v = some (.int (iZ (dm y m : Nat))) ∧ ws' = ws) mNo := by
  rw [hY, hM, ← iZ_nI, ← iZ_nI, ← iZ_nI]
  exact c_X4_daysOf _ _ y hy m hm
theorem z_X4_dayOf (tys : List (ClassId × FieldType)) (ws : va_W) (Y : Int) (y : Nat) (hY : Y = (y : Int)) (hy : 1900 ≤ y ∧ y < 2100) (M : Int) (m : Nat) (hM : M = (m : Int)) (hm : 1 ≤ m ∧ m ≤ 12) (E : Int) (hE : 0 ≤ E ∧ E < 1000) : mCt tys yX4_dayOf cX4_dayOf 5 (some .int) ⟨3, 0, 0, 70⟩ [.int (iZ Y), .int (iZ M), .int (iZ E)] ws (fun v ws' => v = some (.int (iZ (FO y + DB y m + E - 1))) ∧ ws' = ws) mNo := by
  have e : E = ((E.toNat : Nat) : Int) := by omega
  rw [e, hY, hM, ← iZ_nI, ← iZ_nI, ← iZ_nI]
  exact c_X4_dayOf _ _ y hy.2 hy.1 m hm.2 hm.1 E.toNat (by omega)
set_option maxHeartbeats 4000000 in
set_option maxRecDepth 20000 in
theorem c_X4_parts_f (cs : ClassId × ClassId × ClassId) (ws : va_W) (d : Int) (hd1 : -21915 ≤ d) (hd2 : d ≤ 22279) : mCt (mTy cs) yX4_parts cX4_parts 5 (some (.array .int)) ⟨4, 1, 4, 95⟩ [.int (iZ d)] ws (fun v ws' => ∃ (y m dd : Nat) (f : Nat → Int32) (q : Nat), 1910 ≤ y ∧ y ≤ 2030 ∧ 1 ≤ m ∧ m ≤ 12 ∧ 1 ≤ dd ∧ dd ≤ dm y m ∧ FO y + DB y m + (dd : Int) - 1 = d ∧ f 0 = nI y ∧ f 1 = nI m ∧ f 2 = nI dd ∧ f 3 = iZ (d - FO y + 1) ∧ v = some (.ref q) ∧ ws' = ws ++ [(q, .inl (cs.1, 4, .inl f))]) mNo := by
  refine mCt.of (by decide +kernel) (Nat.le_of_ble_eq_true rfl) (fun X hX hE => ?_)
  replace hX : mOK X RX4 cX4_parts 5 ⟨4, 1, 4, 95⟩ [] (mTy cs) := hX
  refine r_iload_n hX dX4_parts_0 rfl rfl ?_
  refine r_callS hX (c_X4_yearOf _ _ d hd1 hd2) ks_X4_58 rfl rfl (Nat.le_of_ble_eq_true rfl) ⟨(Nat.le_of_ble_eq_true rfl), (Nat.le_of_ble_eq_true rfl)⟩ ⟨(Nat.le_of_ble_eq_true rfl), (Nat.le_of_ble_eq_true rfl)⟩ dX4_parts_1 (fun _ _ z => False.elim z) (fun v9 ws9 h => ?_)
  obtain ⟨y, hy1, hy2, hF1, hF2, rfl, hw9⟩ := h
  subst ws9
  dsimp only [mPush]
  have hs := FO_s (y := y) (by omega)
  have hb := FO_b (y := y) (by omega)
  have hyl := yl_b y
  refine r_istore_n hX dX4_parts_4 rfl (by decide) rfl ?_
  refine r_iload_n hX dX4_parts_5 rfl rfl ?_
  refine r_iload_n hX dX4_parts_6 rfl rfl ?_
  refine r_callS hX (c_X4_firstOf _ _ y (by omega) (by omega)) ks_X4_52 rfl rfl (Nat.le_of_ble_eq_true rfl) ⟨(Nat.le_of_ble_eq_true rfl), (Nat.le_of_ble_eq_true rfl)⟩ ⟨(Nat.le_of_ble_eq_true rfl), (Nat.le_of_ble_eq_true rfl)⟩ dX4_parts_7 (fun _ _ z => False.elim z) (fun v9 ws9 h => ?_)
  obtain ⟨rfl, hw9⟩ := h
  subst ws9
  dsimp only [mPush]
  refine r_isub hX dX4_parts_10 ?_
  refine r_istore_n hX dX4_parts_11 rfl (by decide) rfl ?_
  refine r_iload_n hX dX4_parts_12 rfl rfl ?_
  refine r_iconst (v := 1) hX dX4_parts_13 (by decide) ?_
  refine r_iadd hX dX4_parts_14 ?_
  refine r_istore_n hX dX4_parts_15 rfl (by decide) rfl ?_
  refine r_iconst (v := 1) hX dX4_parts_16 (by decide) ?_
  refine r_istore hX dX4_parts_17 (by decide) rfl ?_
  have L19 : ∀ (N m : Nat), 13 - m < N → 1 ≤ m → m ≤ 12 → 0 ≤ d - FO y - DB y m → mV X 19 [(1, some (.int (nI y))), (2, some (.int (iZ (d - FO y - DB y m)))), (3, some (.int (iZ (d - FO y + 1)))), (4, some (.int (nI m)))] [] ws 0 0 := by
    intro N
    induction N with
    | zero => intro m h; omega
    | succ N ih =>
      intro m h1 h2 h3 h4
      have hdm := dm_b y m
      have hDB := DB_b (y := y) (m := m) (by omega)
      have hDt := DB_t (y := y) h2 h3
      refine r_iload_n hX dX4_parts_19 rfl rfl ?_
      refine r_iload_n hX dX4_parts_20 rfl rfl ?_
      refine r_iload hX dX4_parts_21 rfl ?_
      refine r_callS hX (c_X4_daysOf _ _ y (by omega) m (by omega)) ks_X4_55 rfl rfl (Nat.le_of_ble_eq_true rfl) ⟨(Nat.le_of_ble_eq_true rfl), (Nat.le_of_ble_eq_true rfl)⟩ ⟨(Nat.le_of_ble_eq_true rfl), (Nat.le_of_ble_eq_true rfl)⟩ dX4_parts_23 (fun _ _ z => False.elim z) (fun v9 ws9 h => ?_)
      obtain ⟨rfl, hw9⟩ := h
      subst ws9
      dsimp only [mPush]
      rw [iZ_nI (dm y m)]
      refine r_icmp_lt (tgt := 44) hX dX4_parts_26 (by decide) (fun c => ?_) (fun c => ?_)
      · have hlt := (iZ_lt (a := d - FO y - DB y m) (b := (dm y m : Int)) (by omega) (by omega) (by omega) (by omega)).mp c
        obtain ⟨w, hw⟩ : ∃ w : Nat, d - FO y - DB y m = (w : Int) := ⟨(d - FO y - DB y m).toNat, by omega⟩
        refine r_iconst (v := nI 4) hX dX4_parts_44 (by decide) ?_
        refine r_newai (N := 4) hX 0 rfl (by decide) dX4_parts_45 (Nat.le_of_ble_eq_true rfl) (Nat.le_of_ble_eq_true rfl) (fun q => ?_)
        have t0 : (nI 0).toNatClampNeg = 0 := by decide
        have t1 : (nI 1).toNatClampNeg = 1 := by decide
        have t2 : (nI 2).toNatClampNeg = 2 := by decide
        have t3 : (nI 3).toNatClampNeg = 3 := by decide
        refine r_dup hX dX4_parts_47 rfl ?_
        refine r_iconst (v := nI 0) hX dX4_parts_48 (by decide) ?_
        refine r_iload_n hX dX4_parts_49 rfl rfl ?_
        refine r_iast hX ws.length 0 mLast rfl (vp_in_nI (by decide) (by decide)) dX4_parts_50 ?_
        rw [mSetLast]
        refine r_dup hX dX4_parts_51 rfl ?_
        refine r_iconst (v := nI 1) hX dX4_parts_52 (by decide) ?_
        refine r_iload hX dX4_parts_53 rfl ?_
        refine r_iast hX ws.length 0 mLast rfl (vp_in_nI (by decide) (by decide)) dX4_parts_55 ?_
        rw [mSetLast]
        refine r_dup hX dX4_parts_56 rfl ?_
        refine r_iconst (v := nI 2) hX dX4_parts_57 (by decide) ?_
        refine r_iload_n hX dX4_parts_58 rfl rfl ?_
        refine r_iconst (v := 1) hX dX4_parts_59 (by decide) ?_
        refine r_iadd hX dX4_parts_60 ?_
        refine r_iast hX ws.length 0 mLast rfl (vp_in_nI (by decide) (by decide)) dX4_parts_61 ?_
        rw [mSetLast]
        refine r_dup hX dX4_parts_62 rfl ?_
        refine r_iconst (v := nI 3) hX dX4_parts_63 (by decide) ?_
        refine r_iload_n hX dX4_parts_64 rfl rfl ?_
        refine r_iast hX ws.length 0 mLast rfl (vp_in_nI (by decide) (by decide)) dX4_parts_65 ?_
        rw [mSetLast]
        refine r_aret hX hE dX4_parts_66 (Or.inr ⟨_, rfl⟩) (Or.inr ⟨_, rfl⟩) (Nat.le_of_ble_eq_true rfl) (Nat.le_of_ble_eq_true rfl) ⟨y, m, w + 1, _, q, hy1, hy2, h2, h3, by omega, by omega, by omega, ?_, ?_, ?_, ?_, rfl, rfl⟩
        · simp [upd, t0, t1, t2, t3]
        · simp [upd, t0, t1, t2, t3]
        · simp only [upd, t0, t1, t2, t3]
          rw [hw, ← nI_1, iZ_nI w]
          rfl
        · simp [upd, t0, t1, t2, t3]
      · have hge : (dm y m : Int) ≤ d - FO y - DB y m := by
          by_cases q : d - FO y - DB y m < (dm y m : Int)
          · exact absurd ((iZ_lt (a := d - FO y - DB y m) (b := (dm y m : Int)) (by omega) (by omega) (by omega) (by omega)).mpr q) c
          · omega
        have hm12 : m < 12 := by
          rcases Nat.lt_or_ge m 12 with q | q
          · exact q
          · have : m = 12 := by omega
            subst this
            have h5 := DB_12 y
            have h6 := dm_12 y
            omega
        have hsm := DB_s (y := y) h2
        refine r_iload_n hX dX4_parts_29 rfl rfl ?_
        refine r_iload_n hX dX4_parts_30 rfl rfl ?_
        refine r_iload hX dX4_parts_31 rfl ?_
        refine r_callS hX (c_X4_daysOf _ _ y (by omega) m (by omega)) ks_X4_55 rfl rfl (Nat.le_of_ble_eq_true rfl) ⟨(Nat.le_of_ble_eq_true rfl), (Nat.le_of_ble_eq_true rfl)⟩ ⟨(Nat.le_of_ble_eq_true rfl), (Nat.le_of_ble_eq_true rfl)⟩ dX4_parts_33 (fun _ _ z => False.elim z) (fun v9 ws9 h => ?_)
        obtain ⟨rfl, hw9⟩ := h
        subst ws9
        dsimp only [mPush]
        refine r_isub hX dX4_parts_36 ?_
        refine r_istore_n hX dX4_parts_37 rfl (by decide) rfl ?_
        refine r_iinc hX dX4_parts_38 rfl (by decide) rfl ?_
        refine r_goto (tgt := 19) hX dX4_parts_41 (by decide) ?_
        refine r_loc (k' := 0) (n' := 0) ?_ (by decide) (by decide) (ih (m + 1) (by omega) (by omega) (by omega) (by omega))
        refine ⟨rfl, ?_, rfl, nI_inc' _, trivial⟩
        rw [iZ_nI (dm y m), iZ_sub, hsm]
        exact congrArg (fun z : Int => some (Value.int (iZ z))) (by omega)
  refine r_loc (k' := 0) (n' := 0) ?_ (by decide) (by decide) (L19 13 1 (by decide) (by decide) (by decide) (by rw [DB_1]; omega))
  refine ⟨rfl, ?_, ?_, rfl, trivial⟩
  · rw [DB_1, iZ_sub]
    exact congrArg (fun z : Int => some (Value.int (iZ z))) (by omega)
  · rw [iZ_sub, show (1 : Int32) = iZ 1 from rfl, iZ_add]
    rfl
theorem z_X4_parts (cs : ClassId × ClassId × ClassId) (ws : va_W) (d : Int) (hd : -21915 ≤ d ∧ d ≤ 22279) : mCt (mTy cs) yX4_parts cX4_parts 5 (some (.array .int)) ⟨4, 1, 4, 95⟩ [.int (iZ d)] ws (fun v ws' => ∃ (f : Nat → Int32) (q : Nat), (f 0 = iZ (YR d : Nat) ∧ f 1 = iZ (MO d : Nat) ∧ f 2 = iZ (DOM d) ∧ f 3 = iZ (d - FO (YR d) + 1)) ∧ v = some (.ref q) ∧ ws' = ws ++ [(q, .inl (cs.1, 4, .inl f))]) mNo := by
  refine (c_X4_parts_f cs ws d hd.1 hd.2).to (fun v w h => ?_)
  obtain ⟨y, m, dd, f, q, h1, h2, h3, h4, h5, h6, h7, f0, f1, f2, f3, hv, hw⟩ := h
  have hs := YR_spec hd.1 hd.2
  have hDB := DB_s (y := y) h3
  have hDt := DB_t (y := y) h3 h4
  have hDb := DB_b (y := y) (m := m) (by omega)
  have hFs := FO_s (y := y) (by omega)
  have ey : YR d = y := FO_u (by omega) (by omega) hs.2.2.1 hs.2.2.2 (by omega) (by omega)
  have em : MO d = m := by
    unfold MO
    rw [ey]
    exact MO_u h3 h4 (by omega) (by omega)
  have ed : DOM d = (dd : Int) := by
    unfold DOM
    rw [ey, em]
    omega
  rw [ey, em, ed]
  exact ⟨f, q, ⟨by rw [f0, iZ_nI], by rw [f1, iZ_nI], by rw [f2, iZ_nI], f3⟩, hv, hw⟩

