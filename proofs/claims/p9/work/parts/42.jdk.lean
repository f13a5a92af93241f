/-! Long.getChars, Latin-1. (Rows by a program of this repository.) -/
theorem mpred {c : Nat} (h : 1 ≤ c) : nI c + Int32.ofInt (-1) = nI (c - 1) := by
  rw [mdec]
  exact pk_sub (b := 1) h
theorem mq64 {y : Int64} (h : y.toInt ≤ 0) : (y / 100).toInt = -((-y.toInt) / 100) ∧ ((y / 100 * 100 - y).toInt32).toInt = (-y.toInt) % 100 := by
  have a := y.le_toInt
  have e2 : (100 : Int64).toInt = 100 := by decide
  have e : (y / 100).toInt = -((-y.toInt) / 100) := by
    rw [Int64.toInt_div, e2, show y.toInt.tdiv 100 = -((-y.toInt) / 100) by
      rw [← Int.tdiv_eq_ediv_of_nonneg (show 0 ≤ -y.toInt by omega), Int.neg_tdiv, Int.neg_neg]]
    exact Int.bmod_eq_of_le (by omega) (by omega)
  refine ⟨e, ?_⟩
  have e3 : (y / 100 * 100).toInt = -((-y.toInt) / 100) * 100 := by
    rw [Int64.toInt_mul, e, e2]
    exact Int.bmod_eq_of_le (by omega) (by omega)
  have e4 : (y / 100 * 100 - y).toInt = (-y.toInt) % 100 := by
    rw [Int64.toInt_sub, e3, Int.bmod_eq_of_le (by omega) (by omega)]
    omega
  rw [Int64.toInt_toInt32, e4]
  exact Int.bmod_eq_of_le (by omega) (by omega)
theorem mq32 {y : Int32} (h : y.toInt ≤ 0) : (y / 100).toInt = -((-y.toInt) / 100) ∧ (y / 100 * 100 - y).toInt = (-y.toInt) % 100 := by
  have a := y.le_toInt
  have e2 : (100 : Int32).toInt = 100 := by decide
  have e : (y / 100).toInt = -((-y.toInt) / 100) := by
    rw [Int32.toInt_div, e2, show y.toInt.tdiv 100 = -((-y.toInt) / 100) by
      rw [← Int.tdiv_eq_ediv_of_nonneg (show 0 ≤ -y.toInt by omega), Int.neg_tdiv, Int.neg_neg]]
    exact Int.bmod_eq_of_le (by omega) (by omega)
  refine ⟨e, ?_⟩
  have e3 : (y / 100 * 100).toInt = -((-y.toInt) / 100) * 100 := by
    rw [Int32.toInt_mul, e, e2]
    exact Int.bmod_eq_of_le (by omega) (by omega)
  rw [Int32.toInt_sub, e3, Int.bmod_eq_of_le (by omega) (by omega)]
  omega
theorem mten {e : Nat} {z : Int} (h : z < ((10 ^ e : Nat) : Int)) (h2 : 100 ≤ z) : 3 ≤ e ∧ z / 100 < ((10 ^ (e - 2) : Nat) : Int) := by
  have h3 : 3 ≤ e := by
    rcases Nat.lt_or_ge e 3 with q | q
    · have h5 : (10 ^ e : Nat) ≤ 10 ^ 2 := Nat.pow_le_pow_right (by decide) (by omega)
      omega
    · exact q
  refine ⟨h3, ?_⟩
  have h6 : (10 ^ e : Nat) = 10 ^ (e - 2) * 100 := by
    rw [show (100 : Nat) = 10 ^ 2 by decide, ← Nat.pow_add]
    congr 1
    omega
  rw [h6] at h
  omega
set_option maxHeartbeats 1000000 in
theorem c_getChars (cs : ClassId × ClassId × ClassId) (cB : ClassId) (b v : Nat) (ml : Int32) (n m : Nat) (f : Nat → Int32) (rest : va_W) (hf : sb_Fit f) (h3 : m ≤ 64) (x : Int64) (base d sg : Nat) (h1 : 1 ≤ d) (hx : x.toInt.natAbs < 10 ^ d) (hs : sg = if x.toInt < 0 then 1 else 0) (hm : base + sg + d ≤ m) : mCt (mTb4 cs cB) yJ13_getChars_11360 cJ13_getChars_11360 11 (some .int) ⟨0, 0, 0, 0⟩ [.long x, .int (nI (base + sg + d)), .ref v] (mSb b v ml n cB m f rest) (fun v9 ws' => (∃ r : Int32, v9 = some (.int r)) ∧ ∃ f' : Nat → Int32, sb_Fit f' ∧ ws' = mSb b v ml n cB m f' rest) mNo := by
  refine mCt.of (by decide +kernel) (Nat.le_of_ble_eq_true rfl) (fun X hX hE => ?_)
  replace hX : mOK X RJ13 cJ13_getChars_11360 11 ⟨0, 0, 0, 0⟩ [] (mTb4 cs cB) := hX
  have hs2 : sg ≤ 1 := by rw [hs]; split <;> omega
  have fin : ∀ (c : Nat) (f : Nat → Int32), sg ≤ c → c ≤ m → sb_Fit f → mV X 178 [(3, some (.ref v)), (7, some (.int (nI c))), (8, some (.int (nI sg)))] [] (mSb b v ml n cB m f rest) 0 0 := by
    intro c f g1 g2 hf
    refine r_iload hX dJ13_getChars_11360_178 rfl ?_
    refine r_if_eq (tgt := 192) hX dJ13_getChars_11360_180 (by decide) (fun c9 => ?_) (fun c9 => ?_)
    · refine r_iload hX dJ13_getChars_11360_192 rfl ?_
      exact r_iret hX hE dJ13_getChars_11360_194 (Nat.le_of_ble_eq_true rfl) (Nat.le_of_ble_eq_true rfl) ⟨⟨_, rfl⟩, f, hf, rfl⟩
    · have g0 : 1 ≤ sg := by
        rcases Nat.eq_zero_or_pos sg with q | q
        · rw [q] at c9
          exact absurd rfl c9
        · exact q
      refine r_aload_n hX dJ13_getChars_11360_183 rfl rfl ?_
      refine r_iinc hX dJ13_getChars_11360_184 rfl (by decide) rfl ?_
      rw [mpred (show 1 ≤ c by omega)]
      refine r_iload hX dJ13_getChars_11360_187 rfl ?_
      refine r_bipush (v := 45) hX dJ13_getChars_11360_189 (by decide) ?_
      refine r_bast hX 1 3 rfl rfl (vp_in_nI (n := c - 1) (N := m) (by omega) (by omega)) dJ13_getChars_11360_191 ?_
      refine r_iload hX dJ13_getChars_11360_192 rfl ?_
      exact r_iret hX hE dJ13_getChars_11360_194 (Nat.le_of_ble_eq_true rfl) (Nat.le_of_ble_eq_true rfl) ⟨⟨_, rfl⟩, _, sb_fitU hf (pk_fb _), rfl⟩
  have L2 : ∀ (g e : Nat) (w : Int32) (f : Nat → Int32), e < g → 1 ≤ e → base + sg + e ≤ m → w.toInt ≤ 0 → -w.toInt < ((10 ^ e : Nat) : Int) → sb_Fit f → mV X 86 [(3, some (.ref v)), (7, some (.int (nI (base + sg + e)))), (8, some (.int (nI sg))), (10, some (.int w))] [] (mSb b v ml n cB m f rest) 0 0 := by
    intro g
    induction g with
    | zero => intro e; omega
    | succ g ih =>
      intro e w f hg he hc hw hw2 hf
      have e100 : (-100 : Int32).toInt = -100 := by decide
      have e9 : (-9 : Int32).toInt = -9 := by decide
      refine r_iload hX dJ13_getChars_11360_86 rfl ?_
      refine r_bipush (v := -100) hX dJ13_getChars_11360_88 (by decide) ?_
      refine r_icmp_gt (tgt := 143) hX dJ13_getChars_11360_90 (by decide) (fun c9 => ?_) (fun c9 => ?_)
      · have k1 : -100 < w.toInt := by
          have := Int32.lt_iff_toInt_lt.mp c9
          omega
        have kn : (-w).toInt = -w.toInt := by
          rw [Int32.toInt_neg]
          exact Int.bmod_eq_of_le (by omega) (by omega)
        have kin : vp_in (-w) 100 := vp_in_iff.mpr (by rw [kn]; omega)
        refine r_aload_n hX dJ13_getChars_11360_143 rfl rfl ?_
        refine r_iinc hX dJ13_getChars_11360_144 rfl (by decide) rfl ?_
        rw [mpred (show 1 ≤ (base + sg + e) by omega)]
        refine r_iload hX dJ13_getChars_11360_147 rfl ?_
        refine r_ones hX jfl_J13_133 dJ13_getChars_11360_149 (fun t ht => ?_)
        refine r_iload hX dJ13_getChars_11360_152 rfl ?_
        refine r_ineg hX dJ13_getChars_11360_154 ?_
        refine r_tb hX ht kin dJ13_getChars_11360_155 ?_
        refine r_bast hX 1 3 rfl rfl (vp_in_nI (n := (base + sg + e) - 1) (N := m) (by omega) (by omega)) dJ13_getChars_11360_156 ?_
        refine r_iload hX dJ13_getChars_11360_157 rfl ?_
        refine r_bipush (v := -9) hX dJ13_getChars_11360_159 (by decide) ?_
        refine r_icmp_ge (tgt := 178) hX dJ13_getChars_11360_161 (by decide) (fun c8 => ?_) (fun c8 => ?_)
        · exact r_loc (k' := 0) (n' := 0) (by exact ⟨rfl, rfl, rfl, trivial⟩) (Nat.le_of_ble_eq_true rfl) (Nat.le_of_ble_eq_true rfl) (fin (base + sg + e - 1) _ (by omega) (by omega) (sb_fitU hf (pk_fb _)))
        · have k2 : w.toInt < -9 := by
            have := Int32.lt_iff_toInt_lt.mp (Int32.not_le.mp c8)
            omega
          have k3 : 2 ≤ e := by
            rcases Nat.lt_or_ge e 2 with q | q
            · have q1 : e = 1 := by omega
              rw [q1] at hw2
              omega
            · exact q
          refine r_aload_n hX dJ13_getChars_11360_164 rfl rfl ?_
          refine r_iinc hX dJ13_getChars_11360_165 rfl (by decide) rfl ?_
          rw [mpred (show 1 ≤ (base + sg + e - 1) by omega)]
          refine r_iload hX dJ13_getChars_11360_168 rfl ?_
          refine r_tens hX jfl_J13_137 dJ13_getChars_11360_170 (fun t ht => ?_)
          refine r_iload hX dJ13_getChars_11360_173 rfl ?_
          refine r_ineg hX dJ13_getChars_11360_175 ?_
          refine r_tb hX ht kin dJ13_getChars_11360_176 ?_
          refine r_bast hX 1 3 rfl rfl (vp_in_nI (n := (base + sg + e - 1) - 1) (N := m) (by omega) (by omega)) dJ13_getChars_11360_177 ?_
          exact r_loc (k' := 0) (n' := 0) (by exact ⟨rfl, rfl, rfl, trivial⟩) (Nat.le_of_ble_eq_true rfl) (Nat.le_of_ble_eq_true rfl) (fin (base + sg + e - 1 - 1) _ (by omega) (by omega) (sb_fitU (sb_fitU hf (pk_fb _)) (pk_fb _)))
      · have k1 : w.toInt ≤ -100 := by
          have := Int32.le_iff_toInt_le.mp (Int32.not_lt.mp c9)
          omega
        obtain ⟨q1, q2⟩ := mq32 hw
        obtain ⟨q3, q4⟩ := mten hw2 (by omega)
        have kin : vp_in (w / 100 * 100 - w) 100 := vp_in_iff.mpr (by rw [q2]; omega)
        refine r_iload hX dJ13_getChars_11360_93 rfl ?_
        refine r_bipush (v := 100) hX dJ13_getChars_11360_95 (by decide) ?_
        refine r_idiv hX dJ13_getChars_11360_97 (by decide) ?_
        refine r_istore hX dJ13_getChars_11360_98 (by decide) rfl ?_
        refine r_iload hX dJ13_getChars_11360_100 rfl ?_
        refine r_bipush (v := 100) hX dJ13_getChars_11360_102 (by decide) ?_
        refine r_imul hX dJ13_getChars_11360_104 ?_
        refine r_iload hX dJ13_getChars_11360_105 rfl ?_
        refine r_isub hX dJ13_getChars_11360_107 ?_
        refine r_istore hX dJ13_getChars_11360_108 (by decide) rfl ?_
        refine r_iload hX dJ13_getChars_11360_110 rfl ?_
        refine r_istore hX dJ13_getChars_11360_112 (by decide) rfl ?_
        refine r_aload_n hX dJ13_getChars_11360_114 rfl rfl ?_
        refine r_iinc hX dJ13_getChars_11360_115 rfl (by decide) rfl ?_
        rw [mpred (show 1 ≤ (base + sg + e) by omega)]
        refine r_iload hX dJ13_getChars_11360_118 rfl ?_
        refine r_ones hX jfl_J13_133 dJ13_getChars_11360_120 (fun t ht => ?_)
        refine r_iload hX dJ13_getChars_11360_123 rfl ?_
        refine r_tb hX ht kin dJ13_getChars_11360_125 ?_
        refine r_bast hX 1 3 rfl rfl (vp_in_nI (n := (base + sg + e) - 1) (N := m) (by omega) (by omega)) dJ13_getChars_11360_126 ?_
        refine r_aload_n hX dJ13_getChars_11360_127 rfl rfl ?_
        refine r_iinc hX dJ13_getChars_11360_128 rfl (by decide) rfl ?_
        rw [mpred (show 1 ≤ (base + sg + e - 1) by omega)]
        refine r_iload hX dJ13_getChars_11360_131 rfl ?_
        refine r_tens hX jfl_J13_137 dJ13_getChars_11360_133 (fun t ht => ?_)
        refine r_iload hX dJ13_getChars_11360_136 rfl ?_
        refine r_tb hX ht kin dJ13_getChars_11360_138 ?_
        refine r_bast hX 1 3 rfl rfl (vp_in_nI (n := (base + sg + e - 1) - 1) (N := m) (by omega) (by omega)) dJ13_getChars_11360_139 ?_
        refine r_goto (tgt := 86) hX dJ13_getChars_11360_140 (by decide) ?_
        exact r_loc (k' := 0) (n' := 0) (by exact ⟨rfl, congrArg (fun z => some (Value.int (nI z))) (show base + sg + e - 1 - 1 = base + sg + (e - 2) by omega), rfl, rfl, trivial⟩) (Nat.le_of_ble_eq_true rfl) (Nat.le_of_ble_eq_true rfl) (ih (e - 2) _ _ (by omega) (by omega) (by omega) (by rw [q1]; omega) (by rw [q1]; omega) (sb_fitU (sb_fitU hf (pk_fb _)) (pk_fb _)))
  have L1 : ∀ (g e : Nat) (y : Int64) (f : Nat → Int32), e < g → 1 ≤ e → base + sg + e ≤ m → y.toInt ≤ 0 → -y.toInt < ((10 ^ e : Nat) : Int) → sb_Fit f → mV X 24 [(0, some (.long y)), (3, some (.ref v)), (7, some (.int (nI (base + sg + e)))), (8, some (.int (nI sg)))] [] (mSb b v ml n cB m f rest) 0 0 := by
    intro g
    induction g with
    | zero => intro e; omega
    | succ g ih =>
      intro e y f hg he hc hw hw2 hf
      have eM : (-2147483648 : Int64).toInt = -2147483648 := by decide
      refine r_lload_n hX dJ13_getChars_11360_24 rfl rfl ?_
      refine r_ldc2 hX jc_J13_129 dJ13_getChars_11360_25 ?_
      refine r_lcmp hX dJ13_getChars_11360_28 ?_
      refine r_if_gt (tgt := 82) hX dJ13_getChars_11360_29 (by decide) (fun c9 => ?_) (fun c9 => ?_)
      · have k1 : -2147483648 < y.toInt := by
          have := Int64.lt_iff_toInt_lt.mp ((lg_cmp_gt _ _).mp c9)
          omega
        have k2 : y.toInt32.toInt = y.toInt := by
          rw [Int64.toInt_toInt32]
          exact Int.bmod_eq_of_le (by omega) (by omega)
        refine r_lload_n hX dJ13_getChars_11360_82 rfl rfl ?_
        refine r_l2i hX dJ13_getChars_11360_83 ?_
        refine r_istore hX dJ13_getChars_11360_84 (by decide) rfl ?_
        exact r_loc (k' := 0) (n' := 0) (by exact ⟨rfl, rfl, rfl, rfl, trivial⟩) (Nat.le_of_ble_eq_true rfl) (Nat.le_of_ble_eq_true rfl) (L2 (e + 1) e _ f (by omega) he hc (by rw [k2]; exact hw) (by rw [k2]; exact hw2) hf)
      · have k1 : y.toInt ≤ -2147483648 := by
          have := Int64.le_iff_toInt_le.mp (Int64.not_lt.mp (fun q => c9 ((lg_cmp_gt _ _).mpr q)))
          omega
        obtain ⟨q1, q2⟩ := mq64 hw
        obtain ⟨q3, q4⟩ := mten hw2 (by omega)
        have kin : vp_in ((y / 100 * 100 - y).toInt32) 100 := vp_in_iff.mpr (by rw [q2]; omega)
        refine r_lload_n hX dJ13_getChars_11360_32 rfl rfl ?_
        refine r_ldc2 hX jc_J13_131 dJ13_getChars_11360_33 ?_
        refine r_ldiv hX dJ13_getChars_11360_36 (by decide) ?_
        refine r_lstore hX dJ13_getChars_11360_37 (by decide) rfl ?_
        refine r_lload hX dJ13_getChars_11360_39 rfl ?_
        refine r_ldc2 hX jc_J13_131 dJ13_getChars_11360_41 ?_
        refine r_lmul hX dJ13_getChars_11360_44 ?_
        refine r_lload_n hX dJ13_getChars_11360_45 rfl rfl ?_
        refine r_lsub hX dJ13_getChars_11360_46 ?_
        refine r_l2i hX dJ13_getChars_11360_47 ?_
        refine r_istore hX dJ13_getChars_11360_48 (by decide) rfl ?_
        refine r_lload hX dJ13_getChars_11360_50 rfl ?_
        refine r_lstore_n hX dJ13_getChars_11360_52 rfl (by decide) rfl ?_
        refine r_aload_n hX dJ13_getChars_11360_53 rfl rfl ?_
        refine r_iinc hX dJ13_getChars_11360_54 rfl (by decide) rfl ?_
        rw [mpred (show 1 ≤ (base + sg + e) by omega)]
        refine r_iload hX dJ13_getChars_11360_57 rfl ?_
        refine r_ones hX jfl_J13_133 dJ13_getChars_11360_59 (fun t ht => ?_)
        refine r_iload hX dJ13_getChars_11360_62 rfl ?_
        refine r_tb hX ht kin dJ13_getChars_11360_64 ?_
        refine r_bast hX 1 3 rfl rfl (vp_in_nI (n := (base + sg + e) - 1) (N := m) (by omega) (by omega)) dJ13_getChars_11360_65 ?_
        refine r_aload_n hX dJ13_getChars_11360_66 rfl rfl ?_
        refine r_iinc hX dJ13_getChars_11360_67 rfl (by decide) rfl ?_
        rw [mpred (show 1 ≤ (base + sg + e - 1) by omega)]
        refine r_iload hX dJ13_getChars_11360_70 rfl ?_
        refine r_tens hX jfl_J13_137 dJ13_getChars_11360_72 (fun t ht => ?_)
        refine r_iload hX dJ13_getChars_11360_75 rfl ?_
        refine r_tb hX ht kin dJ13_getChars_11360_77 ?_
        refine r_bast hX 1 3 rfl rfl (vp_in_nI (n := (base + sg + e - 1) - 1) (N := m) (by omega) (by omega)) dJ13_getChars_11360_78 ?_
        refine r_goto (tgt := 24) hX dJ13_getChars_11360_79 (by decide) ?_
        exact r_loc (k' := 0) (n' := 0) (by exact ⟨rfl, rfl, congrArg (fun z => some (Value.int (nI z))) (show base + sg + e - 1 - 1 = base + sg + (e - 2) by omega), rfl, trivial⟩) (Nat.le_of_ble_eq_true rfl) (Nat.le_of_ble_eq_true rfl) (ih (e - 2) _ _ (by omega) (by omega) (by omega) (by rw [q1]; omega) (by rw [q1]; omega) (sb_fitU (sb_fitU hf (pk_fb _)) (pk_fb _)))
  refine r_iload_n hX dJ13_getChars_11360_0 rfl rfl ?_
  refine r_istore hX dJ13_getChars_11360_1 (by decide) rfl ?_
  refine r_lload_n hX dJ13_getChars_11360_3 rfl rfl ?_
  refine r_lconst (v := 0) hX dJ13_getChars_11360_4 (by decide) ?_
  refine r_lcmp hX dJ13_getChars_11360_5 ?_
  refine r_if_ge (tgt := 13) hX dJ13_getChars_11360_6 (by decide) (fun c9 => ?_) (fun c9 => ?_)
  · have h0 : 0 ≤ x.toInt := by simpa using Int64.le_iff_toInt_le.mp ((lg_cmp_ge _ _).mp c9)
    have hsg : sg = 0 := by rw [hs]; exact if_neg (by omega)
    have hb2 := Int64.toInt_lt x
    have kn : (-x).toInt = -x.toInt := by
      rw [Int64.toInt_neg]
      exact Int.bmod_eq_of_le (by omega) (by omega)
    refine r_iconst (v := 0) hX dJ13_getChars_11360_13 (by decide) ?_
    refine r_istore hX dJ13_getChars_11360_14 (by decide) rfl ?_
    refine r_iload hX dJ13_getChars_11360_16 rfl ?_
    refine r_if_ne (tgt := 24) hX dJ13_getChars_11360_18 (by decide) (fun c8 => absurd rfl c8) (fun _ => ?_)
    refine r_lload_n hX dJ13_getChars_11360_21 rfl rfl ?_
    refine r_lneg hX dJ13_getChars_11360_22 ?_
    refine r_lstore_n hX dJ13_getChars_11360_23 rfl (by decide) rfl ?_
    exact r_loc (k' := 0) (n' := 0) (by exact ⟨rfl, rfl, rfl, congrArg (fun z => some (Value.int (nI z))) hsg.symm, trivial⟩) (Nat.le_of_ble_eq_true rfl) (Nat.le_of_ble_eq_true rfl) (L1 (d + 1) d _ f (by omega) h1 hm (by rw [kn]; omega) (by rw [kn]; omega) hf)
  · have h0 : x.toInt < 0 := by
      have := Int64.lt_iff_toInt_lt.mp (Int64.not_le.mp (fun q => c9 ((lg_cmp_ge _ _).mpr q)))
      simpa using this
    have hsg : sg = 1 := by rw [hs]; exact if_pos h0
    refine r_iconst (v := 1) hX dJ13_getChars_11360_9 (by decide) ?_
    refine r_goto (tgt := 14) hX dJ13_getChars_11360_10 (by decide) ?_
    refine r_istore hX dJ13_getChars_11360_14 (by decide) rfl ?_
    refine r_iload hX dJ13_getChars_11360_16 rfl ?_
    refine r_if_ne (tgt := 24) hX dJ13_getChars_11360_18 (by decide) (fun _ => ?_) (fun c8 => absurd c8 (by decide))
    exact r_loc (k' := 0) (n' := 0) (by exact ⟨rfl, rfl, rfl, congrArg (fun z => some (Value.int (nI z))) hsg.symm, trivial⟩) (Nat.le_of_ble_eq_true rfl) (Nat.le_of_ble_eq_true rfl) (L1 (d + 1) d _ f (by omega) h1 hm (by omega) (by omega) hf)

