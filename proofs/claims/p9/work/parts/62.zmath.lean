/-! MATH, exact. (Own work.) -/
section ZR2
variable {X : mC} {own : String} {cc : ByteArray} {nL : Nat} {R : Room} {hh : List (Nat × Nat × Nat × Nat)} {tys : List (ClassId × FieldType)} {pc : Nat} {lv : List (Nat × Option Value)} {st : List Value} {ws : va_W} {k n : Nat}
theorem r_iincZ {i : Nat} {z x y : Int} (hX : mOK X own cc nL R hh tys) (hd : decode cc pc = .ok (.iinc i z, 3)) (hg : lget lv i = some (.int (iZ x))) (hn : i < nL) (hp : lgp lv i = true) (hy : x + z = y) (kk : mV X (pc + 3) ((i, some (.int (iZ y))) :: lv) st ws k n) : mV X pc lv st ws k n := r_iinc hX hd hg hn hp (by rw [← hy, ← iZ_add] at kk; exact kk)
theorem r_tableInZ {a z : Int} {dflt lo hi off : Int} {offs : Array Int} {len tgt : Nat} (hX : mOK X own cc nL R hh tys) (hd : decode cc pc = .ok (.tableswitch dflt lo hi offs, len)) (ha : a = z) (hz : -2147483648 ≤ z ∧ z ≤ 2147483647) (h1 : ¬ z < lo) (h2 : ¬ hi < z) (ho : offs[(z - lo).toNat]? = some off) (ht : (pc : Int) + off = (tgt : Int)) (kk : mV X tgt lv st ws k n) : mV X pc lv (.int (iZ a) :: st) ws k n := by
  subst ha
  have e := iZ_toInt hz.1 (show a < 2147483648 by omega)
  exact r_tableIn hX hd (by rw [e]; exact h1) (by rw [e]; exact h2) (by rw [e]; exact ho) ht kk
theorem r_tableOutZ {a : Int} {dflt lo hi : Int} {offs : Array Int} {len tgt : Nat} (hX : mOK X own cc nL R hh tys) (hd : decode cc pc = .ok (.tableswitch dflt lo hi offs, len)) (hz : -2147483648 ≤ a ∧ a ≤ 2147483647) (h : a < lo ∨ hi < a) (ht : (pc : Int) + dflt = (tgt : Int)) (kk : mV X tgt lv st ws k n) : mV X pc lv (.int (iZ a) :: st) ws k n := by
  have e := iZ_toInt hz.1 (show a < 2147483648 by omega)
  exact r_tableOut hX hd (by rw [e]; exact h) ht kk
end ZR2
theorem lx_msb (z : Int64) : z.toInt < 0 ↔ z.toBitVec.msb = true := by
  rw [BitVec.msb_eq_toInt]
  simp
theorem lx_sign {x y : Int64} (hy : 0 ≤ y.toInt) : (x ^^^ y).toInt < 0 ↔ x.toInt < 0 := by
  have hm : y.toBitVec.msb = false := by
    cases h : y.toBitVec.msb
    · rfl
    · exact absurd ((lx_msb y).mpr h) (by omega)
  rw [lx_msb, lx_msb, Int64.toBitVec_xor, BitVec.msb_xor, hm]
  simp
theorem ix_msb (z : Int32) : z.toInt < 0 ↔ z.toBitVec.msb = true := by
  rw [BitVec.msb_eq_toInt]
  simp
theorem ix_sign {x y : Int32} (hy : 0 ≤ y.toInt) : (x ^^^ y).toInt < 0 ↔ x.toInt < 0 := by
  have hm : y.toBitVec.msb = false := by
    cases h : y.toBitVec.msb
    · rfl
    · exact absurd ((ix_msb y).mpr h) (by omega)
  rw [ix_msb, ix_msb, Int32.toBitVec_xor, BitVec.msb_xor, hm]
  simp
/-- the divisors that are met -/
def zD (b : Int) : Prop := b = 86400 ∨ b = 1000000000 ∨ b = 1000000 ∨ b = 12 ∨ b = 7
theorem zD_b {b : Int} (h : zD b) : 1 ≤ b ∧ b ≤ 1000000000 := by unfold zD at h; omega
theorem tdiv_neg {a b : Int} (h : a < 0) : Int.tdiv a b = -((-a) / b) := by
  have e : a = -(-a) := by omega
  rw [e, Int.neg_tdiv, Int.tdiv_eq_ediv_of_nonneg (by omega)]
  simp
theorem lZ_tdiv {a b : Int} (ha : -9223372036854775807 ≤ a ∧ a ≤ 9223372036854775807) (hb : 1 ≤ b ∧ b ≤ 9223372036854775807) : lZ a / lZ b = lZ (Int.tdiv a b) := by
  rcases Int.lt_or_le a 0 with h | h
  · apply Int64.toInt_inj.mp
    have hm : lZ a ≠ Int64.minValue := by
      intro h
      have h5 := congrArg Int64.toInt h
      rw [lZ_toInt (by omega) (by omega)] at h5
      have h6 : Int64.minValue.toInt = -9223372036854775808 := rfl
      omega
    have hq : 0 ≤ (-a) / b ∧ (-a) / b ≤ -a := ⟨Int.ediv_nonneg (by omega) (by omega), Int.ediv_le_self b (by omega)⟩
    rw [Int64.toInt_div_of_ne_left _ _ hm, lZ_toInt (by omega) (by omega), lZ_toInt (by omega) (by omega), tdiv_neg h, lZ_toInt (by omega) (by omega)]
  · rw [lZ_div h (by omega) hb.1 (by omega), Int.tdiv_eq_ediv_of_nonneg h]
theorem iZ_tdiv {a b : Int} (ha : -2147483647 ≤ a ∧ a ≤ 2147483647) (hb : 1 ≤ b ∧ b ≤ 2147483647) : iZ a / iZ b = iZ (Int.tdiv a b) := by
  rcases Int.lt_or_le a 0 with h | h
  · apply Int32.toInt_inj.mp
    have hm : iZ a ≠ Int32.minValue := by
      intro h
      have h5 := congrArg Int32.toInt h
      rw [iZ_toInt (by omega) (by omega)] at h5
      have h6 : Int32.minValue.toInt = -2147483648 := rfl
      omega
    have hq : 0 ≤ (-a) / b ∧ (-a) / b ≤ -a := ⟨Int.ediv_nonneg (by omega) (by omega), Int.ediv_le_self b (by omega)⟩
    rw [Int32.toInt_div_of_ne_left _ _ hm, iZ_toInt (by omega) (by omega), iZ_toInt (by omega) (by omega), tdiv_neg h, iZ_toInt (by omega) (by omega)]
  · rw [iZ_div h (by omega) hb.1 (by omega), Int.tdiv_eq_ediv_of_nonneg h]
theorem z_J9_floorDiv (tys : List (ClassId × FieldType)) (ws : va_W) (a b : Int) (ha : -9223372036854775807 ≤ a ∧ a ≤ 9223372036854775807) (hb : zD b) : mCt tys yJ9_floorDiv_f86c9 cJ9_floorDiv_f86c9 6 (some .long) ⟨0, 0, 0, 0⟩ [.long (lZ a), .long (lZ b)] ws (fun v ws' => v = some (.long (lZ (a / b))) ∧ ws' = ws) mNo := by
  refine mCt.of (by decide +kernel) (Nat.le_of_ble_eq_true rfl) (fun X hX hE => ?_)
  replace hX : mOK X RJ9 cJ9_floorDiv_f86c9 6 ⟨0, 0, 0, 0⟩ [] tys := hX
  have hb2 := zD_b hb
  have hpos : 0 ≤ (lZ b).toInt := by rw [lZ_toInt (by omega) (by omega)]; omega
  have hs : (lZ a ^^^ lZ b).toInt < 0 ↔ a < 0 := by rw [lx_sign hpos, lZ_toInt (by omega) (by omega)]
  refine r_lload_n hX dJ9_floorDiv_f86c9_0 rfl rfl ?_
  refine r_lload_n hX dJ9_floorDiv_f86c9_1 rfl rfl ?_
  refine r_ldiv hX dJ9_floorDiv_f86c9_2 (lZ_ne0 hb2.1 (by omega)) ?_
  rw [lZ_tdiv ha ⟨hb2.1, by omega⟩]
  refine r_lstore hX dJ9_floorDiv_f86c9_3 (by decide) rfl ?_
  refine r_lload_n hX dJ9_floorDiv_f86c9_5 rfl rfl ?_
  refine r_lload_n hX dJ9_floorDiv_f86c9_6 rfl rfl ?_
  refine r_lxor hX dJ9_floorDiv_f86c9_7 ?_
  refine r_lconst (v := 0) hX dJ9_floorDiv_f86c9_8 (by decide) ?_
  refine r_lcmp hX dJ9_floorDiv_f86c9_9 ?_
  refine r_if_ge (tgt := 27) hX dJ9_floorDiv_f86c9_10 (by decide) (fun c => ?_) (fun c => ?_)
  · have h0 : 0 ≤ a := by
      have := Int64.le_iff_toInt_le.mp ((lg_cmp_ge _ _).mp c)
      have h1 : (0 : Int64).toInt = 0 := rfl
      rcases Int.lt_or_le a 0 with q | q
      · have := hs.mpr q; omega
      · exact q
    refine r_lload hX dJ9_floorDiv_f86c9_27 rfl ?_
    exact r_lret hX hE dJ9_floorDiv_f86c9_29 (Nat.le_of_ble_eq_true rfl) (Nat.le_of_ble_eq_true rfl) ⟨zl (Int.tdiv_eq_ediv_of_nonneg h0), rfl⟩
  · have h0 : a < 0 := by
      refine hs.mp ?_
      have h1 : (0 : Int64).toInt = 0 := rfl
      rcases Int.lt_or_le (lZ a ^^^ lZ b).toInt 0 with q | q
      · exact q
      · exact absurd ((lg_cmp_ge _ _).mpr (Int64.le_iff_toInt_le.mpr (by rw [h1]; exact q))) c
    have ht := tdiv_neg (b := b) h0
    have hq : 0 ≤ (-a) / b ∧ (-a) / b ≤ -a := ⟨Int.ediv_nonneg (by omega) (by omega), Int.ediv_le_self b (by omega)⟩
    have hm : -9223372036854775808 ≤ Int.tdiv a b * b ∧ Int.tdiv a b * b ≤ 9223372036854775807 := by
      rw [ht]
      rcases hb with rfl | rfl | rfl | rfl | rfl <;> omega
    refine r_lload hX dJ9_floorDiv_f86c9_13 rfl ?_
    refine r_lload_n hX dJ9_floorDiv_f86c9_15 rfl rfl ?_
    refine r_lmulZ hX dJ9_floorDiv_f86c9_16 ?_
    refine r_lload_n hX dJ9_floorDiv_f86c9_17 rfl rfl ?_
    refine r_lif_eqZ (tgt := 27) hX dJ9_floorDiv_f86c9_18 dJ9_floorDiv_f86c9_19 (by decide) hm (by omega) (fun c2 => ?_) (fun c2 => ?_)
    · refine r_lload hX dJ9_floorDiv_f86c9_27 rfl ?_
      refine r_lret hX hE dJ9_floorDiv_f86c9_29 (Nat.le_of_ble_eq_true rfl) (Nat.le_of_ble_eq_true rfl) ⟨zl ?_, rfl⟩
      rw [ht] at c2 ⊢
      rcases hb with rfl | rfl | rfl | rfl | rfl <;> omega
    · refine r_lload hX dJ9_floorDiv_f86c9_22 rfl ?_
      refine r_lconstZ (v := 1) hX dJ9_floorDiv_f86c9_24 rfl ?_
      refine r_lsubZ hX dJ9_floorDiv_f86c9_25 ?_
      refine r_lret hX hE dJ9_floorDiv_f86c9_26 (Nat.le_of_ble_eq_true rfl) (Nat.le_of_ble_eq_true rfl) ⟨zl ?_, rfl⟩
      rw [ht] at c2 ⊢
      rcases hb with rfl | rfl | rfl | rfl | rfl <;> omega
theorem z_J9_floorMod (tys : List (ClassId × FieldType)) (ws : va_W) (a b : Int) (ha : -9223372036854775807 ≤ a ∧ a ≤ 9223372036854775807) (hb : zD b) : mCt tys yJ9_floorMod_f86c9 cJ9_floorMod_f86c9 6 (some .long) ⟨0, 0, 0, 0⟩ [.long (lZ a), .long (lZ b)] ws (fun v ws' => v = some (.long (lZ (a % b))) ∧ ws' = ws) mNo := by
  refine mCt.of (by decide +kernel) (Nat.le_of_ble_eq_true rfl) (fun X hX hE => ?_)
  replace hX : mOK X RJ9 cJ9_floorMod_f86c9 6 ⟨0, 0, 0, 0⟩ [] tys := hX
  have hb2 := zD_b hb
  have hpos : 0 ≤ (lZ b).toInt := by rw [lZ_toInt (by omega) (by omega)]; omega
  have hs : (lZ a ^^^ lZ b).toInt < 0 ↔ a < 0 := by rw [lx_sign hpos, lZ_toInt (by omega) (by omega)]
  refine r_lload_n hX dJ9_floorMod_f86c9_0 rfl rfl ?_
  refine r_lload_n hX dJ9_floorMod_f86c9_1 rfl rfl ?_
  refine r_lrem hX dJ9_floorMod_f86c9_2 (lZ_ne0 hb2.1 (by omega)) ?_
  rw [lZ_tdiv ha ⟨hb2.1, by omega⟩, lZ_mul, lZ_sub]
  refine r_lstore hX dJ9_floorMod_f86c9_3 (by decide) rfl ?_
  refine r_lload_n hX dJ9_floorMod_f86c9_5 rfl rfl ?_
  refine r_lload_n hX dJ9_floorMod_f86c9_6 rfl rfl ?_
  refine r_lxor hX dJ9_floorMod_f86c9_7 ?_
  refine r_lconst (v := 0) hX dJ9_floorMod_f86c9_8 (by decide) ?_
  refine r_lcmp hX dJ9_floorMod_f86c9_9 ?_
  refine r_if_ge (tgt := 25) hX dJ9_floorMod_f86c9_10 (by decide) (fun c => ?_) (fun c => ?_)
  · have h0 : 0 ≤ a := by
      have := Int64.le_iff_toInt_le.mp ((lg_cmp_ge _ _).mp c)
      have h1 : (0 : Int64).toInt = 0 := rfl
      rcases Int.lt_or_le a 0 with q | q
      · have := hs.mpr q; omega
      · exact q
    refine r_lload hX dJ9_floorMod_f86c9_25 rfl ?_
    refine r_lret hX hE dJ9_floorMod_f86c9_27 (Nat.le_of_ble_eq_true rfl) (Nat.le_of_ble_eq_true rfl) ⟨zl ?_, rfl⟩
    rw [Int.tdiv_eq_ediv_of_nonneg h0]
    rcases hb with rfl | rfl | rfl | rfl | rfl <;> omega
  · have h0 : a < 0 := by
      refine hs.mp ?_
      have h1 : (0 : Int64).toInt = 0 := rfl
      rcases Int.lt_or_le (lZ a ^^^ lZ b).toInt 0 with q | q
      · exact q
      · exact absurd ((lg_cmp_ge _ _).mpr (Int64.le_iff_toInt_le.mpr (by rw [h1]; exact q))) c
    have ht := tdiv_neg (b := b) h0
    have hm : -1000000000 ≤ a - Int.tdiv a b * b ∧ a - Int.tdiv a b * b ≤ 0 := by
      rw [ht]
      rcases hb with rfl | rfl | rfl | rfl | rfl <;> omega
    refine r_lload hX dJ9_floorMod_f86c9_13 rfl ?_
    refine r_lconstZ (v := 0) hX dJ9_floorMod_f86c9_15 rfl ?_
    refine r_lif_eqZ (tgt := 25) hX dJ9_floorMod_f86c9_16 dJ9_floorMod_f86c9_17 (by decide) (by omega) (by omega) (fun c2 => ?_) (fun c2 => ?_)
    · refine r_lload hX dJ9_floorMod_f86c9_25 rfl ?_
      refine r_lret hX hE dJ9_floorMod_f86c9_27 (Nat.le_of_ble_eq_true rfl) (Nat.le_of_ble_eq_true rfl) ⟨zl ?_, rfl⟩
      rw [ht] at c2 ⊢
      rcases hb with rfl | rfl | rfl | rfl | rfl <;> omega
    · refine r_lload hX dJ9_floorMod_f86c9_20 rfl ?_
      refine r_lload_n hX dJ9_floorMod_f86c9_22 rfl rfl ?_
      refine r_laddZ hX dJ9_floorMod_f86c9_23 ?_
      refine r_lret hX hE dJ9_floorMod_f86c9_24 (Nat.le_of_ble_eq_true rfl) (Nat.le_of_ble_eq_true rfl) ⟨zl ?_, rfl⟩
      rw [ht] at c2 ⊢
      rcases hb with rfl | rfl | rfl | rfl | rfl <;> omega
theorem z_J9_floorModI (tys : List (ClassId × FieldType)) (ws : va_W) (a b : Int) (ha : -2147483647 ≤ a ∧ a ≤ 2147483647) (hb : b = 7) : mCt tys yJ9_floorMod_7cf53 cJ9_floorMod_7cf53 3 (some .int) ⟨0, 0, 0, 0⟩ [.int (iZ a), .int (iZ b)] ws (fun v ws' => v = some (.int (iZ (a % b))) ∧ ws' = ws) mNo := by
  refine mCt.of (by decide +kernel) (Nat.le_of_ble_eq_true rfl) (fun X hX hE => ?_)
  replace hX : mOK X RJ9 cJ9_floorMod_7cf53 3 ⟨0, 0, 0, 0⟩ [] tys := hX
  have hpos : 0 ≤ (iZ b).toInt := by rw [iZ_toInt (by omega) (by omega)]; omega
  have hs : (iZ a ^^^ iZ b).toInt < 0 ↔ a < 0 := by rw [ix_sign hpos, iZ_toInt (by omega) (by omega)]
  have h1 : (0 : Int32).toInt = 0 := rfl
  refine r_iload_n hX dJ9_floorMod_7cf53_0 rfl rfl ?_
  refine r_iload_n hX dJ9_floorMod_7cf53_1 rfl rfl ?_
  refine r_irem hX dJ9_floorMod_7cf53_2 (iZ_ne0 (by omega) (by omega)) ?_
  rw [iZ_tdiv ha ⟨by omega, by omega⟩, iZ_mul, iZ_sub]
  refine r_istore_n hX dJ9_floorMod_7cf53_3 rfl (by decide) rfl ?_
  refine r_iload_n hX dJ9_floorMod_7cf53_4 rfl rfl ?_
  refine r_iload_n hX dJ9_floorMod_7cf53_5 rfl rfl ?_
  refine r_ixor hX dJ9_floorMod_7cf53_6 ?_
  refine r_if_ge (tgt := 18) hX dJ9_floorMod_7cf53_7 (by decide) (fun c => ?_) (fun c => ?_)
  · have h0 : 0 ≤ a := by
      have := Int32.le_iff_toInt_le.mp c
      rcases Int.lt_or_le a 0 with q | q
      · have := hs.mpr q; omega
      · exact q
    refine r_iload_n hX dJ9_floorMod_7cf53_18 rfl rfl ?_
    refine r_iret hX hE dJ9_floorMod_7cf53_19 (Nat.le_of_ble_eq_true rfl) (Nat.le_of_ble_eq_true rfl) ⟨zi ?_, rfl⟩
    rw [Int.tdiv_eq_ediv_of_nonneg h0]
    subst hb; omega
  · have h0 : a < 0 := by
      refine hs.mp ?_
      rcases Int.lt_or_le (iZ a ^^^ iZ b).toInt 0 with q | q
      · exact q
      · exact absurd (Int32.le_iff_toInt_le.mpr (by rw [h1]; exact q)) c
    have ht := tdiv_neg (b := b) h0
    have hm : -7 ≤ a - Int.tdiv a b * b ∧ a - Int.tdiv a b * b ≤ 0 := by
      rw [ht]; subst hb; omega
    refine r_iload_n hX dJ9_floorMod_7cf53_10 rfl rfl ?_
    refine r_if_eqZ (tgt := 18) hX dJ9_floorMod_7cf53_11 (by decide) (by omega) (fun c2 => ?_) (fun c2 => ?_)
    · refine r_iload_n hX dJ9_floorMod_7cf53_18 rfl rfl ?_
      refine r_iret hX hE dJ9_floorMod_7cf53_19 (Nat.le_of_ble_eq_true rfl) (Nat.le_of_ble_eq_true rfl) ⟨zi ?_, rfl⟩
      rw [ht] at c2 ⊢
      subst hb; omega
    · refine r_iload_n hX dJ9_floorMod_7cf53_14 rfl rfl ?_
      refine r_iload_n hX dJ9_floorMod_7cf53_15 rfl rfl ?_
      refine r_iaddZ hX dJ9_floorMod_7cf53_16 ?_
      refine r_iret hX hE dJ9_floorMod_7cf53_17 (Nat.le_of_ble_eq_true rfl) (Nat.le_of_ble_eq_true rfl) ⟨zi ?_, rfl⟩
      rw [ht] at c2 ⊢
      subst hb; omega

