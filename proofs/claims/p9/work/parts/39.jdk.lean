/-! Text methods of the JDK, their contracts. (Rows by a program of this repository.) -/
def mP (i : Nat) : Int64 := Int64.ofInt (-((10 ^ i : Nat) : Int))
theorem mP_toInt : ∀ i, i < 19 → (mP i).toInt = -((10 ^ i : Nat) : Int) := by decide +kernel
theorem mP_step (i : Nat) : (10 : Int64) * mP i = mP (i + 1) := by
  show Int64.ofInt 10 * Int64.ofInt (-((10 ^ i : Nat) : Int)) = Int64.ofInt (-((10 ^ (i + 1) : Nat) : Int))
  rw [← Int64.ofInt_mul, Nat.pow_succ]
  congr 1
  push_cast
  omega
set_option maxHeartbeats 1000000 in
theorem c_stringSize (tys : List (ClassId × FieldType)) (ws : va_W) (x : Int64) : mCt tys yJ13_stringSize_95d88 cJ13_stringSize_95d88 6 (some .int) ⟨0, 0, 0, 0⟩ [.long x] ws (fun v9 ws' => ∃ d : Nat, 1 ≤ d ∧ d ≤ 19 ∧ x.toInt.natAbs < 10 ^ d ∧ v9 = some (.int (nI (d + if x.toInt < 0 then 1 else 0))) ∧ ws' = ws) mNo := by
  refine mCt.of (by decide +kernel) (Nat.le_of_ble_eq_true rfl) (fun X hX hE => ?_)
  replace hX : mOK X RJ13 cJ13_stringSize_95d88 6 ⟨0, 0, 0, 0⟩ [] tys := hX
  refine r_iconst (v := nI 1) hX dJ13_stringSize_95d88_0 (by decide) ?_
  refine r_istore_n hX dJ13_stringSize_95d88_1 rfl (by decide) rfl ?_
  have main : ∀ (y : Int64) (s : Nat), s < 2 → y.toInt = -(x.toInt.natAbs : Int) → (∀ d : Nat, 1 ≤ d → d ≤ 19 → x.toInt.natAbs < 10 ^ d → ∃ d' : Nat, 1 ≤ d' ∧ d' ≤ 19 ∧ x.toInt.natAbs < 10 ^ d' ∧ some (Value.int (nI (d + s))) = some (Value.int (nI (d' + if x.toInt < 0 then 1 else 0))) ∧ ws = ws) → mV X 13 [(0, some (.long y)), (2, some (.int (nI s)))] [] ws 0 0 := by
    intro y s hs hy hfin
    have L : ∀ (f i : Nat), 19 - i < f → 1 ≤ i → i ≤ 19 → mV X 20 [(0, some (.long y)), (2, some (.int (nI s))), (3, some (.long (mP i))), (5, some (.int (nI i)))] [] ws 0 0 := by
      intro f
      induction f with
      | zero => intro i; omega
      | succ f ih =>
        intro i hf h1 h2
        refine r_iload hX dJ13_stringSize_95d88_20 rfl ?_
        refine r_bipush (v := nI 19) hX dJ13_stringSize_95d88_22 (by decide) ?_
        refine r_icmp_ge (tgt := 50) hX dJ13_stringSize_95d88_24 (by decide) (fun c9 => ?_) (fun c9 => ?_)
        · refine r_bipush (v := nI 19) hX dJ13_stringSize_95d88_50 (by decide) ?_
          refine r_iload_n hX dJ13_stringSize_95d88_52 rfl rfl ?_
          refine r_iadd hX dJ13_stringSize_95d88_53 ?_
          rw [nI_add]
          have hb1 := Int64.le_toInt x
          have hb2 := Int64.toInt_lt x
          exact r_iret hX hE dJ13_stringSize_95d88_54 (Nat.le_of_ble_eq_true rfl) (Nat.le_of_ble_eq_true rfl) (hfin 19 (by decide) (by decide) (by omega))
        · have h3 : i < 19 := by
            rcases Nat.lt_or_ge i 19 with q | q
            · exact q
            · exact absurd (nI_le q (by omega)) c9
          have hp := mP_toInt i h3
          refine r_lload_n hX dJ13_stringSize_95d88_27 rfl rfl ?_
          refine r_lload_n hX dJ13_stringSize_95d88_28 rfl rfl ?_
          refine r_lcmp hX dJ13_stringSize_95d88_29 ?_
          refine r_if_le (tgt := 38) hX dJ13_stringSize_95d88_30 (by decide) (fun _ => ?_) (fun c8 => ?_)
          · refine r_ldc2 hX jc_J13_53 dJ13_stringSize_95d88_38 ?_
            refine r_lload_n hX dJ13_stringSize_95d88_41 rfl rfl ?_
            refine r_lmul hX dJ13_stringSize_95d88_42 ?_
            refine r_lstore_n hX dJ13_stringSize_95d88_43 rfl (by decide) rfl ?_
            refine r_iinc hX dJ13_stringSize_95d88_44 rfl (by decide) rfl ?_
            refine r_goto (tgt := 20) hX dJ13_stringSize_95d88_47 (by decide) ?_
            exact r_loc (k' := 0) (n' := 0) (by exact ⟨rfl, rfl, congrArg (fun z => some (Value.long z)) (mP_step i), nI_inc' _, trivial⟩) (Nat.le_of_ble_eq_true rfl) (Nat.le_of_ble_eq_true rfl) (ih (i + 1) (by omega) (by omega) (by omega))
          · have h4 : (mP i).toInt < y.toInt := Int64.lt_iff_toInt_lt.mp (Int64.not_le.mp (fun q => c8 ((lg_cmp_le _ _).mpr q)))
            refine r_iload hX dJ13_stringSize_95d88_33 rfl ?_
            refine r_iload_n hX dJ13_stringSize_95d88_35 rfl rfl ?_
            refine r_iadd hX dJ13_stringSize_95d88_36 ?_
            rw [nI_add]
            exact r_iret hX hE dJ13_stringSize_95d88_37 (Nat.le_of_ble_eq_true rfl) (Nat.le_of_ble_eq_true rfl) (hfin i h1 h2 (by omega))
    refine r_ldc2 hX jc_J13_140 dJ13_stringSize_95d88_13 ?_
    refine r_lstore_n hX dJ13_stringSize_95d88_16 rfl (by decide) rfl ?_
    refine r_iconst (v := nI 1) hX dJ13_stringSize_95d88_17 (by decide) ?_
    refine r_istore hX dJ13_stringSize_95d88_18 (by decide) rfl ?_
    exact r_loc (k' := 0) (n' := 0) (by exact ⟨rfl, rfl, congrArg (fun z => some (Value.long z)) (show (-10 : Int64) = mP 1 by decide +kernel), rfl, trivial⟩) (Nat.le_of_ble_eq_true rfl) (Nat.le_of_ble_eq_true rfl) (L 20 1 (by omega) (by omega) (by omega))
  refine r_lload_n hX dJ13_stringSize_95d88_2 rfl rfl ?_
  refine r_lconst (v := 0) hX dJ13_stringSize_95d88_3 (by decide) ?_
  refine r_lcmp hX dJ13_stringSize_95d88_4 ?_
  refine r_if_lt (tgt := 13) hX dJ13_stringSize_95d88_5 (by decide) (fun c9 => ?_) (fun c9 => ?_)
  · have h0 : x.toInt < 0 := by simpa using Int64.lt_iff_toInt_lt.mp ((lg_cmp_lt _ _).mp c9)
    exact r_loc (k' := 0) (n' := 0) (by exact ⟨rfl, rfl, trivial⟩) (Nat.le_of_ble_eq_true rfl) (Nat.le_of_ble_eq_true rfl) (main x 1 (by decide) (by omega) (fun d g1 g2 g3 => ⟨d, g1, g2, g3, by rw [if_pos h0], rfl⟩))
  · have h0 : ¬ x.toInt < 0 := fun q => c9 ((lg_cmp_lt _ _).mpr (Int64.lt_iff_toInt_lt.mpr (by simpa using q)))
    refine r_iconst (v := nI 0) hX dJ13_stringSize_95d88_8 (by decide) ?_
    refine r_istore_n hX dJ13_stringSize_95d88_9 rfl (by decide) rfl ?_
    refine r_lload_n hX dJ13_stringSize_95d88_10 rfl rfl ?_
    refine r_lneg hX dJ13_stringSize_95d88_11 ?_
    refine r_lstore_n hX dJ13_stringSize_95d88_12 rfl (by decide) rfl ?_
    have hb2 := Int64.toInt_lt x
    exact r_loc (k' := 0) (n' := 0) (by exact ⟨rfl, rfl, trivial⟩) (Nat.le_of_ble_eq_true rfl) (Nat.le_of_ble_eq_true rfl) (main (-x) 0 (by decide) (by rw [Int64.toInt_neg, Int.bmod_eq_of_le (by omega) (by omega)]; omega) (fun d g1 g2 g3 => ⟨d, g1, g2, g3, by rw [if_neg h0], rfl⟩))

