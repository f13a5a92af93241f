/-! EXACT NUMBERS: rows over iZ z and lZ z, the int and the long of an Int. (Own work.) -/
theorem iZ_mul (a b : Int) : iZ a * iZ b = iZ (a * b) := (Int32.ofInt_mul a b).symm
theorem iZ_neg (a : Int) : -iZ a = iZ (-a) := Int32.neg_ofInt
theorem iZ_self (x : Int32) : iZ x.toInt = x := Int32.ofInt_toInt x
theorem iZ_rng (x : Int32) : -2147483648 ≤ x.toInt ∧ x.toInt ≤ 2147483647 := by
  have h1 := Int32.le_toInt x
  have h2 := Int32.toInt_lt x
  omega
theorem i2lZ {a : Int} (h : -2147483648 ≤ a ∧ a ≤ 2147483647) : (iZ a).toInt64 = lZ a := by
  apply Int64.toInt_inj.mp
  rw [Int32.toInt_toInt64, iZ_toInt h.1 (by omega), lZ_toInt (by omega) (by omega)]
theorem l2iZ (a : Int) : (lZ a).toInt32 = iZ a := Int64.toInt32_ofInt
theorem iZ_ne0 {b : Int} (h1 : 1 ≤ b) (h2 : b ≤ 2147483647) : ¬ iZ b = 0 := by
  intro h
  have h3 := congrArg Int32.toInt h
  rw [iZ_toInt (by omega) (by omega)] at h3
  have h4 : (0 : Int32).toInt = 0 := rfl
  omega
theorem iZ_div {a b : Int} (h1 : 0 ≤ a) (h2 : a ≤ 2147483647) (h3 : 1 ≤ b) (h4 : b ≤ 2147483647) : iZ a / iZ b = iZ (a / b) := by
  apply Int32.toInt_inj.mp
  have hm : iZ a ≠ Int32.minValue := by
    intro h
    have h5 := congrArg Int32.toInt h
    rw [iZ_toInt (by omega) (by omega)] at h5
    have h6 : Int32.minValue.toInt = -2147483648 := rfl
    omega
  have hq : 0 ≤ a / b ∧ a / b ≤ a := ⟨Int.ediv_nonneg h1 (by omega), Int.ediv_le_self b h1⟩
  rw [Int32.toInt_div_of_ne_left _ _ hm, iZ_toInt (by omega) (by omega), iZ_toInt (by omega) (by omega), iZ_toInt (by omega) (by omega), Int.tdiv_eq_ediv_of_nonneg h1]
theorem iZ_inj {a b : Int} (ha : -2147483648 ≤ a ∧ a ≤ 2147483647) (hb : -2147483648 ≤ b ∧ b ≤ 2147483647) : iZ a = iZ b ↔ a = b := by
  constructor
  · intro h
    have h3 := congrArg Int32.toInt h
    rwa [iZ_toInt ha.1 (by omega), iZ_toInt hb.1 (by omega)] at h3
  · exact fun h => by rw [h]
theorem lZ_le {a b : Int} (ha : -9223372036854775808 ≤ a ∧ a ≤ 9223372036854775807) (hb : -9223372036854775808 ≤ b ∧ b ≤ 9223372036854775807) : lZ a ≤ lZ b ↔ a ≤ b := by
  rw [Int64.le_iff_toInt_le, lZ_toInt ha.1 (by omega), lZ_toInt hb.1 (by omega)]
theorem lZ_inj {a b : Int} (ha : -9223372036854775808 ≤ a ∧ a ≤ 9223372036854775807) (hb : -9223372036854775808 ≤ b ∧ b ≤ 9223372036854775807) : lZ a = lZ b ↔ a = b := by
  constructor
  · intro h
    have h3 := congrArg Int64.toInt h
    rwa [lZ_toInt ha.1 (by omega), lZ_toInt hb.1 (by omega)] at h3
  · exact fun h => by rw [h]
theorem zi {a b : Int} (h : a = b) : some (Value.int (iZ a)) = some (Value.int (iZ b)) := by rw [h]
theorem zl {a b : Int} (h : a = b) : some (Value.long (lZ a)) = some (Value.long (lZ b)) := by rw [h]
/-- a boolean on the stack -/
def b2i (b : Bool) : Int32 := cond b 1 0
theorem b2i_B (b : Bool) : mB (b2i b) := by cases b <;> simp [b2i, mB]
theorem b2i_n (b : Bool) : narrow .boolean (.int (b2i b)) = .int (b2i b) := mB_n (b2i_B b)
theorem b2i_iZ (b : Bool) : b2i b = iZ (cond b 1 0) := by cases b <;> rfl
theorem zb {a b : Bool} (h : a = b) : some (Value.int (b2i a)) = some (Value.int (b2i b)) := by rw [h]
theorem f_within_Z {x a b : Int} (hx : -9223372036854775808 ≤ x ∧ x ≤ 9223372036854775807) (ha : -9223372036854775808 ≤ a ∧ a ≤ 9223372036854775807) (hb : -9223372036854775808 ≤ b ∧ b ≤ 9223372036854775807) : f_isWithin (lZ x) (lZ a) (lZ b) = b2i (decide (a ≤ x ∧ x ≤ b)) := by
  unfold f_isWithin
  have e : (lZ a ≤ lZ x ∧ lZ x ≤ lZ b) ↔ (a ≤ x ∧ x ≤ b) := by rw [lZ_le ha hx, lZ_le hx hb]
  by_cases h : a ≤ x ∧ x ≤ b
  · rw [if_pos (e.mpr h), decide_eq_true h]; rfl
  · rw [if_neg (fun q => h (e.mp q)), decide_eq_false h]; rfl
theorem vp_in_Z {a : Int} {N : Nat} (h1 : 0 ≤ a) (h2 : a < N) (hN : N < 2 ^ 31) : vp_in (iZ a) N := vp_in_iff.mpr (by rw [iZ_toInt (by omega) (by omega)]; omega)
theorem vp_in_Zi {a : Int} {N : Nat} (ha : -2147483648 ≤ a ∧ a ≤ 2147483647) : vp_in (iZ a) N ↔ 0 ≤ a ∧ a < N := by
  rw [vp_in_iff, iZ_toInt ha.1 (by omega)]
theorem iZ_clamp {a : Int} {j : Nat} (h : a = (j : Int)) (hj : j < 2 ^ 31) : (iZ a).toNatClampNeg = j := by
  rw [h, ← iZ_nI, nI_clamp hj]
theorem iZ_0 : iZ 0 = 0 := by decide +kernel
theorem z0_eq {a : Int} (ha : -2147483648 ≤ a ∧ a ≤ 2147483647) : iZ a = 0 ↔ a = 0 := by
  have h := iZ_inj ha (b := 0) (by omega)
  rwa [iZ_0] at h
theorem z0_lt {a : Int} (ha : -2147483648 ≤ a ∧ a ≤ 2147483647) : iZ a < 0 ↔ a < 0 := by
  have h := iZ_lt ha.1 (by omega) (b := 0) (by omega) (by omega)
  rwa [iZ_0] at h
theorem z0_ge {a : Int} (ha : -2147483648 ≤ a ∧ a ≤ 2147483647) : 0 ≤ iZ a ↔ 0 ≤ a := by
  have h := iZ_le (a := 0) (by omega) (by omega) ha.1 (by omega)
  rwa [iZ_0] at h
theorem z0_gt {a : Int} (ha : -2147483648 ≤ a ∧ a ≤ 2147483647) : 0 < iZ a ↔ 0 < a := by
  have h := iZ_lt (a := 0) (by omega) (by omega) ha.1 (by omega)
  rwa [iZ_0] at h
theorem z0_le {a : Int} (ha : -2147483648 ≤ a ∧ a ≤ 2147483647) : iZ a ≤ 0 ↔ a ≤ 0 := by
  have h := iZ_le ha.1 (by omega) (b := 0) (by omega) (by omega)
  rwa [iZ_0] at h
section ZR
variable {X : mC} {own : String} {cc : ByteArray} {nL : Nat} {R : Room} {hh : List (Nat × Nat × Nat × Nat)} {tys : List (ClassId × FieldType)} {pc : Nat} {lv : List (Nat × Option Value)} {st : List Value} {ws : va_W} {k n : Nat}

theorem r_iaddZ {a b : Int} (hX : mOK X own cc nL R hh tys) (hd : decode cc pc = .ok (.iadd, 1)) (kk : mV X (pc + 1) lv (.int (iZ (a + b)) :: st) ws k n) : mV X pc lv (.int (iZ b) :: .int (iZ a) :: st) ws k n := by
  rw [← iZ_add] at kk
  exact r_iadd hX hd kk

theorem r_laddZ {a b : Int} (hX : mOK X own cc nL R hh tys) (hd : decode cc pc = .ok (.ladd, 1)) (kk : mV X (pc + 1) lv (.long (lZ (a + b)) :: st) ws k n) : mV X pc lv (.long (lZ b) :: .long (lZ a) :: st) ws k n := by
  rw [← lZ_add] at kk
  exact r_ladd hX hd kk

theorem r_isubZ {a b : Int} (hX : mOK X own cc nL R hh tys) (hd : decode cc pc = .ok (.isub, 1)) (kk : mV X (pc + 1) lv (.int (iZ (a - b)) :: st) ws k n) : mV X pc lv (.int (iZ b) :: .int (iZ a) :: st) ws k n := by
  rw [← iZ_sub] at kk
  exact r_isub hX hd kk

theorem r_lsubZ {a b : Int} (hX : mOK X own cc nL R hh tys) (hd : decode cc pc = .ok (.lsub, 1)) (kk : mV X (pc + 1) lv (.long (lZ (a - b)) :: st) ws k n) : mV X pc lv (.long (lZ b) :: .long (lZ a) :: st) ws k n := by
  rw [← lZ_sub] at kk
  exact r_lsub hX hd kk

theorem r_imulZ {a b : Int} (hX : mOK X own cc nL R hh tys) (hd : decode cc pc = .ok (.imul, 1)) (kk : mV X (pc + 1) lv (.int (iZ (a * b)) :: st) ws k n) : mV X pc lv (.int (iZ b) :: .int (iZ a) :: st) ws k n := by
  rw [← iZ_mul] at kk
  exact r_imul hX hd kk

theorem r_lmulZ {a b : Int} (hX : mOK X own cc nL R hh tys) (hd : decode cc pc = .ok (.lmul, 1)) (kk : mV X (pc + 1) lv (.long (lZ (a * b)) :: st) ws k n) : mV X pc lv (.long (lZ b) :: .long (lZ a) :: st) ws k n := by
  rw [← lZ_mul] at kk
  exact r_lmul hX hd kk

theorem r_inegZ {a : Int} (hX : mOK X own cc nL R hh tys) (hd : decode cc pc = .ok (.ineg, 1)) (kk : mV X (pc + 1) lv (.int (iZ (-a)) :: st) ws k n) : mV X pc lv (.int (iZ a) :: st) ws k n := by
  rw [← iZ_neg] at kk
  exact r_ineg hX hd kk

theorem r_lnegZ {a : Int} (hX : mOK X own cc nL R hh tys) (hd : decode cc pc = .ok (.lneg, 1)) (kk : mV X (pc + 1) lv (.long (lZ (-a)) :: st) ws k n) : mV X pc lv (.long (lZ a) :: st) ws k n := by
  rw [← lZ_neg] at kk
  exact r_lneg hX hd kk

theorem r_i2lZ {a : Int} (hX : mOK X own cc nL R hh tys) (hd : decode cc pc = .ok (.i2l, 1)) (h : -2147483648 ≤ a ∧ a ≤ 2147483647) (kk : mV X (pc + 1) lv (.long (lZ a) :: st) ws k n) : mV X pc lv (.int (iZ a) :: st) ws k n := by
  rw [← i2lZ h] at kk
  exact r_i2l hX hd kk

theorem r_l2iZ {a : Int} (hX : mOK X own cc nL R hh tys) (hd : decode cc pc = .ok (.l2i, 1)) (kk : mV X (pc + 1) lv (.int (iZ a) :: st) ws k n) : mV X pc lv (.long (lZ a) :: st) ws k n := by
  rw [← l2iZ a] at kk
  exact r_l2i hX hd kk

theorem r_idivZ {a b : Int} (hX : mOK X own cc nL R hh tys) (hd : decode cc pc = .ok (.idiv, 1)) (ha : 0 ≤ a ∧ a ≤ 2147483647) (hb : 1 ≤ b ∧ b ≤ 2147483647) (kk : mV X (pc + 1) lv (.int (iZ (a / b)) :: st) ws k n) : mV X pc lv (.int (iZ b) :: .int (iZ a) :: st) ws k n := by
  rw [← iZ_div ha.1 ha.2 hb.1 hb.2] at kk
  exact r_idiv hX hd (iZ_ne0 hb.1 hb.2) kk

theorem r_iremZ {a b : Int} (hX : mOK X own cc nL R hh tys) (hd : decode cc pc = .ok (.irem, 1)) (ha : 0 ≤ a ∧ a ≤ 2147483647) (hb : 1 ≤ b ∧ b ≤ 2147483647) (kk : mV X (pc + 1) lv (.int (iZ (a % b)) :: st) ws k n) : mV X pc lv (.int (iZ b) :: .int (iZ a) :: st) ws k n := by
  rw [Int.emod_def, Int.mul_comm, ← iZ_sub, ← iZ_mul, ← iZ_div ha.1 ha.2 hb.1 hb.2] at kk
  exact r_irem hX hd (iZ_ne0 hb.1 hb.2) kk

theorem r_iconstZ {z : Int} (hX : mOK X own cc nL R hh tys) (hd : decode cc pc = .ok (.iconst z, 1)) (kk : mV X (pc + 1) lv (.int (iZ z) :: st) ws k n) : mV X pc lv st ws k n := r_iconst hX hd rfl kk
theorem r_bipushZ {z : Int} (hX : mOK X own cc nL R hh tys) (hd : decode cc pc = .ok (.bipush z, 2)) (hz : (Int8.ofInt z).toInt32 = iZ z) (kk : mV X (pc + 2) lv (.int (iZ z) :: st) ws k n) : mV X pc lv st ws k n := r_bipush hX hd hz kk
theorem r_sipushZ {z : Int} (hX : mOK X own cc nL R hh tys) (hd : decode cc pc = .ok (.sipush z, 3)) (hz : (Int16.ofInt z).toInt32 = iZ z) (kk : mV X (pc + 3) lv (.int (iZ z) :: st) ws k n) : mV X pc lv st ws k n := r_sipush hX hd hz kk
theorem r_lconstZ {z : Fin 2} {v : Int} (hX : mOK X own cc nL R hh tys) (hd : decode cc pc = .ok (.lconst z, 1)) (hv : Int64.ofNat (z : Nat) = lZ v) (kk : mV X (pc + 1) lv (.long (lZ v) :: st) ws k n) : mV X pc lv st ws k n := r_lconst hX hd hv kk
theorem r_ldcZ {v : Int32} {z : Int} {idx : Nat} (hX : mOK X own cc nL R hh tys) (hc : Cond.constant own idx v ∈ mW) (hv : v = iZ z) (hd : decode cc pc = .ok (.ldc idx, 2)) (kk : mV X (pc + 2) lv (.int (iZ z) :: st) ws k n) : mV X pc lv st ws k n := r_ldc hX hc hd (by rw [hv]; exact kk)
theorem r_ldc2Z {v : Int64} {z : Int} {idx : Nat} (hX : mOK X own cc nL R hh tys) (hc : Cond.constantLong own idx v ∈ mW) (hv : v = lZ z) (hd : decode cc pc = .ok (.ldc2_w idx, 3)) (kk : mV X (pc + 3) lv (.long (lZ z) :: st) ws k n) : mV X pc lv st ws k n := r_ldc2 hX hc hd (by rw [hv]; exact kk)

theorem r_if_eqZ {a : Int} {off : Int} {tgt : Nat} (hX : mOK X own cc nL R hh tys) (hd : decode cc pc = .ok (.ifCond .eq off, 3)) (ht : (pc : Int) + off = (tgt : Int)) (ha : -2147483648 ≤ a ∧ a ≤ 2147483647) (kt : a = 0 → mV X tgt lv st ws k n) (kf : ¬ (a = 0) → mV X (pc + 3) lv st ws k n) : mV X pc lv (.int (iZ a) :: st) ws k n :=
  r_if_eq hX hd ht (fun q => kt ((z0_eq ha).mp q)) (fun q => kf (fun z => q ((z0_eq ha).mpr z)))

theorem r_icmp_eqZ {a b : Int} {off : Int} {tgt : Nat} (hX : mOK X own cc nL R hh tys) (hd : decode cc pc = .ok (.if_icmp .eq off, 3)) (ht : (pc : Int) + off = (tgt : Int)) (ha : -2147483648 ≤ a ∧ a ≤ 2147483647) (hb : -2147483648 ≤ b ∧ b ≤ 2147483647) (kt : a = b → mV X tgt lv st ws k n) (kf : ¬ (a = b) → mV X (pc + 3) lv st ws k n) : mV X pc lv (.int (iZ b) :: .int (iZ a) :: st) ws k n :=
  r_icmp_eq hX hd ht (fun q => kt ((iZ_inj ha hb).mp q)) (fun q => kf (fun z => q ((iZ_inj ha hb).mpr z)))

theorem r_lif_eqZ {a b : Int} {off : Int} {tgt : Nat} (hX : mOK X own cc nL R hh tys) (hd : decode cc pc = .ok (.lcmp, 1)) (hd2 : decode cc (pc + 1) = .ok (.ifCond .eq off, 3)) (ht : ((pc + 1 : Nat) : Int) + off = (tgt : Int)) (ha : -9223372036854775808 ≤ a ∧ a ≤ 9223372036854775807) (hb : -9223372036854775808 ≤ b ∧ b ≤ 9223372036854775807) (kt : a = b → mV X tgt lv st ws k n) (kf : ¬ (a = b) → mV X (pc + 4) lv st ws k n) : mV X pc lv (.long (lZ b) :: .long (lZ a) :: st) ws k n := by
  refine r_lcmp hX hd ?_
  exact r_if_eq hX hd2 ht (fun q => kt (((lg_cmp_eq _ _).trans (lZ_inj ha hb)).mp q)) (fun q => kf (fun z => q (((lg_cmp_eq _ _).trans (lZ_inj ha hb)).mpr z)))

theorem r_if_neZ {a : Int} {off : Int} {tgt : Nat} (hX : mOK X own cc nL R hh tys) (hd : decode cc pc = .ok (.ifCond .ne off, 3)) (ht : (pc : Int) + off = (tgt : Int)) (ha : -2147483648 ≤ a ∧ a ≤ 2147483647) (kt : ¬ a = 0 → mV X tgt lv st ws k n) (kf : ¬ (¬ a = 0) → mV X (pc + 3) lv st ws k n) : mV X pc lv (.int (iZ a) :: st) ws k n :=
  r_if_ne hX hd ht (fun q => kt ((not_congr (z0_eq ha)).mp q)) (fun q => kf (fun z => q ((not_congr (z0_eq ha)).mpr z)))

theorem r_icmp_neZ {a b : Int} {off : Int} {tgt : Nat} (hX : mOK X own cc nL R hh tys) (hd : decode cc pc = .ok (.if_icmp .ne off, 3)) (ht : (pc : Int) + off = (tgt : Int)) (ha : -2147483648 ≤ a ∧ a ≤ 2147483647) (hb : -2147483648 ≤ b ∧ b ≤ 2147483647) (kt : ¬ a = b → mV X tgt lv st ws k n) (kf : ¬ (¬ a = b) → mV X (pc + 3) lv st ws k n) : mV X pc lv (.int (iZ b) :: .int (iZ a) :: st) ws k n :=
  r_icmp_ne hX hd ht (fun q => kt ((not_congr (iZ_inj ha hb)).mp q)) (fun q => kf (fun z => q ((not_congr (iZ_inj ha hb)).mpr z)))

theorem r_lif_neZ {a b : Int} {off : Int} {tgt : Nat} (hX : mOK X own cc nL R hh tys) (hd : decode cc pc = .ok (.lcmp, 1)) (hd2 : decode cc (pc + 1) = .ok (.ifCond .ne off, 3)) (ht : ((pc + 1 : Nat) : Int) + off = (tgt : Int)) (ha : -9223372036854775808 ≤ a ∧ a ≤ 9223372036854775807) (hb : -9223372036854775808 ≤ b ∧ b ≤ 9223372036854775807) (kt : ¬ a = b → mV X tgt lv st ws k n) (kf : ¬ (¬ a = b) → mV X (pc + 4) lv st ws k n) : mV X pc lv (.long (lZ b) :: .long (lZ a) :: st) ws k n := by
  refine r_lcmp hX hd ?_
  exact r_if_ne hX hd2 ht (fun q => kt ((not_congr ((lg_cmp_eq _ _).trans (lZ_inj ha hb))).mp q)) (fun q => kf (fun z => q ((not_congr ((lg_cmp_eq _ _).trans (lZ_inj ha hb))).mpr z)))

theorem r_if_ltZ {a : Int} {off : Int} {tgt : Nat} (hX : mOK X own cc nL R hh tys) (hd : decode cc pc = .ok (.ifCond .lt off, 3)) (ht : (pc : Int) + off = (tgt : Int)) (ha : -2147483648 ≤ a ∧ a ≤ 2147483647) (kt : a < 0 → mV X tgt lv st ws k n) (kf : ¬ (a < 0) → mV X (pc + 3) lv st ws k n) : mV X pc lv (.int (iZ a) :: st) ws k n :=
  r_if_lt hX hd ht (fun q => kt ((z0_lt ha).mp q)) (fun q => kf (fun z => q ((z0_lt ha).mpr z)))

theorem r_icmp_ltZ {a b : Int} {off : Int} {tgt : Nat} (hX : mOK X own cc nL R hh tys) (hd : decode cc pc = .ok (.if_icmp .lt off, 3)) (ht : (pc : Int) + off = (tgt : Int)) (ha : -2147483648 ≤ a ∧ a ≤ 2147483647) (hb : -2147483648 ≤ b ∧ b ≤ 2147483647) (kt : a < b → mV X tgt lv st ws k n) (kf : ¬ (a < b) → mV X (pc + 3) lv st ws k n) : mV X pc lv (.int (iZ b) :: .int (iZ a) :: st) ws k n :=
  r_icmp_lt hX hd ht (fun q => kt ((iZ_lt ha.1 (by omega) hb.1 (by omega)).mp q)) (fun q => kf (fun z => q ((iZ_lt ha.1 (by omega) hb.1 (by omega)).mpr z)))

theorem r_if_geZ {a : Int} {off : Int} {tgt : Nat} (hX : mOK X own cc nL R hh tys) (hd : decode cc pc = .ok (.ifCond .ge off, 3)) (ht : (pc : Int) + off = (tgt : Int)) (ha : -2147483648 ≤ a ∧ a ≤ 2147483647) (kt : 0 ≤ a → mV X tgt lv st ws k n) (kf : ¬ (0 ≤ a) → mV X (pc + 3) lv st ws k n) : mV X pc lv (.int (iZ a) :: st) ws k n :=
  r_if_ge hX hd ht (fun q => kt ((z0_ge ha).mp q)) (fun q => kf (fun z => q ((z0_ge ha).mpr z)))

theorem r_icmp_geZ {a b : Int} {off : Int} {tgt : Nat} (hX : mOK X own cc nL R hh tys) (hd : decode cc pc = .ok (.if_icmp .ge off, 3)) (ht : (pc : Int) + off = (tgt : Int)) (ha : -2147483648 ≤ a ∧ a ≤ 2147483647) (hb : -2147483648 ≤ b ∧ b ≤ 2147483647) (kt : b ≤ a → mV X tgt lv st ws k n) (kf : ¬ (b ≤ a) → mV X (pc + 3) lv st ws k n) : mV X pc lv (.int (iZ b) :: .int (iZ a) :: st) ws k n :=
  r_icmp_ge hX hd ht (fun q => kt ((iZ_le hb.1 (by omega) ha.1 (by omega)).mp q)) (fun q => kf (fun z => q ((iZ_le hb.1 (by omega) ha.1 (by omega)).mpr z)))

theorem r_lif_geZ {a b : Int} {off : Int} {tgt : Nat} (hX : mOK X own cc nL R hh tys) (hd : decode cc pc = .ok (.lcmp, 1)) (hd2 : decode cc (pc + 1) = .ok (.ifCond .ge off, 3)) (ht : ((pc + 1 : Nat) : Int) + off = (tgt : Int)) (ha : -9223372036854775808 ≤ a ∧ a ≤ 9223372036854775807) (hb : -9223372036854775808 ≤ b ∧ b ≤ 9223372036854775807) (kt : b ≤ a → mV X tgt lv st ws k n) (kf : ¬ (b ≤ a) → mV X (pc + 4) lv st ws k n) : mV X pc lv (.long (lZ b) :: .long (lZ a) :: st) ws k n := by
  refine r_lcmp hX hd ?_
  exact r_if_ge hX hd2 ht (fun q => kt (((lg_cmp_ge _ _).trans (lZ_le hb ha)).mp q)) (fun q => kf (fun z => q (((lg_cmp_ge _ _).trans (lZ_le hb ha)).mpr z)))

theorem r_if_gtZ {a : Int} {off : Int} {tgt : Nat} (hX : mOK X own cc nL R hh tys) (hd : decode cc pc = .ok (.ifCond .gt off, 3)) (ht : (pc : Int) + off = (tgt : Int)) (ha : -2147483648 ≤ a ∧ a ≤ 2147483647) (kt : 0 < a → mV X tgt lv st ws k n) (kf : ¬ (0 < a) → mV X (pc + 3) lv st ws k n) : mV X pc lv (.int (iZ a) :: st) ws k n :=
  r_if_gt hX hd ht (fun q => kt ((z0_gt ha).mp q)) (fun q => kf (fun z => q ((z0_gt ha).mpr z)))

theorem r_icmp_gtZ {a b : Int} {off : Int} {tgt : Nat} (hX : mOK X own cc nL R hh tys) (hd : decode cc pc = .ok (.if_icmp .gt off, 3)) (ht : (pc : Int) + off = (tgt : Int)) (ha : -2147483648 ≤ a ∧ a ≤ 2147483647) (hb : -2147483648 ≤ b ∧ b ≤ 2147483647) (kt : b < a → mV X tgt lv st ws k n) (kf : ¬ (b < a) → mV X (pc + 3) lv st ws k n) : mV X pc lv (.int (iZ b) :: .int (iZ a) :: st) ws k n :=
  r_icmp_gt hX hd ht (fun q => kt ((iZ_lt hb.1 (by omega) ha.1 (by omega)).mp q)) (fun q => kf (fun z => q ((iZ_lt hb.1 (by omega) ha.1 (by omega)).mpr z)))

theorem r_if_leZ {a : Int} {off : Int} {tgt : Nat} (hX : mOK X own cc nL R hh tys) (hd : decode cc pc = .ok (.ifCond .le off, 3)) (ht : (pc : Int) + off = (tgt : Int)) (ha : -2147483648 ≤ a ∧ a ≤ 2147483647) (kt : a ≤ 0 → mV X tgt lv st ws k n) (kf : ¬ (a ≤ 0) → mV X (pc + 3) lv st ws k n) : mV X pc lv (.int (iZ a) :: st) ws k n :=
  r_if_le hX hd ht (fun q => kt ((z0_le ha).mp q)) (fun q => kf (fun z => q ((z0_le ha).mpr z)))

theorem r_lif_leZ {a b : Int} {off : Int} {tgt : Nat} (hX : mOK X own cc nL R hh tys) (hd : decode cc pc = .ok (.lcmp, 1)) (hd2 : decode cc (pc + 1) = .ok (.ifCond .le off, 3)) (ht : ((pc + 1 : Nat) : Int) + off = (tgt : Int)) (ha : -9223372036854775808 ≤ a ∧ a ≤ 9223372036854775807) (hb : -9223372036854775808 ≤ b ∧ b ≤ 9223372036854775807) (kt : a ≤ b → mV X tgt lv st ws k n) (kf : ¬ (a ≤ b) → mV X (pc + 4) lv st ws k n) : mV X pc lv (.long (lZ b) :: .long (lZ a) :: st) ws k n := by
  refine r_lcmp hX hd ?_
  exact r_if_le hX hd2 ht (fun q => kt (((lg_cmp_le _ _).trans (lZ_le ha hb)).mp q)) (fun q => kf (fun z => q (((lg_cmp_le _ _).trans (lZ_le ha hb)).mpr z)))

theorem b2i_0 (b : Bool) : b2i b = 0 ↔ b = false := by cases b <;> simp [b2i]
theorem r_if_eqB {b : Bool} {off : Int} {tgt : Nat} (hX : mOK X own cc nL R hh tys) (hd : decode cc pc = .ok (.ifCond .eq off, 3)) (ht : (pc : Int) + off = (tgt : Int)) (kt : b = false → mV X tgt lv st ws k n) (kf : b = true → mV X (pc + 3) lv st ws k n) : mV X pc lv (.int (b2i b) :: st) ws k n :=
  r_if_eq hX hd ht (fun q => kt ((b2i_0 b).mp q)) (fun q => kf (by cases b; exact absurd rfl q; rfl))
theorem r_if_neB {b : Bool} {off : Int} {tgt : Nat} (hX : mOK X own cc nL R hh tys) (hd : decode cc pc = .ok (.ifCond .ne off, 3)) (ht : (pc : Int) + off = (tgt : Int)) (kt : b = true → mV X tgt lv st ws k n) (kf : b = false → mV X (pc + 3) lv st ws k n) : mV X pc lv (.int (b2i b) :: st) ws k n :=
  r_if_ne hX hd ht (fun q => kt (by cases b; exact absurd rfl q; rfl)) (fun q => kf ((b2i_0 b).mp (Classical.not_not.mp q)))
theorem r_ialdZ {a : Nat} {n0 : Nat} {cA : ClassId} {f : Nat → Int32} {i : Int} (hX : mOK X own cc nL R hh tys) (q0 t0 : Nat) (he : ws[q0]? = some (a, .inl (cA, n0, .inl f))) (ht : tys[t0]? = some (cA, .int)) (j : Nat) (hj : i = (j : Int)) (hn : j < n0) (hN : n0 < 2 ^ 31) (hd : decode cc pc = .ok (.iaload, 1)) (kk : mV X (pc + 1) lv (.int (f j) :: st) ws k n) : mV X pc lv (.int (iZ i) :: .ref a :: st) ws k n :=
  r_iald hX q0 t0 he ht (vp_in_Z (by omega) (by omega) hN) hd (by rw [iZ_clamp hj (by omega)]; exact kk)
theorem r_laldZ {a : Nat} {n0 : Nat} {cA : ClassId} {f : Nat → Int64} {i : Int} (hX : mOK X own cc nL R hh tys) (q0 t0 : Nat) (he : ws[q0]? = some (a, .inl (cA, n0, .inr (.inl f)))) (ht : tys[t0]? = some (cA, .long)) (j : Nat) (hj : i = (j : Int)) (hn : j < n0) (hN : n0 < 2 ^ 31) (hd : decode cc pc = .ok (.laload, 1)) (kk : mV X (pc + 1) lv (.long (f j) :: st) ws k n) : mV X pc lv (.int (iZ i) :: .ref a :: st) ws k n :=
  r_lald hX q0 t0 he ht (vp_in_Z (by omega) (by omega) hN) hd (by rw [iZ_clamp hj (by omega)]; exact kk)
theorem r_iastZ {a : Nat} {n0 : Nat} {cA : ClassId} {f : Nat → Int32} {i : Int} {x : Int32} (hX : mOK X own cc nL R hh tys) (q0 t0 : Nat) (he : ws[q0]? = some (a, .inl (cA, n0, .inl f))) (ht : tys[t0]? = some (cA, .int)) (j : Nat) (hj : i = (j : Int)) (hn : j < n0) (hN : n0 < 2 ^ 31) (hd : decode cc pc = .ok (.iastore, 1)) (kk : mV X (pc + 1) lv st (ws.set q0 (a, .inl (cA, n0, .inl (upd f j x)))) k n) : mV X pc lv (.int x :: .int (iZ i) :: .ref a :: st) ws k n :=
  r_iast hX q0 t0 he ht (vp_in_Z (by omega) (by omega) hN) hd (by rw [iZ_clamp hj (by omega)]; exact kk)
theorem r_lastZ {a : Nat} {n0 : Nat} {cA : ClassId} {f : Nat → Int64} {i : Int} {x : Int64} (hX : mOK X own cc nL R hh tys) (q0 t0 : Nat) (he : ws[q0]? = some (a, .inl (cA, n0, .inr (.inl f)))) (ht : tys[t0]? = some (cA, .long)) (j : Nat) (hj : i = (j : Int)) (hn : j < n0) (hN : n0 < 2 ^ 31) (hd : decode cc pc = .ok (.lastore, 1)) (kk : mV X (pc + 1) lv st (ws.set q0 (a, .inl (cA, n0, .inr (.inl (vp_updL f j x))))) k n) : mV X pc lv (.long x :: .int (iZ i) :: .ref a :: st) ws k n :=
  r_last hX q0 t0 he ht (vp_in_Z (by omega) (by omega) hN) hd (by rw [iZ_clamp hj (by omega)]; exact kk)
end ZR

