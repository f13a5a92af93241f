/-! The reference, its contracts (rows by a program of this repository). -/
/-! THE REFERENCE'S WORLD, behind the class's. (Own work.) -/
/-- thrown, knocks, refusals; offsets; moments; days, seconds, nanos, owns -/
abbrev mJ : Type := (Int32 × Int32 × Int32) × (Nat → Int32) × (Nat → Int64) × (Nat → Int32) × (Nat → Int32) × (Nat → Int32) × (Nat → Int32)
def mMd (ae : Nat → Nat) (cs : ClassId × ClassId × ClassId) (J : mJ) (rest : va_W) : va_W :=
  (ae 0, .inr (5, [.int J.1.1, .int J.1.2.1, .int J.1.2.2, .ref (ae 1), .ref (ae 2), .ref (ae 3), .ref (ae 4), .ref (ae 5), .ref (ae 6)])) ::
  (ae 1, .inl (cs.1, 4, .inl J.2.1)) :: (ae 2, .inl (cs.2.1, 4, .inr (.inl J.2.2.1))) :: (ae 3, .inl (cs.1, 7, .inl J.2.2.2.1)) :: (ae 4, .inl (cs.1, 7, .inl J.2.2.2.2.1)) :: (ae 5, .inl (cs.1, 7, .inl J.2.2.2.2.2.1)) :: (ae 6, .inl (cs.1, 7, .inl J.2.2.2.2.2.2)) :: rest
def mRw (ad ae : Nat → Nat) (cs : ClassId × ClassId × ClassId) (K : mK) (J : mJ) (rest : va_W) : va_W := mWd ad cs K (mMd ae cs J rest)
/-- every day lies in the years 1910 to 2030 -/
def mWF (J : mJ) : Prop := ∀ k, k < 7 → ∃ d : Int, J.2.2.2.1 k = iZ d ∧ -21915 ≤ d ∧ d ≤ 22279
theorem mWF.set {J : mJ} {f : Nat → Int32} (h : mWF J) (hf : J.2.2.2.1 = f) {i : Nat} {x : Int32} {d : Int} (hx : x = iZ d) (h1 : -21915 ≤ d) (h2 : d ≤ 22279) : ∀ k, k < 7 → ∃ d : Int, (upd f i x) k = iZ d ∧ -21915 ≤ d ∧ d ≤ 22279 := by
  intro k hk
  by_cases e : k = i
  · exact ⟨d, by simp [upd, e, hx], h1, h2⟩
  · obtain ⟨d', h3, h4⟩ := h k hk
    exact ⟨d', by rw [← hf]; simp [upd, e, h3], h4⟩
theorem mRw_app {ad ae : Nat → Nat} {cs : ClassId × ClassId × ClassId} {K : mK} {J : mJ} {rest l : va_W} : mRw ad ae cs K J rest ++ l = mRw ad ae cs K J (rest ++ l) := rfl
theorem mLast {l : va_W} {x : Nat × va_E} : (l ++ [x])[l.length]? = some x := by simp
theorem mSetLast {l : va_W} {x y : Nat × va_E} : (l ++ [x]).set l.length y = l ++ [y] := by simp
def mZi (ad ae : Nat → Nat) (cs : ClassId × ClassId × ClassId) (K : mK) (J : mJ) (rest : va_W) : Option Value → va_W → Prop := fun v ws' => ∃ (r : Int32) (J' : mJ), mWF J' ∧ J'.2.1 = J.2.1 ∧ v = some (.int r) ∧ ws' = mRw ad ae cs K J' rest
def mZb (ad ae : Nat → Nat) (cs : ClassId × ClassId × ClassId) (K : mK) (J : mJ) (rest : va_W) : Option Value → va_W → Prop := fun v ws' => ∃ (r : Int32) (J' : mJ), mB r ∧ mWF J' ∧ J'.2.1 = J.2.1 ∧ v = some (.int r) ∧ ws' = mRw ad ae cs K J' rest
def mZl (ad ae : Nat → Nat) (cs : ClassId × ClassId × ClassId) (K : mK) (J : mJ) (rest : va_W) : Option Value → va_W → Prop := fun v ws' => ∃ (r : Int64) (J' : mJ), mWF J' ∧ J'.2.1 = J.2.1 ∧ v = some (.long r) ∧ ws' = mRw ad ae cs K J' rest
theorem ka_int : Cond.arrayClass .int ∈ mW := mW_at 91 (by decide +kernel) (by decide +kernel)
theorem ka_long : Cond.arrayClass .long ∈ mW := mW_at 92 (by decide +kernel) (by decide +kernel)
section MNA
variable {X : mC} {own : String} {cc : ByteArray} {nL : Nat} {R : Room} {hh : List (Nat × Nat × Nat × Nat)} {tys : List (ClassId × FieldType)} {pc : Nat} {lv : List (Nat × Option Value)} {st : List Value} {ws ws' : va_W} {k n : Nat}
theorem r_eqw (h : ws = ws') (kk : mV X pc lv st ws' k n) : mV X pc lv st ws k n := h ▸ kk
theorem r_drop {l : va_W} (kk : mV X pc lv st ws k n) : mV X pc lv st (ws ++ l) k n := by
  refine r_take ws.length ?_
  rw [List.take_left]
  exact kk
theorem r_newai {N : Nat} {cA : ClassId} (hX : mOK X own cc nL R hh tys) (t0 : Nat) (ht : tys[t0]? = some (cA, .int)) (hN : N < 1000) (hd : decode cc pc = .ok (.newarray .int, 2)) (hc : k + 1 ≤ R.cells) (hs : n + N ≤ R.slots) (kk : ∀ q, mV X (pc + 2) lv (.ref q :: st) (ws ++ [(q, .inl (cA, N, .inl (fun _ => 0)))]) (k + 1) (n + N)) : mV X pc lv (.int (nI N) :: st) ws k n := by
  obtain ⟨p, l, e, R', s, m, args, below, meth, c, Q, D, tys', A⟩ := X
  obtain ⟨hx, hb, hml, hR, hown, hts, hK, hty, hlk, hA, hst, hlt, htab⟩ := hX
  subst hR
  refine fun H locs ls hP hD hS hl => va_newa (atype := .int) hx hb (hts _ ka_int) rfl hK hP hD hS hA (a0 := (N, .inl (fun _ => 0))) (N' := N) (fun cA => by rw [vp_cell_i]; rfl) (nI_pos (by omega)) (nI_clamp (by omega)) (Nat.le_trans (Nat.mul_le_mul_right _ (Nat.le_of_lt hN)) (by decide)) hc hs hd (fun q cA' H1 hK1 hP1 hD1 hS1 => ?_)
  have e : cA' = cA := by
    have h1 := (hK.2 t0 _ ht).2
    have h2 := (hK1.2 tys.length (cA', newarray.typeOf ArrayType.int) (by simp)).2
    exact Option.some.inj (h2.symm.trans h1)
  subst e
  exact kk q H1 locs ls hP1 hD1 hS1 hl
end MNA
theorem c_X4_parts (cs : ClassId × ClassId × ClassId) (ws : va_W) (d : Int) (hd1 : -21915 ≤ d) (hd2 : d ≤ 22279) : mCt (mTy cs) yX4_parts cX4_parts 5 (some (.array .int)) ⟨4, 1, 4, 95⟩ [.int (iZ d)] ws (fun v ws' => ∃ (y m dd : Nat) (f : Nat → Int32) (q : Nat), 1910 ≤ y ∧ y ≤ 2030 ∧ 1 ≤ m ∧ m ≤ 12 ∧ 1 ≤ dd ∧ dd ≤ dm y m ∧ FO y + DB y m + (dd : Int) - 1 = d ∧ f 0 = nI y ∧ f 1 = nI m ∧ f 2 = nI dd ∧ v = some (.ref q) ∧ ws' = ws ++ [(q, .inl (cs.1, 4, .inl f))]) mNo := by
  refine mCt.of (by decide +kernel) (Nat.le_of_ble_eq_true rfl) (fun X hX hE => ?_)
  replace hX : mOK X RX4 cX4_parts 5 ⟨4, 1, 4, 95⟩ [] (mTy cs) := hX
  refine r_iload_n hX dX4_parts_0 rfl rfl ?_
  refine r_callS hX (c_X4_yearOf _ _ d hd1 hd2) ks_X4_58 rfl rfl (Nat.le_of_ble_eq_true rfl) ⟨(Nat.le_of_ble_eq_true rfl), (Nat.le_of_ble_eq_true rfl)⟩ ⟨(Nat.le_of_ble_eq_true rfl), (Nat.le_of_ble_eq_true rfl)⟩ dX4_parts_1 (fun _ _ z => False.elim z) (fun v9 ws9 h => ?_)
  obtain ⟨y, hy1, hy2, hF1, hF2, rfl, hw9⟩ := h
  subst ws9
  dsimp only [mPush]
  have hs := FO_s (y := y) (by omega)
  have hb := FO_b (y := y) (by omega)
  have hyl := yl_b y
  refine r_istore_n hX dX4_parts_4 rfl (by decide) rfl ?_
  refine r_iload_n hX dX4_parts_5 rfl rfl ?_
  refine r_iload_n hX dX4_parts_6 rfl rfl ?_
  refine r_callS hX (c_X4_firstOf _ _ y (by omega) (by omega)) ks_X4_52 rfl rfl (Nat.le_of_ble_eq_true rfl) ⟨(Nat.le_of_ble_eq_true rfl), (Nat.le_of_ble_eq_true rfl)⟩ ⟨(Nat.le_of_ble_eq_true rfl), (Nat.le_of_ble_eq_true rfl)⟩ dX4_parts_7 (fun _ _ z => False.elim z) (fun v9 ws9 h => ?_)
  obtain ⟨rfl, hw9⟩ := h
  subst ws9
  dsimp only [mPush]
  refine r_isub hX dX4_parts_10 ?_
  refine r_istore_n hX dX4_parts_11 rfl (by decide) rfl ?_
  refine r_iload_n hX dX4_parts_12 rfl rfl ?_
  refine r_iconst (v := 1) hX dX4_parts_13 (by decide) ?_
  refine r_iadd hX dX4_parts_14 ?_
  refine r_istore_n hX dX4_parts_15 rfl (by decide) rfl ?_
  refine r_iconst (v := 1) hX dX4_parts_16 (by decide) ?_
  refine r_istore hX dX4_parts_17 (by decide) rfl ?_
  have L19 : ∀ (N m : Nat) (x3 : Int32), 13 - m < N → 1 ≤ m → m ≤ 12 → 0 ≤ d - FO y - DB y m → mV X 19 [(1, some (.int (nI y))), (2, some (.int (iZ (d - FO y - DB y m)))), (3, some (.int x3)), (4, some (.int (nI m)))] [] ws 0 0 := by
    intro N
    induction N with
    | zero => intro m x3 h; omega
    | succ N ih =>
      intro m x3 h1 h2 h3 h4
      have hdm := dm_b y m
      have hDB := DB_b (y := y) (m := m) (by omega)
      have hDt := DB_t (y := y) h2 h3
      refine r_iload_n hX dX4_parts_19 rfl rfl ?_
      refine r_iload_n hX dX4_parts_20 rfl rfl ?_
      refine r_iload hX dX4_parts_21 rfl ?_
      refine r_callS hX (c_X4_daysOf _ _ y (by omega) m (by omega)) ks_X4_55 rfl rfl (Nat.le_of_ble_eq_true rfl) ⟨(Nat.le_of_ble_eq_true rfl), (Nat.le_of_ble_eq_true rfl)⟩ ⟨(Nat.le_of_ble_eq_true rfl), (Nat.le_of_ble_eq_true rfl)⟩ dX4_parts_23 (fun _ _ z => False.elim z) (fun v9 ws9 h => ?_)
      obtain ⟨rfl, hw9⟩ := h
      subst ws9
      dsimp only [mPush]
      rw [iZ_nI (dm y m)]
      refine r_icmp_lt (tgt := 44) hX dX4_parts_26 (by decide) (fun c => ?_) (fun c => ?_)
      · have hlt := (iZ_lt (a := d - FO y - DB y m) (b := (dm y m : Int)) (by omega) (by omega) (by omega) (by omega)).mp c
        obtain ⟨w, hw⟩ : ∃ w : Nat, d - FO y - DB y m = (w : Int) := ⟨(d - FO y - DB y m).toNat, by omega⟩
        refine r_iconst (v := nI 4) hX dX4_parts_44 (by decide) ?_
        refine r_newai (N := 4) hX 0 rfl (by decide) dX4_parts_45 (Nat.le_of_ble_eq_true rfl) (Nat.le_of_ble_eq_true rfl) (fun q => ?_)
        have t0 : (nI 0).toNatClampNeg = 0 := by decide
        have t1 : (nI 1).toNatClampNeg = 1 := by decide
        have t2 : (nI 2).toNatClampNeg = 2 := by decide
        have t3 : (nI 3).toNatClampNeg = 3 := by decide
        refine r_dup hX dX4_parts_47 rfl ?_
        refine r_iconst (v := nI 0) hX dX4_parts_48 (by decide) ?_
        refine r_iload_n hX dX4_parts_49 rfl rfl ?_
        refine r_iast hX ws.length 0 mLast rfl (vp_in_nI (by decide) (by decide)) dX4_parts_50 ?_
        rw [mSetLast]
        refine r_dup hX dX4_parts_51 rfl ?_
        refine r_iconst (v := nI 1) hX dX4_parts_52 (by decide) ?_
        refine r_iload hX dX4_parts_53 rfl ?_
        refine r_iast hX ws.length 0 mLast rfl (vp_in_nI (by decide) (by decide)) dX4_parts_55 ?_
        rw [mSetLast]
        refine r_dup hX dX4_parts_56 rfl ?_
        refine r_iconst (v := nI 2) hX dX4_parts_57 (by decide) ?_
        refine r_iload_n hX dX4_parts_58 rfl rfl ?_
        refine r_iconst (v := 1) hX dX4_parts_59 (by decide) ?_
        refine r_iadd hX dX4_parts_60 ?_
        refine r_iast hX ws.length 0 mLast rfl (vp_in_nI (by decide) (by decide)) dX4_parts_61 ?_
        rw [mSetLast]
        refine r_dup hX dX4_parts_62 rfl ?_
        refine r_iconst (v := nI 3) hX dX4_parts_63 (by decide) ?_
        refine r_iload_n hX dX4_parts_64 rfl rfl ?_
        refine r_iast hX ws.length 0 mLast rfl (vp_in_nI (by decide) (by decide)) dX4_parts_65 ?_
        rw [mSetLast]
        refine r_aret hX hE dX4_parts_66 (Or.inr ⟨_, rfl⟩) (Or.inr ⟨_, rfl⟩) (Nat.le_of_ble_eq_true rfl) (Nat.le_of_ble_eq_true rfl) ⟨y, m, w + 1, _, q, hy1, hy2, h2, h3, by omega, by omega, by omega, ?_, ?_, ?_, rfl, rfl⟩
        · simp [upd, t0, t1, t2, t3]
        · simp [upd, t0, t1, t2, t3]
        · simp only [upd, t0, t1, t2, t3]
          rw [hw, ← nI_1, iZ_nI w]
          rfl
      · have hge : (dm y m : Int) ≤ d - FO y - DB y m := by
          by_cases q : d - FO y - DB y m < (dm y m : Int)
          · exact absurd ((iZ_lt (a := d - FO y - DB y m) (b := (dm y m : Int)) (by omega) (by omega) (by omega) (by omega)).mpr q) c
          · omega
        have hm12 : m < 12 := by
          rcases Nat.lt_or_ge m 12 with q | q
          · exact q
          · have : m = 12 := by omega
            subst this
            have h5 := DB_12 y
            have h6 := dm_12 y
            omega
        have hsm := DB_s (y := y) h2
        refine r_iload_n hX dX4_parts_29 rfl rfl ?_
        refine r_iload_n hX dX4_parts_30 rfl rfl ?_
        refine r_iload hX dX4_parts_31 rfl ?_
        refine r_callS hX (c_X4_daysOf _ _ y (by omega) m (by omega)) ks_X4_55 rfl rfl (Nat.le_of_ble_eq_true rfl) ⟨(Nat.le_of_ble_eq_true rfl), (Nat.le_of_ble_eq_true rfl)⟩ ⟨(Nat.le_of_ble_eq_true rfl), (Nat.le_of_ble_eq_true rfl)⟩ dX4_parts_33 (fun _ _ z => False.elim z) (fun v9 ws9 h => ?_)
        obtain ⟨rfl, hw9⟩ := h
        subst ws9
        dsimp only [mPush]
        refine r_isub hX dX4_parts_36 ?_
        refine r_istore_n hX dX4_parts_37 rfl (by decide) rfl ?_
        refine r_iinc hX dX4_parts_38 rfl (by decide) rfl ?_
        refine r_goto (tgt := 19) hX dX4_parts_41 (by decide) ?_
        refine r_loc (k' := 0) (n' := 0) ?_ (by decide) (by decide) (ih (m + 1) x3 (by omega) (by omega) (by omega) (by omega))
        refine ⟨rfl, ?_, rfl, nI_inc' _, trivial⟩
        rw [iZ_nI (dm y m), iZ_sub, hsm]
        exact congrArg (fun z : Int => some (Value.int (iZ z))) (by omega)
  refine r_loc (k' := 0) (n' := 0) ?_ (by decide) (by decide) (L19 13 1 (iZ d - iZ (FO y) + 1) (by decide) (by decide) (by decide) (by rw [DB_1]; omega))
  refine ⟨rfl, ?_, rfl, rfl, trivial⟩
  rw [DB_1, iZ_sub]
  exact congrArg (fun z : Int => some (Value.int (iZ z))) (by omega)
