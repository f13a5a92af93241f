/-! The class, exact (rows by a program of this repository). -/
theorem zWd_g1 {ad : Nat → Nat} {cs : ClassId × ClassId × ClassId} {S : mS} {a b c : Int} {t : Int64 × Int32 × Int32} {rest : va_W} : (mWd ad cs (mKof S ((lZ a, iZ b, iZ c), t)) rest)[12]? = some (ad 12, .inr (2, [.long (lZ a), .int (iZ b), .int (iZ c)])) := rfl
theorem zWd_g2 {ad : Nat → Nat} {cs : ClassId × ClassId × ClassId} {S : mS} {a b c : Int} {t : Int64 × Int32 × Int32} {rest : va_W} : (mWd ad cs (mKof S (t, (lZ a, iZ b, iZ c))) rest)[13]? = some (ad 13, .inr (2, [.long (lZ a), .int (iZ b), .int (iZ c)])) := rfl
theorem zWd_h1 {ad : Nat → Nat} {cs : ClassId × ClassId × ClassId} {S : mS} {T : mT2} {rest : va_W} : (mWd ad cs (mKof S T) rest)[12]? = some (ad 12, .inr (2, [.long T.1.1, .int T.1.2.1, .int T.1.2.2])) := rfl
theorem zWd_h2 {ad : Nat → Nat} {cs : ClassId × ClassId × ClassId} {S : mS} {T : mT2} {rest : va_W} : (mWd ad cs (mKof S T) rest)[13]? = some (ad 13, .inr (2, [.long T.2.1, .int T.2.2.1, .int T.2.2.2])) := rfl
theorem zWd_t1 {ad : Nat → Nat} {cs : ClassId × ClassId × ClassId} {S : mS} {T : mT2} {a b c : Int} {rest : va_W} : (mWd ad cs (mKof S T) rest).set 12 (ad 12, .inr (2, [.long (lZ a), .int (iZ b), .int (iZ c)])) = mWd ad cs (mKof S ((lZ a, iZ b, iZ c), T.2)) rest := rfl
theorem zWd_t2 {ad : Nat → Nat} {cs : ClassId × ClassId × ClassId} {S : mS} {T : mT2} {a b c : Int} {rest : va_W} : (mWd ad cs (mKof S T) rest).set 13 (ad 13, .inr (2, [.long (lZ a), .int (iZ b), .int (iZ c)])) = mWd ad cs (mKof S (T.1, (lZ a, iZ b, iZ c))) rest := rfl
section ZR3
variable {X : mC} {own : String} {cc : ByteArray} {nL : Nat} {R : Room} {hh : List (Nat × Nat × Nat × Nat)} {tys : List (ClassId × FieldType)} {pc : Nat} {lv : List (Nat × Option Value)} {st : List Value} {ws : va_W} {k n : Nat}
theorem r_icmp_neB1 {b : Bool} {off : Int} {tgt : Nat} (hX : mOK X own cc nL R hh tys) (hd : decode cc pc = .ok (.if_icmp .ne off, 3)) (ht : (pc : Int) + off = (tgt : Int)) (kt : b = false → mV X tgt lv st ws k n) (kf : b = true → mV X (pc + 3) lv st ws k n) : mV X pc lv (.int (iZ 1) :: .int (b2i b) :: st) ws k n :=
  r_icmp_ne hX hd ht (fun q => kt (by cases b; rfl; exact absurd rfl q)) (fun q => kf (by cases b; exact absurd (Classical.not_not.mp q) (by decide); rfl))
theorem r_icmp_neB0 {b : Bool} {off : Int} {tgt : Nat} (hX : mOK X own cc nL R hh tys) (hd : decode cc pc = .ok (.if_icmp .ne off, 3)) (ht : (pc : Int) + off = (tgt : Int)) (kt : b = true → mV X tgt lv st ws k n) (kf : b = false → mV X (pc + 3) lv st ws k n) : mV X pc lv (.int (iZ 0) :: .int (b2i b) :: st) ws k n :=
  r_icmp_ne hX hd ht (fun q => kt (by cases b; exact absurd rfl q; rfl)) (fun q => kf (by cases b; rfl; exact absurd (Classical.not_not.mp q) (by decide)))
end ZR3
theorem z_X2_knock (ad : Nat → Nat) (cs : ClassId × ClassId × ClassId) (S : mS) (T : mT2) (rest : va_W) : mCt (mTy cs) yX2_knock cX2_knock 1 (some .int) ⟨0, 0, 0, 0⟩ [.ref (ad 0)] (mWd ad cs (mKof S T) rest) (fun v ws' => v = some (.int (S.2.2.2.1 + 1)) ∧ ws' = mWd ad cs (mKof (sKn S) T) rest) mNo := by
  refine mCt.of (by decide +kernel) (Nat.le_of_ble_eq_true rfl) (fun X hX hE => ?_)
  have hX : mOK X RX2 cX2_knock 1 ⟨0, 0, 0, 0⟩ [] (mTy cs) := hX
  refine r_aload_n hX dX2_knock_0 rfl rfl ?_
  refine r_dup hX dX2_knock_1 rfl ?_
  refine r_get hX kf_X2_196 0 rfl rfl dX2_knock_2 ?_
  refine r_iconst (v := 1) hX dX2_knock_5 (by decide) ?_
  refine r_iadd hX dX2_knock_6 ?_
  refine r_put hX kf_X2_196 0 rfl rfl rfl rfl (Nat.le_of_ble_eq_true rfl) dX2_knock_7 ?_
  refine r_aload_n hX dX2_knock_10 rfl rfl ?_
  refine r_get hX kf_X2_196 0 rfl rfl dX2_knock_11 ?_
  exact r_iret hX hE dX2_knock_14 (Nat.le_of_ble_eq_true rfl) (Nat.le_of_ble_eq_true rfl) ⟨rfl, rfl⟩
set_option maxHeartbeats 4000000 in
set_option maxRecDepth 20000 in
theorem z_X2_areMomentsSound (ad : Nat → Nat) (cs : ClassId × ClassId × ClassId) (S : mS) (T : mT2) (rest : va_W) (hS : sWF S)  : mCt (mTy cs) yX2_areMomentsSound cX2_areMomentsSound 5 (some .boolean) ⟨2, 0, 0, 46⟩ [.ref (ad 0)] (mWd ad cs (mKof S T) rest) (fun v ws' => v = some (.int (b2i true)) ∧ ∃ T' : mT2, ws' = mWd ad cs (mKof S T') rest) mNo := by
  refine mCt.of (by decide +kernel) (Nat.le_of_ble_eq_true rfl) (fun X hX hE => ?_)
  replace hX : mOK X RX2 cX2_areMomentsSound 5 ⟨2, 0, 0, 46⟩ [] (mTy cs) := hX
  have hn0 := hS.2.1 0 (by decide)
  have hn1 := hS.2.1 1 (by decide)
  have hn2 := hS.2.1 2 (by decide)
  have hn3 := hS.2.1 3 (by decide)
  have ho0 := hS.1 0 (by decide)
  have ho1 := hS.1 1 (by decide)
  have ho2 := hS.1 2 (by decide)
  have ho3 := hS.1 3 (by decide)
  refine r_iconstZ hX dX2_areMomentsSound_0 ?_
  refine r_istore_n hX dX2_areMomentsSound_1 rfl (by decide) rfl ?_
  refine r_iload_n hX dX2_areMomentsSound_2 rfl rfl ?_
  refine r_aload_n hX dX2_areMomentsSound_3 rfl rfl ?_
  refine r_get hX kf_X2_13 0 rfl rfl dX2_areMomentsSound_4 ?_
  refine r_alen (v := iZ 4) hX 2 1 rfl rfl rfl dX2_areMomentsSound_7 ?_
  refine r_icmp_geZ (tgt := 88) hX dX2_areMomentsSound_8 (by decide) (by decide) (by decide) (fun q => absurd q (by decide)) (fun _ => ?_)
  refine r_aload_n hX dX2_areMomentsSound_11 rfl rfl ?_
  refine r_get hX kf_X2_13 0 rfl rfl dX2_areMomentsSound_12 ?_
  refine r_iload_n hX dX2_areMomentsSound_15 rfl rfl ?_
  refine r_laldZ hX 2 1 rfl rfl 0 (by decide) (by decide) (by decide) dX2_areMomentsSound_16 ?_
  refine r_lstore_n hX dX2_areMomentsSound_17 rfl (by decide) rfl ?_
  refine r_iconstZ hX dX2_areMomentsSound_18 ?_
  refine r_istore hX dX2_areMomentsSound_19 (by decide) rfl ?_
  refine r_iload hX dX2_areMomentsSound_21 rfl ?_
  refine r_aload_n hX dX2_areMomentsSound_23 rfl rfl ?_
  refine r_get hX kf_X2_9 0 rfl rfl dX2_areMomentsSound_24 ?_
  refine r_alen (v := iZ 4) hX 1 0 rfl rfl rfl dX2_areMomentsSound_27 ?_
  refine r_icmp_geZ (tgt := 82) hX dX2_areMomentsSound_28 (by decide) (by decide) (by decide) (fun q => absurd q (by decide)) (fun _ => ?_)
  refine r_aload_n hX dX2_areMomentsSound_31 rfl rfl ?_
  refine r_get hX kf_X2_27 0 rfl rfl dX2_areMomentsSound_32 ?_
  refine r_lload_n hX dX2_areMomentsSound_35 rfl rfl ?_
  refine r_callS hX (z_X2_secondOf _ _ _ (by omega)) ks_X2_96 rfl rfl (Nat.le_of_ble_eq_true rfl) ⟨(Nat.le_of_ble_eq_true rfl), (Nat.le_of_ble_eq_true rfl)⟩ ⟨(Nat.le_of_ble_eq_true rfl), (Nat.le_of_ble_eq_true rfl)⟩ dX2_areMomentsSound_36 (fun _ _ z => False.elim z) (fun v9 ws9 h1 => ?_)
  obtain ⟨rfl, hw9⟩ := h1
  subst ws9
  dsimp only [mPush]
  refine r_aload_n hX dX2_areMomentsSound_39 rfl rfl ?_
  refine r_get hX kf_X2_9 0 rfl rfl dX2_areMomentsSound_40 ?_
  refine r_iload hX dX2_areMomentsSound_43 rfl ?_
  refine r_ialdZ hX 1 0 rfl rfl 0 (by decide) (by decide) (by decide) dX2_areMomentsSound_45 ?_
  refine r_i2lZ hX dX2_areMomentsSound_46 (by omega) ?_
  refine r_laddZ hX dX2_areMomentsSound_47 ?_
  refine r_lload_n hX dX2_areMomentsSound_48 rfl rfl ?_
  refine r_callS hX (z_X2_nanoOf _ _ _ (by omega)) ks_X2_92 rfl rfl (Nat.le_of_ble_eq_true rfl) ⟨(Nat.le_of_ble_eq_true rfl), (Nat.le_of_ble_eq_true rfl)⟩ ⟨(Nat.le_of_ble_eq_true rfl), (Nat.le_of_ble_eq_true rfl)⟩ dX2_areMomentsSound_49 (fun _ _ z => False.elim z) (fun v9 ws9 h2 => ?_)
  obtain ⟨rfl, hw9⟩ := h2
  subst ws9
  dsimp only [mPush]
  refine r_aload_n hX dX2_areMomentsSound_52 rfl rfl ?_
  refine r_get hX kf_X2_9 0 rfl rfl dX2_areMomentsSound_53 ?_
  refine r_iload hX dX2_areMomentsSound_56 rfl ?_
  refine r_ialdZ hX 1 0 rfl rfl 0 (by decide) (by decide) (by decide) dX2_areMomentsSound_58 ?_
  refine r_callV hX (c_X1_tell _ _ 12 _ _ _ _ zWd_h1 _ _ _) kv_X2_270 12 zWd_h1 rfl rfl rfl (Nat.le_of_ble_eq_true rfl) ⟨(Nat.le_of_ble_eq_true rfl), (Nat.le_of_ble_eq_true rfl)⟩ ⟨(Nat.le_of_ble_eq_true rfl), (Nat.le_of_ble_eq_true rfl)⟩ dX2_areMomentsSound_59 (fun _ _ z => False.elim z) (fun v9 ws9 h3 => ?_)
  obtain ⟨rfl, hw9⟩ := h3
  subst ws9
  dsimp only [mPush]
  refine r_eqw zWd_t1 ?_
  refine r_aload_n hX dX2_areMomentsSound_62 rfl rfl ?_
  refine r_get hX kf_X2_27 0 rfl rfl dX2_areMomentsSound_63 ?_
  refine r_callS hX (z_X2_numberOf _ _ 12 _ _ _ _ zWd_g1 (by omega)) ks_X2_88 rfl rfl (Nat.le_of_ble_eq_true rfl) ⟨(Nat.le_of_ble_eq_true rfl), (Nat.le_of_ble_eq_true rfl)⟩ ⟨(Nat.le_of_ble_eq_true rfl), (Nat.le_of_ble_eq_true rfl)⟩ dX2_areMomentsSound_66 (fun _ _ z => False.elim z) (fun v9 ws9 h4 => ?_)
  obtain ⟨rfl, hw9⟩ := h4
  subst ws9
  dsimp only [mPush]
  refine r_lload_n hX dX2_areMomentsSound_69 rfl rfl ?_
  refine r_lif_eqZ (tgt := 76) hX dX2_areMomentsSound_70 dX2_areMomentsSound_71 (by decide) (by omega) (by omega) (fun c5 => ?_) (fun c5 => ?_)
  · refine r_iincZ (z := 1) (y := 1) hX dX2_areMomentsSound_76 rfl (by decide) rfl rfl ?_
    refine r_goto (tgt := 21) hX dX2_areMomentsSound_79 (by decide) ?_
    refine r_iload hX dX2_areMomentsSound_21 rfl ?_
    refine r_aload_n hX dX2_areMomentsSound_23 rfl rfl ?_
    refine r_get hX kf_X2_9 0 rfl rfl dX2_areMomentsSound_24 ?_
    refine r_alen (v := iZ 4) hX 1 0 rfl rfl rfl dX2_areMomentsSound_27 ?_
    refine r_icmp_geZ (tgt := 82) hX dX2_areMomentsSound_28 (by decide) (by decide) (by decide) (fun q => absurd q (by decide)) (fun _ => ?_)
    refine r_aload_n hX dX2_areMomentsSound_31 rfl rfl ?_
    refine r_get hX kf_X2_27 0 rfl rfl dX2_areMomentsSound_32 ?_
    refine r_lload_n hX dX2_areMomentsSound_35 rfl rfl ?_
    refine r_callS hX (z_X2_secondOf _ _ _ (by omega)) ks_X2_96 rfl rfl (Nat.le_of_ble_eq_true rfl) ⟨(Nat.le_of_ble_eq_true rfl), (Nat.le_of_ble_eq_true rfl)⟩ ⟨(Nat.le_of_ble_eq_true rfl), (Nat.le_of_ble_eq_true rfl)⟩ dX2_areMomentsSound_36 (fun _ _ z => False.elim z) (fun v9 ws9 h6 => ?_)
    obtain ⟨rfl, hw9⟩ := h6
    subst ws9
    dsimp only [mPush]
    refine r_aload_n hX dX2_areMomentsSound_39 rfl rfl ?_
    refine r_get hX kf_X2_9 0 rfl rfl dX2_areMomentsSound_40 ?_
    refine r_iload hX dX2_areMomentsSound_43 rfl ?_
    refine r_ialdZ hX 1 0 rfl rfl 1 (by decide) (by decide) (by decide) dX2_areMomentsSound_45 ?_
    refine r_i2lZ hX dX2_areMomentsSound_46 (by omega) ?_
    refine r_laddZ hX dX2_areMomentsSound_47 ?_
    refine r_lload_n hX dX2_areMomentsSound_48 rfl rfl ?_
    refine r_callS hX (z_X2_nanoOf _ _ _ (by omega)) ks_X2_92 rfl rfl (Nat.le_of_ble_eq_true rfl) ⟨(Nat.le_of_ble_eq_true rfl), (Nat.le_of_ble_eq_true rfl)⟩ ⟨(Nat.le_of_ble_eq_true rfl), (Nat.le_of_ble_eq_true rfl)⟩ dX2_areMomentsSound_49 (fun _ _ z => False.elim z) (fun v9 ws9 h7 => ?_)
    obtain ⟨rfl, hw9⟩ := h7
    subst ws9
    dsimp only [mPush]
    refine r_aload_n hX dX2_areMomentsSound_52 rfl rfl ?_
    refine r_get hX kf_X2_9 0 rfl rfl dX2_areMomentsSound_53 ?_
    refine r_iload hX dX2_areMomentsSound_56 rfl ?_
    refine r_ialdZ hX 1 0 rfl rfl 1 (by decide) (by decide) (by decide) dX2_areMomentsSound_58 ?_
    refine r_callV hX (c_X1_tell _ _ 12 _ _ _ _ zWd_g1 _ _ _) kv_X2_270 12 zWd_g1 rfl rfl rfl (Nat.le_of_ble_eq_true rfl) ⟨(Nat.le_of_ble_eq_true rfl), (Nat.le_of_ble_eq_true rfl)⟩ ⟨(Nat.le_of_ble_eq_true rfl), (Nat.le_of_ble_eq_true rfl)⟩ dX2_areMomentsSound_59 (fun _ _ z => False.elim z) (fun v9 ws9 h8 => ?_)
    obtain ⟨rfl, hw9⟩ := h8
    subst ws9
    dsimp only [mPush]
    refine r_eqw zWd_t1 ?_
    refine r_aload_n hX dX2_areMomentsSound_62 rfl rfl ?_
    refine r_get hX kf_X2_27 0 rfl rfl dX2_areMomentsSound_63 ?_
    refine r_callS hX (z_X2_numberOf _ _ 12 _ _ _ _ zWd_g1 (by omega)) ks_X2_88 rfl rfl (Nat.le_of_ble_eq_true rfl) ⟨(Nat.le_of_ble_eq_true rfl), (Nat.le_of_ble_eq_true rfl)⟩ ⟨(Nat.le_of_ble_eq_true rfl), (Nat.le_of_ble_eq_true rfl)⟩ dX2_areMomentsSound_66 (fun _ _ z => False.elim z) (fun v9 ws9 h9 => ?_)
    obtain ⟨rfl, hw9⟩ := h9
    subst ws9
    dsimp only [mPush]
    refine r_lload_n hX dX2_areMomentsSound_69 rfl rfl ?_
    refine r_lif_eqZ (tgt := 76) hX dX2_areMomentsSound_70 dX2_areMomentsSound_71 (by decide) (by omega) (by omega) (fun c10 => ?_) (fun c10 => ?_)
    · refine r_iincZ (z := 1) (y := 2) hX dX2_areMomentsSound_76 rfl (by decide) rfl rfl ?_
      refine r_goto (tgt := 21) hX dX2_areMomentsSound_79 (by decide) ?_
      refine r_iload hX dX2_areMomentsSound_21 rfl ?_
      refine r_aload_n hX dX2_areMomentsSound_23 rfl rfl ?_
      refine r_get hX kf_X2_9 0 rfl rfl dX2_areMomentsSound_24 ?_
      refine r_alen (v := iZ 4) hX 1 0 rfl rfl rfl dX2_areMomentsSound_27 ?_
      refine r_icmp_geZ (tgt := 82) hX dX2_areMomentsSound_28 (by decide) (by decide) (by decide) (fun q => absurd q (by decide)) (fun _ => ?_)
      refine r_aload_n hX dX2_areMomentsSound_31 rfl rfl ?_
      refine r_get hX kf_X2_27 0 rfl rfl dX2_areMomentsSound_32 ?_
      refine r_lload_n hX dX2_areMomentsSound_35 rfl rfl ?_
      refine r_callS hX (z_X2_secondOf _ _ _ (by omega)) ks_X2_96 rfl rfl (Nat.le_of_ble_eq_true rfl) ⟨(Nat.le_of_ble_eq_true rfl), (Nat.le_of_ble_eq_true rfl)⟩ ⟨(Nat.le_of_ble_eq_true rfl), (Nat.le_of_ble_eq_true rfl)⟩ dX2_areMomentsSound_36 (fun _ _ z => False.elim z) (fun v9 ws9 h11 => ?_)
      obtain ⟨rfl, hw9⟩ := h11
      subst ws9
      dsimp only [mPush]
      refine r_aload_n hX dX2_areMomentsSound_39 rfl rfl ?_
      refine r_get hX kf_X2_9 0 rfl rfl dX2_areMomentsSound_40 ?_
      refine r_iload hX dX2_areMomentsSound_43 rfl ?_
      refine r_ialdZ hX 1 0 rfl rfl 2 (by decide) (by decide) (by decide) dX2_areMomentsSound_45 ?_
      refine r_i2lZ hX dX2_areMomentsSound_46 (by omega) ?_
      refine r_laddZ hX dX2_areMomentsSound_47 ?_
      refine r_lload_n hX dX2_areMomentsSound_48 rfl rfl ?_
      refine r_callS hX (z_X2_nanoOf _ _ _ (by omega)) ks_X2_92 rfl rfl (Nat.le_of_ble_eq_true rfl) ⟨(Nat.le_of_ble_eq_true rfl), (Nat.le_of_ble_eq_true rfl)⟩ ⟨(Nat.le_of_ble_eq_true rfl), (Nat.le_of_ble_eq_true rfl)⟩ dX2_areMomentsSound_49 (fun _ _ z => False.elim z) (fun v9 ws9 h12 => ?_)
      obtain ⟨rfl, hw9⟩ := h12
      subst ws9
      dsimp only [mPush]
      refine r_aload_n hX dX2_areMomentsSound_52 rfl rfl ?_
      refine r_get hX kf_X2_9 0 rfl rfl dX2_areMomentsSound_53 ?_
      refine r_iload hX dX2_areMomentsSound_56 rfl ?_
      refine r_ialdZ hX 1 0 rfl rfl 2 (by decide) (by decide) (by decide) dX2_areMomentsSound_58 ?_
      refine r_callV hX (c_X1_tell _ _ 12 _ _ _ _ zWd_g1 _ _ _) kv_X2_270 12 zWd_g1 rfl rfl rfl (Nat.le_of_ble_eq_true rfl) ⟨(Nat.le_of_ble_eq_true rfl), (Nat.le_of_ble_eq_true rfl)⟩ ⟨(Nat.le_of_ble_eq_true rfl), (Nat.le_of_ble_eq_true rfl)⟩ dX2_areMomentsSound_59 (fun _ _ z => False.elim z) (fun v9 ws9 h13 => ?_)
      obtain ⟨rfl, hw9⟩ := h13
      subst ws9
      dsimp only [mPush]
      refine r_eqw zWd_t1 ?_
      refine r_aload_n hX dX2_areMomentsSound_62 rfl rfl ?_
      refine r_get hX kf_X2_27 0 rfl rfl dX2_areMomentsSound_63 ?_
      refine r_callS hX (z_X2_numberOf _ _ 12 _ _ _ _ zWd_g1 (by omega)) ks_X2_88 rfl rfl (Nat.le_of_ble_eq_true rfl) ⟨(Nat.le_of_ble_eq_true rfl), (Nat.le_of_ble_eq_true rfl)⟩ ⟨(Nat.le_of_ble_eq_true rfl), (Nat.le_of_ble_eq_true rfl)⟩ dX2_areMomentsSound_66 (fun _ _ z => False.elim z) (fun v9 ws9 h14 => ?_)
      obtain ⟨rfl, hw9⟩ := h14
      subst ws9
      dsimp only [mPush]
      refine r_lload_n hX dX2_areMomentsSound_69 rfl rfl ?_
      refine r_lif_eqZ (tgt := 76) hX dX2_areMomentsSound_70 dX2_areMomentsSound_71 (by decide) (by omega) (by omega) (fun c15 => ?_) (fun c15 => ?_)
      · refine r_iincZ (z := 1) (y := 3) hX dX2_areMomentsSound_76 rfl (by decide) rfl rfl ?_
        refine r_goto (tgt := 21) hX dX2_areMomentsSound_79 (by decide) ?_
        refine r_iload hX dX2_areMomentsSound_21 rfl ?_
        refine r_aload_n hX dX2_areMomentsSound_23 rfl rfl ?_
        refine r_get hX kf_X2_9 0 rfl rfl dX2_areMomentsSound_24 ?_
        refine r_alen (v := iZ 4) hX 1 0 rfl rfl rfl dX2_areMomentsSound_27 ?_
        refine r_icmp_geZ (tgt := 82) hX dX2_areMomentsSound_28 (by decide) (by decide) (by decide) (fun q => absurd q (by decide)) (fun _ => ?_)
        refine r_aload_n hX dX2_areMomentsSound_31 rfl rfl ?_
        refine r_get hX kf_X2_27 0 rfl rfl dX2_areMomentsSound_32 ?_
        refine r_lload_n hX dX2_areMomentsSound_35 rfl rfl ?_
        refine r_callS hX (z_X2_secondOf _ _ _ (by omega)) ks_X2_96 rfl rfl (Nat.le_of_ble_eq_true rfl) ⟨(Nat.le_of_ble_eq_true rfl), (Nat.le_of_ble_eq_true rfl)⟩ ⟨(Nat.le_of_ble_eq_true rfl), (Nat.le_of_ble_eq_true rfl)⟩ dX2_areMomentsSound_36 (fun _ _ z => False.elim z) (fun v9 ws9 h16 => ?_)
        obtain ⟨rfl, hw9⟩ := h16
        subst ws9
        dsimp only [mPush]
        refine r_aload_n hX dX2_areMomentsSound_39 rfl rfl ?_
        refine r_get hX kf_X2_9 0 rfl rfl dX2_areMomentsSound_40 ?_
        refine r_iload hX dX2_areMomentsSound_43 rfl ?_
        refine r_ialdZ hX 1 0 rfl rfl 3 (by decide) (by decide) (by decide) dX2_areMomentsSound_45 ?_
        refine r_i2lZ hX dX2_areMomentsSound_46 (by omega) ?_
        refine r_laddZ hX dX2_areMomentsSound_47 ?_
        refine r_lload_n hX dX2_areMomentsSound_48 rfl rfl ?_
        refine r_callS hX (z_X2_nanoOf _ _ _ (by omega)) ks_X2_92 rfl rfl (Nat.le_of_ble_eq_true rfl) ⟨(Nat.le_of_ble_eq_true rfl), (Nat.le_of_ble_eq_true rfl)⟩ ⟨(Nat.le_of_ble_eq_true rfl), (Nat.le_of_ble_eq_true rfl)⟩ dX2_areMomentsSound_49 (fun _ _ z => False.elim z) (fun v9 ws9 h17 => ?_)
        obtain ⟨rfl, hw9⟩ := h17
        subst ws9
        dsimp only [mPush]
        refine r_aload_n hX dX2_areMomentsSound_52 rfl rfl ?_
        refine r_get hX kf_X2_9 0 rfl rfl dX2_areMomentsSound_53 ?_
        refine r_iload hX dX2_areMomentsSound_56 rfl ?_
        refine r_ialdZ hX 1 0 rfl rfl 3 (by decide) (by decide) (by decide) dX2_areMomentsSound_58 ?_
        refine r_callV hX (c_X1_tell _ _ 12 _ _ _ _ zWd_g1 _ _ _) kv_X2_270 12 zWd_g1 rfl rfl rfl (Nat.le_of_ble_eq_true rfl) ⟨(Nat.le_of_ble_eq_true rfl), (Nat.le_of_ble_eq_true rfl)⟩ ⟨(Nat.le_of_ble_eq_true rfl), (Nat.le_of_ble_eq_true rfl)⟩ dX2_areMomentsSound_59 (fun _ _ z => False.elim z) (fun v9 ws9 h18 => ?_)
        obtain ⟨rfl, hw9⟩ := h18
        subst ws9
        dsimp only [mPush]
        refine r_eqw zWd_t1 ?_
        refine r_aload_n hX dX2_areMomentsSound_62 rfl rfl ?_
        refine r_get hX kf_X2_27 0 rfl rfl dX2_areMomentsSound_63 ?_
        refine r_callS hX (z_X2_numberOf _ _ 12 _ _ _ _ zWd_g1 (by omega)) ks_X2_88 rfl rfl (Nat.le_of_ble_eq_true rfl) ⟨(Nat.le_of_ble_eq_true rfl), (Nat.le_of_ble_eq_true rfl)⟩ ⟨(Nat.le_of_ble_eq_true rfl), (Nat.le_of_ble_eq_true rfl)⟩ dX2_areMomentsSound_66 (fun _ _ z => False.elim z) (fun v9 ws9 h19 => ?_)
        obtain ⟨rfl, hw9⟩ := h19
        subst ws9
        dsimp only [mPush]
        refine r_lload_n hX dX2_areMomentsSound_69 rfl rfl ?_
        refine r_lif_eqZ (tgt := 76) hX dX2_areMomentsSound_70 dX2_areMomentsSound_71 (by decide) (by omega) (by omega) (fun c20 => ?_) (fun c20 => ?_)
        · refine r_iincZ (z := 1) (y := 4) hX dX2_areMomentsSound_76 rfl (by decide) rfl rfl ?_
          refine r_goto (tgt := 21) hX dX2_areMomentsSound_79 (by decide) ?_
          refine r_iload hX dX2_areMomentsSound_21 rfl ?_
          refine r_aload_n hX dX2_areMomentsSound_23 rfl rfl ?_
          refine r_get hX kf_X2_9 0 rfl rfl dX2_areMomentsSound_24 ?_
          refine r_alen (v := iZ 4) hX 1 0 rfl rfl rfl dX2_areMomentsSound_27 ?_
          refine r_icmp_geZ (tgt := 82) hX dX2_areMomentsSound_28 (by decide) (by decide) (by decide) (fun _ => ?_) (fun q => absurd (by decide) q)
          refine r_iincZ (z := 1) (y := 1) hX dX2_areMomentsSound_82 rfl (by decide) rfl rfl ?_
          refine r_goto (tgt := 2) hX dX2_areMomentsSound_85 (by decide) ?_
          refine r_iload_n hX dX2_areMomentsSound_2 rfl rfl ?_
          refine r_aload_n hX dX2_areMomentsSound_3 rfl rfl ?_
          refine r_get hX kf_X2_13 0 rfl rfl dX2_areMomentsSound_4 ?_
          refine r_alen (v := iZ 4) hX 2 1 rfl rfl rfl dX2_areMomentsSound_7 ?_
          refine r_icmp_geZ (tgt := 88) hX dX2_areMomentsSound_8 (by decide) (by decide) (by decide) (fun q => absurd q (by decide)) (fun _ => ?_)
          refine r_aload_n hX dX2_areMomentsSound_11 rfl rfl ?_
          refine r_get hX kf_X2_13 0 rfl rfl dX2_areMomentsSound_12 ?_
          refine r_iload_n hX dX2_areMomentsSound_15 rfl rfl ?_
          refine r_laldZ hX 2 1 rfl rfl 1 (by decide) (by decide) (by decide) dX2_areMomentsSound_16 ?_
          refine r_lstore_n hX dX2_areMomentsSound_17 rfl (by decide) rfl ?_
          refine r_iconstZ hX dX2_areMomentsSound_18 ?_
          refine r_istore hX dX2_areMomentsSound_19 (by decide) rfl ?_
          refine r_iload hX dX2_areMomentsSound_21 rfl ?_
          refine r_aload_n hX dX2_areMomentsSound_23 rfl rfl ?_
          refine r_get hX kf_X2_9 0 rfl rfl dX2_areMomentsSound_24 ?_
          refine r_alen (v := iZ 4) hX 1 0 rfl rfl rfl dX2_areMomentsSound_27 ?_
          refine r_icmp_geZ (tgt := 82) hX dX2_areMomentsSound_28 (by decide) (by decide) (by decide) (fun q => absurd q (by decide)) (fun _ => ?_)
          refine r_aload_n hX dX2_areMomentsSound_31 rfl rfl ?_
          refine r_get hX kf_X2_27 0 rfl rfl dX2_areMomentsSound_32 ?_
          refine r_lload_n hX dX2_areMomentsSound_35 rfl rfl ?_
          refine r_callS hX (z_X2_secondOf _ _ _ (by omega)) ks_X2_96 rfl rfl (Nat.le_of_ble_eq_true rfl) ⟨(Nat.le_of_ble_eq_true rfl), (Nat.le_of_ble_eq_true rfl)⟩ ⟨(Nat.le_of_ble_eq_true rfl), (Nat.le_of_ble_eq_true rfl)⟩ dX2_areMomentsSound_36 (fun _ _ z => False.elim z) (fun v9 ws9 h21 => ?_)
          obtain ⟨rfl, hw9⟩ := h21
          subst ws9
          dsimp only [mPush]
          refine r_aload_n hX dX2_areMomentsSound_39 rfl rfl ?_
          refine r_get hX kf_X2_9 0 rfl rfl dX2_areMomentsSound_40 ?_
          refine r_iload hX dX2_areMomentsSound_43 rfl ?_
          refine r_ialdZ hX 1 0 rfl rfl 0 (by decide) (by decide) (by decide) dX2_areMomentsSound_45 ?_
          refine r_i2lZ hX dX2_areMomentsSound_46 (by omega) ?_
          refine r_laddZ hX dX2_areMomentsSound_47 ?_
          refine r_lload_n hX dX2_areMomentsSound_48 rfl rfl ?_
          refine r_callS hX (z_X2_nanoOf _ _ _ (by omega)) ks_X2_92 rfl rfl (Nat.le_of_ble_eq_true rfl) ⟨(Nat.le_of_ble_eq_true rfl), (Nat.le_of_ble_eq_true rfl)⟩ ⟨(Nat.le_of_ble_eq_true rfl), (Nat.le_of_ble_eq_true rfl)⟩ dX2_areMomentsSound_49 (fun _ _ z => False.elim z) (fun v9 ws9 h22 => ?_)
          obtain ⟨rfl, hw9⟩ := h22
          subst ws9
          dsimp only [mPush]
          refine r_aload_n hX dX2_areMomentsSound_52 rfl rfl ?_
          refine r_get hX kf_X2_9 0 rfl rfl dX2_areMomentsSound_53 ?_
          refine r_iload hX dX2_areMomentsSound_56 rfl ?_
          refine r_ialdZ hX 1 0 rfl rfl 0 (by decide) (by decide) (by decide) dX2_areMomentsSound_58 ?_
          refine r_callV hX (c_X1_tell _ _ 12 _ _ _ _ zWd_g1 _ _ _) kv_X2_270 12 zWd_g1 rfl rfl rfl (Nat.le_of_ble_eq_true rfl) ⟨(Nat.le_of_ble_eq_true rfl), (Nat.le_of_ble_eq_true rfl)⟩ ⟨(Nat.le_of_ble_eq_true rfl), (Nat.le_of_ble_eq_true rfl)⟩ dX2_areMomentsSound_59 (fun _ _ z => False.elim z) (fun v9 ws9 h23 => ?_)
          obtain ⟨rfl, hw9⟩ := h23
          subst ws9
          dsimp only [mPush]
          refine r_eqw zWd_t1 ?_
          refine r_aload_n hX dX2_areMomentsSound_62 rfl rfl ?_
          refine r_get hX kf_X2_27 0 rfl rfl dX2_areMomentsSound_63 ?_
          refine r_callS hX (z_X2_numberOf _ _ 12 _ _ _ _ zWd_g1 (by omega)) ks_X2_88 rfl rfl (Nat.le_of_ble_eq_true rfl) ⟨(Nat.le_of_ble_eq_true rfl), (Nat.le_of_ble_eq_true rfl)⟩ ⟨(Nat.le_of_ble_eq_true rfl), (Nat.le_of_ble_eq_true rfl)⟩ dX2_areMomentsSound_66 (fun _ _ z => False.elim z) (fun v9 ws9 h24 => ?_)
          obtain ⟨rfl, hw9⟩ := h24
          subst ws9
          dsimp only [mPush]
          refine r_lload_n hX dX2_areMomentsSound_69 rfl rfl ?_
          refine r_lif_eqZ (tgt := 76) hX dX2_areMomentsSound_70 dX2_areMomentsSound_71 (by decide) (by omega) (by omega) (fun c25 => ?_) (fun c25 => ?_)
          · refine r_iincZ (z := 1) (y := 1) hX dX2_areMomentsSound_76 rfl (by decide) rfl rfl ?_
            refine r_goto (tgt := 21) hX dX2_areMomentsSound_79 (by decide) ?_
            refine r_iload hX dX2_areMomentsSound_21 rfl ?_
            refine r_aload_n hX dX2_areMomentsSound_23 rfl rfl ?_
            refine r_get hX kf_X2_9 0 rfl rfl dX2_areMomentsSound_24 ?_
            refine r_alen (v := iZ 4) hX 1 0 rfl rfl rfl dX2_areMomentsSound_27 ?_
            refine r_icmp_geZ (tgt := 82) hX dX2_areMomentsSound_28 (by decide) (by decide) (by decide) (fun q => absurd q (by decide)) (fun _ => ?_)
            refine r_aload_n hX dX2_areMomentsSound_31 rfl rfl ?_
            refine r_get hX kf_X2_27 0 rfl rfl dX2_areMomentsSound_32 ?_
            refine r_lload_n hX dX2_areMomentsSound_35 rfl rfl ?_
            refine r_callS hX (z_X2_secondOf _ _ _ (by omega)) ks_X2_96 rfl rfl (Nat.le_of_ble_eq_true rfl) ⟨(Nat.le_of_ble_eq_true rfl), (Nat.le_of_ble_eq_true rfl)⟩ ⟨(Nat.le_of_ble_eq_true rfl), (Nat.le_of_ble_eq_true rfl)⟩ dX2_areMomentsSound_36 (fun _ _ z => False.elim z) (fun v9 ws9 h26 => ?_)
            obtain ⟨rfl, hw9⟩ := h26
            subst ws9
            dsimp only [mPush]
            refine r_aload_n hX dX2_areMomentsSound_39 rfl rfl ?_
            refine r_get hX kf_X2_9 0 rfl rfl dX2_areMomentsSound_40 ?_
            refine r_iload hX dX2_areMomentsSound_43 rfl ?_
            refine r_ialdZ hX 1 0 rfl rfl 1 (by decide) (by decide) (by decide) dX2_areMomentsSound_45 ?_
            refine r_i2lZ hX dX2_areMomentsSound_46 (by omega) ?_
            refine r_laddZ hX dX2_areMomentsSound_47 ?_
            refine r_lload_n hX dX2_areMomentsSound_48 rfl rfl ?_
            refine r_callS hX (z_X2_nanoOf _ _ _ (by omega)) ks_X2_92 rfl rfl (Nat.le_of_ble_eq_true rfl) ⟨(Nat.le_of_ble_eq_true rfl), (Nat.le_of_ble_eq_true rfl)⟩ ⟨(Nat.le_of_ble_eq_true rfl), (Nat.le_of_ble_eq_true rfl)⟩ dX2_areMomentsSound_49 (fun _ _ z => False.elim z) (fun v9 ws9 h27 => ?_)
            obtain ⟨rfl, hw9⟩ := h27
            subst ws9
            dsimp only [mPush]
            refine r_aload_n hX dX2_areMomentsSound_52 rfl rfl ?_
            refine r_get hX kf_X2_9 0 rfl rfl dX2_areMomentsSound_53 ?_
            refine r_iload hX dX2_areMomentsSound_56 rfl ?_
            refine r_ialdZ hX 1 0 rfl rfl 1 (by decide) (by decide) (by decide) dX2_areMomentsSound_58 ?_
            refine r_callV hX (c_X1_tell _ _ 12 _ _ _ _ zWd_g1 _ _ _) kv_X2_270 12 zWd_g1 rfl rfl rfl (Nat.le_of_ble_eq_true rfl) ⟨(Nat.le_of_ble_eq_true rfl), (Nat.le_of_ble_eq_true rfl)⟩ ⟨(Nat.le_of_ble_eq_true rfl), (Nat.le_of_ble_eq_true rfl)⟩ dX2_areMomentsSound_59 (fun _ _ z => False.elim z) (fun v9 ws9 h28 => ?_)
            obtain ⟨rfl, hw9⟩ := h28
            subst ws9
            dsimp only [mPush]
            refine r_eqw zWd_t1 ?_
            refine r_aload_n hX dX2_areMomentsSound_62 rfl rfl ?_
            refine r_get hX kf_X2_27 0 rfl rfl dX2_areMomentsSound_63 ?_
            refine r_callS hX (z_X2_numberOf _ _ 12 _ _ _ _ zWd_g1 (by omega)) ks_X2_88 rfl rfl (Nat.le_of_ble_eq_true rfl) ⟨(Nat.le_of_ble_eq_true rfl), (Nat.le_of_ble_eq_true rfl)⟩ ⟨(Nat.le_of_ble_eq_true rfl), (Nat.le_of_ble_eq_true rfl)⟩ dX2_areMomentsSound_66 (fun _ _ z => False.elim z) (fun v9 ws9 h29 => ?_)
            obtain ⟨rfl, hw9⟩ := h29
            subst ws9
            dsimp only [mPush]
            refine r_lload_n hX dX2_areMomentsSound_69 rfl rfl ?_
            refine r_lif_eqZ (tgt := 76) hX dX2_areMomentsSound_70 dX2_areMomentsSound_71 (by decide) (by omega) (by omega) (fun c30 => ?_) (fun c30 => ?_)
            · refine r_iincZ (z := 1) (y := 2) hX dX2_areMomentsSound_76 rfl (by decide) rfl rfl ?_
              refine r_goto (tgt := 21) hX dX2_areMomentsSound_79 (by decide) ?_
              refine r_iload hX dX2_areMomentsSound_21 rfl ?_
              refine r_aload_n hX dX2_areMomentsSound_23 rfl rfl ?_
              refine r_get hX kf_X2_9 0 rfl rfl dX2_areMomentsSound_24 ?_
              refine r_alen (v := iZ 4) hX 1 0 rfl rfl rfl dX2_areMomentsSound_27 ?_
              refine r_icmp_geZ (tgt := 82) hX dX2_areMomentsSound_28 (by decide) (by decide) (by decide) (fun q => absurd q (by decide)) (fun _ => ?_)
              refine r_aload_n hX dX2_areMomentsSound_31 rfl rfl ?_
              refine r_get hX kf_X2_27 0 rfl rfl dX2_areMomentsSound_32 ?_
              refine r_lload_n hX dX2_areMomentsSound_35 rfl rfl ?_
              refine r_callS hX (z_X2_secondOf _ _ _ (by omega)) ks_X2_96 rfl rfl (Nat.le_of_ble_eq_true rfl) ⟨(Nat.le_of_ble_eq_true rfl), (Nat.le_of_ble_eq_true rfl)⟩ ⟨(Nat.le_of_ble_eq_true rfl), (Nat.le_of_ble_eq_true rfl)⟩ dX2_areMomentsSound_36 (fun _ _ z => False.elim z) (fun v9 ws9 h31 => ?_)
              obtain ⟨rfl, hw9⟩ := h31
              subst ws9
              dsimp only [mPush]
              refine r_aload_n hX dX2_areMomentsSound_39 rfl rfl ?_
              refine r_get hX kf_X2_9 0 rfl rfl dX2_areMomentsSound_40 ?_
              refine r_iload hX dX2_areMomentsSound_43 rfl ?_
              refine r_ialdZ hX 1 0 rfl rfl 2 (by decide) (by decide) (by decide) dX2_areMomentsSound_45 ?_
              refine r_i2lZ hX dX2_areMomentsSound_46 (by omega) ?_
              refine r_laddZ hX dX2_areMomentsSound_47 ?_
              refine r_lload_n hX dX2_areMomentsSound_48 rfl rfl ?_
              refine r_callS hX (z_X2_nanoOf _ _ _ (by omega)) ks_X2_92 rfl rfl (Nat.le_of_ble_eq_true rfl) ⟨(Nat.le_of_ble_eq_true rfl), (Nat.le_of_ble_eq_true rfl)⟩ ⟨(Nat.le_of_ble_eq_true rfl), (Nat.le_of_ble_eq_true rfl)⟩ dX2_areMomentsSound_49 (fun _ _ z => False.elim z) (fun v9 ws9 h32 => ?_)
              obtain ⟨rfl, hw9⟩ := h32
              subst ws9
              dsimp only [mPush]
              refine r_aload_n hX dX2_areMomentsSound_52 rfl rfl ?_
              refine r_get hX kf_X2_9 0 rfl rfl dX2_areMomentsSound_53 ?_
              refine r_iload hX dX2_areMomentsSound_56 rfl ?_
              refine r_ialdZ hX 1 0 rfl rfl 2 (by decide) (by decide) (by decide) dX2_areMomentsSound_58 ?_
              refine r_callV hX (c_X1_tell _ _ 12 _ _ _ _ zWd_g1 _ _ _) kv_X2_270 12 zWd_g1 rfl rfl rfl (Nat.le_of_ble_eq_true rfl) ⟨(Nat.le_of_ble_eq_true rfl), (Nat.le_of_ble_eq_true rfl)⟩ ⟨(Nat.le_of_ble_eq_true rfl), (Nat.le_of_ble_eq_true rfl)⟩ dX2_areMomentsSound_59 (fun _ _ z => False.elim z) (fun v9 ws9 h33 => ?_)
              obtain ⟨rfl, hw9⟩ := h33
              subst ws9
              dsimp only [mPush]
              refine r_eqw zWd_t1 ?_
              refine r_aload_n hX dX2_areMomentsSound_62 rfl rfl ?_
              refine r_get hX kf_X2_27 0 rfl rfl dX2_areMomentsSound_63 ?_
              refine r_callS hX (z_X2_numberOf _ _ 12 _ _ _ _ zWd_g1 (by omega)) ks_X2_88 rfl rfl (Nat.le_of_ble_eq_true rfl) ⟨(Nat.le_of_ble_eq_true rfl), (Nat.le_of_ble_eq_true rfl)⟩ ⟨(Nat.le_of_ble_eq_true rfl), (Nat.le_of_ble_eq_true rfl)⟩ dX2_areMomentsSound_66 (fun _ _ z => False.elim z) (fun v9 ws9 h34 => ?_)
              obtain ⟨rfl, hw9⟩ := h34
              subst ws9
              dsimp only [mPush]
              refine r_lload_n hX dX2_areMomentsSound_69 rfl rfl ?_
              refine r_lif_eqZ (tgt := 76) hX dX2_areMomentsSound_70 dX2_areMomentsSound_71 (by decide) (by omega) (by omega) (fun c35 => ?_) (fun c35 => ?_)
              · refine r_iincZ (z := 1) (y := 3) hX dX2_areMomentsSound_76 rfl (by decide) rfl rfl ?_
                refine r_goto (tgt := 21) hX dX2_areMomentsSound_79 (by decide) ?_
                refine r_iload hX dX2_areMomentsSound_21 rfl ?_
                refine r_aload_n hX dX2_areMomentsSound_23 rfl rfl ?_
                refine r_get hX kf_X2_9 0 rfl rfl dX2_areMomentsSound_24 ?_
                refine r_alen (v := iZ 4) hX 1 0 rfl rfl rfl dX2_areMomentsSound_27 ?_
                refine r_icmp_geZ (tgt := 82) hX dX2_areMomentsSound_28 (by decide) (by decide) (by decide) (fun q => absurd q (by decide)) (fun _ => ?_)
                refine r_aload_n hX dX2_areMomentsSound_31 rfl rfl ?_
                refine r_get hX kf_X2_27 0 rfl rfl dX2_areMomentsSound_32 ?_
                refine r_lload_n hX dX2_areMomentsSound_35 rfl rfl ?_
                refine r_callS hX (z_X2_secondOf _ _ _ (by omega)) ks_X2_96 rfl rfl (Nat.le_of_ble_eq_true rfl) ⟨(Nat.le_of_ble_eq_true rfl), (Nat.le_of_ble_eq_true rfl)⟩ ⟨(Nat.le_of_ble_eq_true rfl), (Nat.le_of_ble_eq_true rfl)⟩ dX2_areMomentsSound_36 (fun _ _ z => False.elim z) (fun v9 ws9 h36 => ?_)
                obtain ⟨rfl, hw9⟩ := h36
                subst ws9
                dsimp only [mPush]
                refine r_aload_n hX dX2_areMomentsSound_39 rfl rfl ?_
                refine r_get hX kf_X2_9 0 rfl rfl dX2_areMomentsSound_40 ?_
                refine r_iload hX dX2_areMomentsSound_43 rfl ?_
                refine r_ialdZ hX 1 0 rfl rfl 3 (by decide) (by decide) (by decide) dX2_areMomentsSound_45 ?_
                refine r_i2lZ hX dX2_areMomentsSound_46 (by omega) ?_
                refine r_laddZ hX dX2_areMomentsSound_47 ?_
                refine r_lload_n hX dX2_areMomentsSound_48 rfl rfl ?_
                refine r_callS hX (z_X2_nanoOf _ _ _ (by omega)) ks_X2_92 rfl rfl (Nat.le_of_ble_eq_true rfl) ⟨(Nat.le_of_ble_eq_true rfl), (Nat.le_of_ble_eq_true rfl)⟩ ⟨(Nat.le_of_ble_eq_true rfl), (Nat.le_of_ble_eq_true rfl)⟩ dX2_areMomentsSound_49 (fun _ _ z => False.elim z) (fun v9 ws9 h37 => ?_)
                obtain ⟨rfl, hw9⟩ := h37
                subst ws9
                dsimp only [mPush]
                refine r_aload_n hX dX2_areMomentsSound_52 rfl rfl ?_
                refine r_get hX kf_X2_9 0 rfl rfl dX2_areMomentsSound_53 ?_
                refine r_iload hX dX2_areMomentsSound_56 rfl ?_
                refine r_ialdZ hX 1 0 rfl rfl 3 (by decide) (by decide) (by decide) dX2_areMomentsSound_58 ?_
                refine r_callV hX (c_X1_tell _ _ 12 _ _ _ _ zWd_g1 _ _ _) kv_X2_270 12 zWd_g1 rfl rfl rfl (Nat.le_of_ble_eq_true rfl) ⟨(Nat.le_of_ble_eq_true rfl), (Nat.le_of_ble_eq_true rfl)⟩ ⟨(Nat.le_of_ble_eq_true rfl), (Nat.le_of_ble_eq_true rfl)⟩ dX2_areMomentsSound_59 (fun _ _ z => False.elim z) (fun v9 ws9 h38 => ?_)
                obtain ⟨rfl, hw9⟩ := h38
                subst ws9
                dsimp only [mPush]
                refine r_eqw zWd_t1 ?_
                refine r_aload_n hX dX2_areMomentsSound_62 rfl rfl ?_
                refine r_get hX kf_X2_27 0 rfl rfl dX2_areMomentsSound_63 ?_
                refine r_callS hX (z_X2_numberOf _ _ 12 _ _ _ _ zWd_g1 (by omega)) ks_X2_88 rfl rfl (Nat.le_of_ble_eq_true rfl) ⟨(Nat.le_of_ble_eq_true rfl), (Nat.le_of_ble_eq_true rfl)⟩ ⟨(Nat.le_of_ble_eq_true rfl), (Nat.le_of_ble_eq_true rfl)⟩ dX2_areMomentsSound_66 (fun _ _ z => False.elim z) (fun v9 ws9 h39 => ?_)
                obtain ⟨rfl, hw9⟩ := h39
                subst ws9
                dsimp only [mPush]
                refine r_lload_n hX dX2_areMomentsSound_69 rfl rfl ?_
                refine r_lif_eqZ (tgt := 76) hX dX2_areMomentsSound_70 dX2_areMomentsSound_71 (by decide) (by omega) (by omega) (fun c40 => ?_) (fun c40 => ?_)
                · refine r_iincZ (z := 1) (y := 4) hX dX2_areMomentsSound_76 rfl (by decide) rfl rfl ?_
                  refine r_goto (tgt := 21) hX dX2_areMomentsSound_79 (by decide) ?_
                  refine r_iload hX dX2_areMomentsSound_21 rfl ?_
                  refine r_aload_n hX dX2_areMomentsSound_23 rfl rfl ?_
                  refine r_get hX kf_X2_9 0 rfl rfl dX2_areMomentsSound_24 ?_
                  refine r_alen (v := iZ 4) hX 1 0 rfl rfl rfl dX2_areMomentsSound_27 ?_
                  refine r_icmp_geZ (tgt := 82) hX dX2_areMomentsSound_28 (by decide) (by decide) (by decide) (fun _ => ?_) (fun q => absurd (by decide) q)
                  refine r_iincZ (z := 1) (y := 2) hX dX2_areMomentsSound_82 rfl (by decide) rfl rfl ?_
                  refine r_goto (tgt := 2) hX dX2_areMomentsSound_85 (by decide) ?_
                  refine r_iload_n hX dX2_areMomentsSound_2 rfl rfl ?_
                  refine r_aload_n hX dX2_areMomentsSound_3 rfl rfl ?_
                  refine r_get hX kf_X2_13 0 rfl rfl dX2_areMomentsSound_4 ?_
                  refine r_alen (v := iZ 4) hX 2 1 rfl rfl rfl dX2_areMomentsSound_7 ?_
                  refine r_icmp_geZ (tgt := 88) hX dX2_areMomentsSound_8 (by decide) (by decide) (by decide) (fun q => absurd q (by decide)) (fun _ => ?_)
                  refine r_aload_n hX dX2_areMomentsSound_11 rfl rfl ?_
                  refine r_get hX kf_X2_13 0 rfl rfl dX2_areMomentsSound_12 ?_
                  refine r_iload_n hX dX2_areMomentsSound_15 rfl rfl ?_
                  refine r_laldZ hX 2 1 rfl rfl 2 (by decide) (by decide) (by decide) dX2_areMomentsSound_16 ?_
                  refine r_lstore_n hX dX2_areMomentsSound_17 rfl (by decide) rfl ?_
                  refine r_iconstZ hX dX2_areMomentsSound_18 ?_
                  refine r_istore hX dX2_areMomentsSound_19 (by decide) rfl ?_
                  refine r_iload hX dX2_areMomentsSound_21 rfl ?_
                  refine r_aload_n hX dX2_areMomentsSound_23 rfl rfl ?_
                  refine r_get hX kf_X2_9 0 rfl rfl dX2_areMomentsSound_24 ?_
                  refine r_alen (v := iZ 4) hX 1 0 rfl rfl rfl dX2_areMomentsSound_27 ?_
                  refine r_icmp_geZ (tgt := 82) hX dX2_areMomentsSound_28 (by decide) (by decide) (by decide) (fun q => absurd q (by decide)) (fun _ => ?_)
                  refine r_aload_n hX dX2_areMomentsSound_31 rfl rfl ?_
                  refine r_get hX kf_X2_27 0 rfl rfl dX2_areMomentsSound_32 ?_
                  refine r_lload_n hX dX2_areMomentsSound_35 rfl rfl ?_
                  refine r_callS hX (z_X2_secondOf _ _ _ (by omega)) ks_X2_96 rfl rfl (Nat.le_of_ble_eq_true rfl) ⟨(Nat.le_of_ble_eq_true rfl), (Nat.le_of_ble_eq_true rfl)⟩ ⟨(Nat.le_of_ble_eq_true rfl), (Nat.le_of_ble_eq_true rfl)⟩ dX2_areMomentsSound_36 (fun _ _ z => False.elim z) (fun v9 ws9 h41 => ?_)
                  obtain ⟨rfl, hw9⟩ := h41
                  subst ws9
                  dsimp only [mPush]
                  refine r_aload_n hX dX2_areMomentsSound_39 rfl rfl ?_
                  refine r_get hX kf_X2_9 0 rfl rfl dX2_areMomentsSound_40 ?_
                  refine r_iload hX dX2_areMomentsSound_43 rfl ?_
                  refine r_ialdZ hX 1 0 rfl rfl 0 (by decide) (by decide) (by decide) dX2_areMomentsSound_45 ?_
                  refine r_i2lZ hX dX2_areMomentsSound_46 (by omega) ?_
                  refine r_laddZ hX dX2_areMomentsSound_47 ?_
                  refine r_lload_n hX dX2_areMomentsSound_48 rfl rfl ?_
                  refine r_callS hX (z_X2_nanoOf _ _ _ (by omega)) ks_X2_92 rfl rfl (Nat.le_of_ble_eq_true rfl) ⟨(Nat.le_of_ble_eq_true rfl), (Nat.le_of_ble_eq_true rfl)⟩ ⟨(Nat.le_of_ble_eq_true rfl), (Nat.le_of_ble_eq_true rfl)⟩ dX2_areMomentsSound_49 (fun _ _ z => False.elim z) (fun v9 ws9 h42 => ?_)
                  obtain ⟨rfl, hw9⟩ := h42
                  subst ws9
                  dsimp only [mPush]
                  refine r_aload_n hX dX2_areMomentsSound_52 rfl rfl ?_
                  refine r_get hX kf_X2_9 0 rfl rfl dX2_areMomentsSound_53 ?_
                  refine r_iload hX dX2_areMomentsSound_56 rfl ?_
                  refine r_ialdZ hX 1 0 rfl rfl 0 (by decide) (by decide) (by decide) dX2_areMomentsSound_58 ?_
                  refine r_callV hX (c_X1_tell _ _ 12 _ _ _ _ zWd_g1 _ _ _) kv_X2_270 12 zWd_g1 rfl rfl rfl (Nat.le_of_ble_eq_true rfl) ⟨(Nat.le_of_ble_eq_true rfl), (Nat.le_of_ble_eq_true rfl)⟩ ⟨(Nat.le_of_ble_eq_true rfl), (Nat.le_of_ble_eq_true rfl)⟩ dX2_areMomentsSound_59 (fun _ _ z => False.elim z) (fun v9 ws9 h43 => ?_)
                  obtain ⟨rfl, hw9⟩ := h43
                  subst ws9
                  dsimp only [mPush]
                  refine r_eqw zWd_t1 ?_
                  refine r_aload_n hX dX2_areMomentsSound_62 rfl rfl ?_
                  refine r_get hX kf_X2_27 0 rfl rfl dX2_areMomentsSound_63 ?_
                  refine r_callS hX (z_X2_numberOf _ _ 12 _ _ _ _ zWd_g1 (by omega)) ks_X2_88 rfl rfl (Nat.le_of_ble_eq_true rfl) ⟨(Nat.le_of_ble_eq_true rfl), (Nat.le_of_ble_eq_true rfl)⟩ ⟨(Nat.le_of_ble_eq_true rfl), (Nat.le_of_ble_eq_true rfl)⟩ dX2_areMomentsSound_66 (fun _ _ z => False.elim z) (fun v9 ws9 h44 => ?_)
                  obtain ⟨rfl, hw9⟩ := h44
                  subst ws9
                  dsimp only [mPush]
                  refine r_lload_n hX dX2_areMomentsSound_69 rfl rfl ?_
                  refine r_lif_eqZ (tgt := 76) hX dX2_areMomentsSound_70 dX2_areMomentsSound_71 (by decide) (by omega) (by omega) (fun c45 => ?_) (fun c45 => ?_)
                  · refine r_iincZ (z := 1) (y := 1) hX dX2_areMomentsSound_76 rfl (by decide) rfl rfl ?_
                    refine r_goto (tgt := 21) hX dX2_areMomentsSound_79 (by decide) ?_
                    refine r_iload hX dX2_areMomentsSound_21 rfl ?_
                    refine r_aload_n hX dX2_areMomentsSound_23 rfl rfl ?_
                    refine r_get hX kf_X2_9 0 rfl rfl dX2_areMomentsSound_24 ?_
                    refine r_alen (v := iZ 4) hX 1 0 rfl rfl rfl dX2_areMomentsSound_27 ?_
                    refine r_icmp_geZ (tgt := 82) hX dX2_areMomentsSound_28 (by decide) (by decide) (by decide) (fun q => absurd q (by decide)) (fun _ => ?_)
                    refine r_aload_n hX dX2_areMomentsSound_31 rfl rfl ?_
                    refine r_get hX kf_X2_27 0 rfl rfl dX2_areMomentsSound_32 ?_
                    refine r_lload_n hX dX2_areMomentsSound_35 rfl rfl ?_
                    refine r_callS hX (z_X2_secondOf _ _ _ (by omega)) ks_X2_96 rfl rfl (Nat.le_of_ble_eq_true rfl) ⟨(Nat.le_of_ble_eq_true rfl), (Nat.le_of_ble_eq_true rfl)⟩ ⟨(Nat.le_of_ble_eq_true rfl), (Nat.le_of_ble_eq_true rfl)⟩ dX2_areMomentsSound_36 (fun _ _ z => False.elim z) (fun v9 ws9 h46 => ?_)
                    obtain ⟨rfl, hw9⟩ := h46
                    subst ws9
                    dsimp only [mPush]
                    refine r_aload_n hX dX2_areMomentsSound_39 rfl rfl ?_
                    refine r_get hX kf_X2_9 0 rfl rfl dX2_areMomentsSound_40 ?_
                    refine r_iload hX dX2_areMomentsSound_43 rfl ?_
                    refine r_ialdZ hX 1 0 rfl rfl 1 (by decide) (by decide) (by decide) dX2_areMomentsSound_45 ?_
                    refine r_i2lZ hX dX2_areMomentsSound_46 (by omega) ?_
                    refine r_laddZ hX dX2_areMomentsSound_47 ?_
                    refine r_lload_n hX dX2_areMomentsSound_48 rfl rfl ?_
                    refine r_callS hX (z_X2_nanoOf _ _ _ (by omega)) ks_X2_92 rfl rfl (Nat.le_of_ble_eq_true rfl) ⟨(Nat.le_of_ble_eq_true rfl), (Nat.le_of_ble_eq_true rfl)⟩ ⟨(Nat.le_of_ble_eq_true rfl), (Nat.le_of_ble_eq_true rfl)⟩ dX2_areMomentsSound_49 (fun _ _ z => False.elim z) (fun v9 ws9 h47 => ?_)
                    obtain ⟨rfl, hw9⟩ := h47
                    subst ws9
                    dsimp only [mPush]
                    refine r_aload_n hX dX2_areMomentsSound_52 rfl rfl ?_
                    refine r_get hX kf_X2_9 0 rfl rfl dX2_areMomentsSound_53 ?_
                    refine r_iload hX dX2_areMomentsSound_56 rfl ?_
                    refine r_ialdZ hX 1 0 rfl rfl 1 (by decide) (by decide) (by decide) dX2_areMomentsSound_58 ?_
                    refine r_callV hX (c_X1_tell _ _ 12 _ _ _ _ zWd_g1 _ _ _) kv_X2_270 12 zWd_g1 rfl rfl rfl (Nat.le_of_ble_eq_true rfl) ⟨(Nat.le_of_ble_eq_true rfl), (Nat.le_of_ble_eq_true rfl)⟩ ⟨(Nat.le_of_ble_eq_true rfl), (Nat.le_of_ble_eq_true rfl)⟩ dX2_areMomentsSound_59 (fun _ _ z => False.elim z) (fun v9 ws9 h48 => ?_)
                    obtain ⟨rfl, hw9⟩ := h48
                    subst ws9
                    dsimp only [mPush]
                    refine r_eqw zWd_t1 ?_
                    refine r_aload_n hX dX2_areMomentsSound_62 rfl rfl ?_
                    refine r_get hX kf_X2_27 0 rfl rfl dX2_areMomentsSound_63 ?_
                    refine r_callS hX (z_X2_numberOf _ _ 12 _ _ _ _ zWd_g1 (by omega)) ks_X2_88 rfl rfl (Nat.le_of_ble_eq_true rfl) ⟨(Nat.le_of_ble_eq_true rfl), (Nat.le_of_ble_eq_true rfl)⟩ ⟨(Nat.le_of_ble_eq_true rfl), (Nat.le_of_ble_eq_true rfl)⟩ dX2_areMomentsSound_66 (fun _ _ z => False.elim z) (fun v9 ws9 h49 => ?_)
                    obtain ⟨rfl, hw9⟩ := h49
                    subst ws9
                    dsimp only [mPush]
                    refine r_lload_n hX dX2_areMomentsSound_69 rfl rfl ?_
                    refine r_lif_eqZ (tgt := 76) hX dX2_areMomentsSound_70 dX2_areMomentsSound_71 (by decide) (by omega) (by omega) (fun c50 => ?_) (fun c50 => ?_)
                    · refine r_iincZ (z := 1) (y := 2) hX dX2_areMomentsSound_76 rfl (by decide) rfl rfl ?_
                      refine r_goto (tgt := 21) hX dX2_areMomentsSound_79 (by decide) ?_
                      refine r_iload hX dX2_areMomentsSound_21 rfl ?_
                      refine r_aload_n hX dX2_areMomentsSound_23 rfl rfl ?_
                      refine r_get hX kf_X2_9 0 rfl rfl dX2_areMomentsSound_24 ?_
                      refine r_alen (v := iZ 4) hX 1 0 rfl rfl rfl dX2_areMomentsSound_27 ?_
                      refine r_icmp_geZ (tgt := 82) hX dX2_areMomentsSound_28 (by decide) (by decide) (by decide) (fun q => absurd q (by decide)) (fun _ => ?_)
                      refine r_aload_n hX dX2_areMomentsSound_31 rfl rfl ?_
                      refine r_get hX kf_X2_27 0 rfl rfl dX2_areMomentsSound_32 ?_
                      refine r_lload_n hX dX2_areMomentsSound_35 rfl rfl ?_
                      refine r_callS hX (z_X2_secondOf _ _ _ (by omega)) ks_X2_96 rfl rfl (Nat.le_of_ble_eq_true rfl) ⟨(Nat.le_of_ble_eq_true rfl), (Nat.le_of_ble_eq_true rfl)⟩ ⟨(Nat.le_of_ble_eq_true rfl), (Nat.le_of_ble_eq_true rfl)⟩ dX2_areMomentsSound_36 (fun _ _ z => False.elim z) (fun v9 ws9 h51 => ?_)
                      obtain ⟨rfl, hw9⟩ := h51
                      subst ws9
                      dsimp only [mPush]
                      refine r_aload_n hX dX2_areMomentsSound_39 rfl rfl ?_
                      refine r_get hX kf_X2_9 0 rfl rfl dX2_areMomentsSound_40 ?_
                      refine r_iload hX dX2_areMomentsSound_43 rfl ?_
                      refine r_ialdZ hX 1 0 rfl rfl 2 (by decide) (by decide) (by decide) dX2_areMomentsSound_45 ?_
                      refine r_i2lZ hX dX2_areMomentsSound_46 (by omega) ?_
                      refine r_laddZ hX dX2_areMomentsSound_47 ?_
                      refine r_lload_n hX dX2_areMomentsSound_48 rfl rfl ?_
                      refine r_callS hX (z_X2_nanoOf _ _ _ (by omega)) ks_X2_92 rfl rfl (Nat.le_of_ble_eq_true rfl) ⟨(Nat.le_of_ble_eq_true rfl), (Nat.le_of_ble_eq_true rfl)⟩ ⟨(Nat.le_of_ble_eq_true rfl), (Nat.le_of_ble_eq_true rfl)⟩ dX2_areMomentsSound_49 (fun _ _ z => False.elim z) (fun v9 ws9 h52 => ?_)
                      obtain ⟨rfl, hw9⟩ := h52
                      subst ws9
                      dsimp only [mPush]
                      refine r_aload_n hX dX2_areMomentsSound_52 rfl rfl ?_
                      refine r_get hX kf_X2_9 0 rfl rfl dX2_areMomentsSound_53 ?_
                      refine r_iload hX dX2_areMomentsSound_56 rfl ?_
                      refine r_ialdZ hX 1 0 rfl rfl 2 (by decide) (by decide) (by decide) dX2_areMomentsSound_58 ?_
                      refine r_callV hX (c_X1_tell _ _ 12 _ _ _ _ zWd_g1 _ _ _) kv_X2_270 12 zWd_g1 rfl rfl rfl (Nat.le_of_ble_eq_true rfl) ⟨(Nat.le_of_ble_eq_true rfl), (Nat.le_of_ble_eq_true rfl)⟩ ⟨(Nat.le_of_ble_eq_true rfl), (Nat.le_of_ble_eq_true rfl)⟩ dX2_areMomentsSound_59 (fun _ _ z => False.elim z) (fun v9 ws9 h53 => ?_)
                      obtain ⟨rfl, hw9⟩ := h53
                      subst ws9
                      dsimp only [mPush]
                      refine r_eqw zWd_t1 ?_
                      refine r_aload_n hX dX2_areMomentsSound_62 rfl rfl ?_
                      refine r_get hX kf_X2_27 0 rfl rfl dX2_areMomentsSound_63 ?_
                      refine r_callS hX (z_X2_numberOf _ _ 12 _ _ _ _ zWd_g1 (by omega)) ks_X2_88 rfl rfl (Nat.le_of_ble_eq_true rfl) ⟨(Nat.le_of_ble_eq_true rfl), (Nat.le_of_ble_eq_true rfl)⟩ ⟨(Nat.le_of_ble_eq_true rfl), (Nat.le_of_ble_eq_true rfl)⟩ dX2_areMomentsSound_66 (fun _ _ z => False.elim z) (fun v9 ws9 h54 => ?_)
                      obtain ⟨rfl, hw9⟩ := h54
                      subst ws9
                      dsimp only [mPush]
                      refine r_lload_n hX dX2_areMomentsSound_69 rfl rfl ?_
                      refine r_lif_eqZ (tgt := 76) hX dX2_areMomentsSound_70 dX2_areMomentsSound_71 (by decide) (by omega) (by omega) (fun c55 => ?_) (fun c55 => ?_)
                      · refine r_iincZ (z := 1) (y := 3) hX dX2_areMomentsSound_76 rfl (by decide) rfl rfl ?_
                        refine r_goto (tgt := 21) hX dX2_areMomentsSound_79 (by decide) ?_
                        refine r_iload hX dX2_areMomentsSound_21 rfl ?_
                        refine r_aload_n hX dX2_areMomentsSound_23 rfl rfl ?_
                        refine r_get hX kf_X2_9 0 rfl rfl dX2_areMomentsSound_24 ?_
                        refine r_alen (v := iZ 4) hX 1 0 rfl rfl rfl dX2_areMomentsSound_27 ?_
                        refine r_icmp_geZ (tgt := 82) hX dX2_areMomentsSound_28 (by decide) (by decide) (by decide) (fun q => absurd q (by decide)) (fun _ => ?_)
                        refine r_aload_n hX dX2_areMomentsSound_31 rfl rfl ?_
                        refine r_get hX kf_X2_27 0 rfl rfl dX2_areMomentsSound_32 ?_
                        refine r_lload_n hX dX2_areMomentsSound_35 rfl rfl ?_
                        refine r_callS hX (z_X2_secondOf _ _ _ (by omega)) ks_X2_96 rfl rfl (Nat.le_of_ble_eq_true rfl) ⟨(Nat.le_of_ble_eq_true rfl), (Nat.le_of_ble_eq_true rfl)⟩ ⟨(Nat.le_of_ble_eq_true rfl), (Nat.le_of_ble_eq_true rfl)⟩ dX2_areMomentsSound_36 (fun _ _ z => False.elim z) (fun v9 ws9 h56 => ?_)
                        obtain ⟨rfl, hw9⟩ := h56
                        subst ws9
                        dsimp only [mPush]
                        refine r_aload_n hX dX2_areMomentsSound_39 rfl rfl ?_
                        refine r_get hX kf_X2_9 0 rfl rfl dX2_areMomentsSound_40 ?_
                        refine r_iload hX dX2_areMomentsSound_43 rfl ?_
                        refine r_ialdZ hX 1 0 rfl rfl 3 (by decide) (by decide) (by decide) dX2_areMomentsSound_45 ?_
                        refine r_i2lZ hX dX2_areMomentsSound_46 (by omega) ?_
                        refine r_laddZ hX dX2_areMomentsSound_47 ?_
                        refine r_lload_n hX dX2_areMomentsSound_48 rfl rfl ?_
                        refine r_callS hX (z_X2_nanoOf _ _ _ (by omega)) ks_X2_92 rfl rfl (Nat.le_of_ble_eq_true rfl) ⟨(Nat.le_of_ble_eq_true rfl), (Nat.le_of_ble_eq_true rfl)⟩ ⟨(Nat.le_of_ble_eq_true rfl), (Nat.le_of_ble_eq_true rfl)⟩ dX2_areMomentsSound_49 (fun _ _ z => False.elim z) (fun v9 ws9 h57 => ?_)
                        obtain ⟨rfl, hw9⟩ := h57
                        subst ws9
                        dsimp only [mPush]
                        refine r_aload_n hX dX2_areMomentsSound_52 rfl rfl ?_
                        refine r_get hX kf_X2_9 0 rfl rfl dX2_areMomentsSound_53 ?_
                        refine r_iload hX dX2_areMomentsSound_56 rfl ?_
                        refine r_ialdZ hX 1 0 rfl rfl 3 (by decide) (by decide) (by decide) dX2_areMomentsSound_58 ?_
                        refine r_callV hX (c_X1_tell _ _ 12 _ _ _ _ zWd_g1 _ _ _) kv_X2_270 12 zWd_g1 rfl rfl rfl (Nat.le_of_ble_eq_true rfl) ⟨(Nat.le_of_ble_eq_true rfl), (Nat.le_of_ble_eq_true rfl)⟩ ⟨(Nat.le_of_ble_eq_true rfl), (Nat.le_of_ble_eq_true rfl)⟩ dX2_areMomentsSound_59 (fun _ _ z => False.elim z) (fun v9 ws9 h58 => ?_)
                        obtain ⟨rfl, hw9⟩ := h58
                        subst ws9
                        dsimp only [mPush]
                        refine r_eqw zWd_t1 ?_
                        refine r_aload_n hX dX2_areMomentsSound_62 rfl rfl ?_
                        refine r_get hX kf_X2_27 0 rfl rfl dX2_areMomentsSound_63 ?_
                        refine r_callS hX (z_X2_numberOf _ _ 12 _ _ _ _ zWd_g1 (by omega)) ks_X2_88 rfl rfl (Nat.le_of_ble_eq_true rfl) ⟨(Nat.le_of_ble_eq_true rfl), (Nat.le_of_ble_eq_true rfl)⟩ ⟨(Nat.le_of_ble_eq_true rfl), (Nat.le_of_ble_eq_true rfl)⟩ dX2_areMomentsSound_66 (fun _ _ z => False.elim z) (fun v9 ws9 h59 => ?_)
                        obtain ⟨rfl, hw9⟩ := h59
                        subst ws9
                        dsimp only [mPush]
                        refine r_lload_n hX dX2_areMomentsSound_69 rfl rfl ?_
                        refine r_lif_eqZ (tgt := 76) hX dX2_areMomentsSound_70 dX2_areMomentsSound_71 (by decide) (by omega) (by omega) (fun c60 => ?_) (fun c60 => ?_)
                        · refine r_iincZ (z := 1) (y := 4) hX dX2_areMomentsSound_76 rfl (by decide) rfl rfl ?_
                          refine r_goto (tgt := 21) hX dX2_areMomentsSound_79 (by decide) ?_
                          refine r_iload hX dX2_areMomentsSound_21 rfl ?_
                          refine r_aload_n hX dX2_areMomentsSound_23 rfl rfl ?_
                          refine r_get hX kf_X2_9 0 rfl rfl dX2_areMomentsSound_24 ?_
                          refine r_alen (v := iZ 4) hX 1 0 rfl rfl rfl dX2_areMomentsSound_27 ?_
                          refine r_icmp_geZ (tgt := 82) hX dX2_areMomentsSound_28 (by decide) (by decide) (by decide) (fun _ => ?_) (fun q => absurd (by decide) q)
                          refine r_iincZ (z := 1) (y := 3) hX dX2_areMomentsSound_82 rfl (by decide) rfl rfl ?_
                          refine r_goto (tgt := 2) hX dX2_areMomentsSound_85 (by decide) ?_
                          refine r_iload_n hX dX2_areMomentsSound_2 rfl rfl ?_
                          refine r_aload_n hX dX2_areMomentsSound_3 rfl rfl ?_
                          refine r_get hX kf_X2_13 0 rfl rfl dX2_areMomentsSound_4 ?_
                          refine r_alen (v := iZ 4) hX 2 1 rfl rfl rfl dX2_areMomentsSound_7 ?_
                          refine r_icmp_geZ (tgt := 88) hX dX2_areMomentsSound_8 (by decide) (by decide) (by decide) (fun q => absurd q (by decide)) (fun _ => ?_)
                          refine r_aload_n hX dX2_areMomentsSound_11 rfl rfl ?_
                          refine r_get hX kf_X2_13 0 rfl rfl dX2_areMomentsSound_12 ?_
                          refine r_iload_n hX dX2_areMomentsSound_15 rfl rfl ?_
                          refine r_laldZ hX 2 1 rfl rfl 3 (by decide) (by decide) (by decide) dX2_areMomentsSound_16 ?_
                          refine r_lstore_n hX dX2_areMomentsSound_17 rfl (by decide) rfl ?_
                          refine r_iconstZ hX dX2_areMomentsSound_18 ?_
                          refine r_istore hX dX2_areMomentsSound_19 (by decide) rfl ?_
                          refine r_iload hX dX2_areMomentsSound_21 rfl ?_
                          refine r_aload_n hX dX2_areMomentsSound_23 rfl rfl ?_
                          refine r_get hX kf_X2_9 0 rfl rfl dX2_areMomentsSound_24 ?_
                          refine r_alen (v := iZ 4) hX 1 0 rfl rfl rfl dX2_areMomentsSound_27 ?_
                          refine r_icmp_geZ (tgt := 82) hX dX2_areMomentsSound_28 (by decide) (by decide) (by decide) (fun q => absurd q (by decide)) (fun _ => ?_)
                          refine r_aload_n hX dX2_areMomentsSound_31 rfl rfl ?_
                          refine r_get hX kf_X2_27 0 rfl rfl dX2_areMomentsSound_32 ?_
                          refine r_lload_n hX dX2_areMomentsSound_35 rfl rfl ?_
                          refine r_callS hX (z_X2_secondOf _ _ _ (by omega)) ks_X2_96 rfl rfl (Nat.le_of_ble_eq_true rfl) ⟨(Nat.le_of_ble_eq_true rfl), (Nat.le_of_ble_eq_true rfl)⟩ ⟨(Nat.le_of_ble_eq_true rfl), (Nat.le_of_ble_eq_true rfl)⟩ dX2_areMomentsSound_36 (fun _ _ z => False.elim z) (fun v9 ws9 h61 => ?_)
                          obtain ⟨rfl, hw9⟩ := h61
                          subst ws9
                          dsimp only [mPush]
                          refine r_aload_n hX dX2_areMomentsSound_39 rfl rfl ?_
                          refine r_get hX kf_X2_9 0 rfl rfl dX2_areMomentsSound_40 ?_
                          refine r_iload hX dX2_areMomentsSound_43 rfl ?_
                          refine r_ialdZ hX 1 0 rfl rfl 0 (by decide) (by decide) (by decide) dX2_areMomentsSound_45 ?_
                          refine r_i2lZ hX dX2_areMomentsSound_46 (by omega) ?_
                          refine r_laddZ hX dX2_areMomentsSound_47 ?_
                          refine r_lload_n hX dX2_areMomentsSound_48 rfl rfl ?_
                          refine r_callS hX (z_X2_nanoOf _ _ _ (by omega)) ks_X2_92 rfl rfl (Nat.le_of_ble_eq_true rfl) ⟨(Nat.le_of_ble_eq_true rfl), (Nat.le_of_ble_eq_true rfl)⟩ ⟨(Nat.le_of_ble_eq_true rfl), (Nat.le_of_ble_eq_true rfl)⟩ dX2_areMomentsSound_49 (fun _ _ z => False.elim z) (fun v9 ws9 h62 => ?_)
                          obtain ⟨rfl, hw9⟩ := h62
                          subst ws9
                          dsimp only [mPush]
                          refine r_aload_n hX dX2_areMomentsSound_52 rfl rfl ?_
                          refine r_get hX kf_X2_9 0 rfl rfl dX2_areMomentsSound_53 ?_
                          refine r_iload hX dX2_areMomentsSound_56 rfl ?_
                          refine r_ialdZ hX 1 0 rfl rfl 0 (by decide) (by decide) (by decide) dX2_areMomentsSound_58 ?_
                          refine r_callV hX (c_X1_tell _ _ 12 _ _ _ _ zWd_g1 _ _ _) kv_X2_270 12 zWd_g1 rfl rfl rfl (Nat.le_of_ble_eq_true rfl) ⟨(Nat.le_of_ble_eq_true rfl), (Nat.le_of_ble_eq_true rfl)⟩ ⟨(Nat.le_of_ble_eq_true rfl), (Nat.le_of_ble_eq_true rfl)⟩ dX2_areMomentsSound_59 (fun _ _ z => False.elim z) (fun v9 ws9 h63 => ?_)
                          obtain ⟨rfl, hw9⟩ := h63
                          subst ws9
                          dsimp only [mPush]
                          refine r_eqw zWd_t1 ?_
                          refine r_aload_n hX dX2_areMomentsSound_62 rfl rfl ?_
                          refine r_get hX kf_X2_27 0 rfl rfl dX2_areMomentsSound_63 ?_
                          refine r_callS hX (z_X2_numberOf _ _ 12 _ _ _ _ zWd_g1 (by omega)) ks_X2_88 rfl rfl (Nat.le_of_ble_eq_true rfl) ⟨(Nat.le_of_ble_eq_true rfl), (Nat.le_of_ble_eq_true rfl)⟩ ⟨(Nat.le_of_ble_eq_true rfl), (Nat.le_of_ble_eq_true rfl)⟩ dX2_areMomentsSound_66 (fun _ _ z => False.elim z) (fun v9 ws9 h64 => ?_)
                          obtain ⟨rfl, hw9⟩ := h64
                          subst ws9
                          dsimp only [mPush]
                          refine r_lload_n hX dX2_areMomentsSound_69 rfl rfl ?_
                          refine r_lif_eqZ (tgt := 76) hX dX2_areMomentsSound_70 dX2_areMomentsSound_71 (by decide) (by omega) (by omega) (fun c65 => ?_) (fun c65 => ?_)
                          · refine r_iincZ (z := 1) (y := 1) hX dX2_areMomentsSound_76 rfl (by decide) rfl rfl ?_
                            refine r_goto (tgt := 21) hX dX2_areMomentsSound_79 (by decide) ?_
                            refine r_iload hX dX2_areMomentsSound_21 rfl ?_
                            refine r_aload_n hX dX2_areMomentsSound_23 rfl rfl ?_
                            refine r_get hX kf_X2_9 0 rfl rfl dX2_areMomentsSound_24 ?_
                            refine r_alen (v := iZ 4) hX 1 0 rfl rfl rfl dX2_areMomentsSound_27 ?_
                            refine r_icmp_geZ (tgt := 82) hX dX2_areMomentsSound_28 (by decide) (by decide) (by decide) (fun q => absurd q (by decide)) (fun _ => ?_)
                            refine r_aload_n hX dX2_areMomentsSound_31 rfl rfl ?_
                            refine r_get hX kf_X2_27 0 rfl rfl dX2_areMomentsSound_32 ?_
                            refine r_lload_n hX dX2_areMomentsSound_35 rfl rfl ?_
                            refine r_callS hX (z_X2_secondOf _ _ _ (by omega)) ks_X2_96 rfl rfl (Nat.le_of_ble_eq_true rfl) ⟨(Nat.le_of_ble_eq_true rfl), (Nat.le_of_ble_eq_true rfl)⟩ ⟨(Nat.le_of_ble_eq_true rfl), (Nat.le_of_ble_eq_true rfl)⟩ dX2_areMomentsSound_36 (fun _ _ z => False.elim z) (fun v9 ws9 h66 => ?_)
                            obtain ⟨rfl, hw9⟩ := h66
                            subst ws9
                            dsimp only [mPush]
                            refine r_aload_n hX dX2_areMomentsSound_39 rfl rfl ?_
                            refine r_get hX kf_X2_9 0 rfl rfl dX2_areMomentsSound_40 ?_
                            refine r_iload hX dX2_areMomentsSound_43 rfl ?_
                            refine r_ialdZ hX 1 0 rfl rfl 1 (by decide) (by decide) (by decide) dX2_areMomentsSound_45 ?_
                            refine r_i2lZ hX dX2_areMomentsSound_46 (by omega) ?_
                            refine r_laddZ hX dX2_areMomentsSound_47 ?_
                            refine r_lload_n hX dX2_areMomentsSound_48 rfl rfl ?_
                            refine r_callS hX (z_X2_nanoOf _ _ _ (by omega)) ks_X2_92 rfl rfl (Nat.le_of_ble_eq_true rfl) ⟨(Nat.le_of_ble_eq_true rfl), (Nat.le_of_ble_eq_true rfl)⟩ ⟨(Nat.le_of_ble_eq_true rfl), (Nat.le_of_ble_eq_true rfl)⟩ dX2_areMomentsSound_49 (fun _ _ z => False.elim z) (fun v9 ws9 h67 => ?_)
                            obtain ⟨rfl, hw9⟩ := h67
                            subst ws9
                            dsimp only [mPush]
                            refine r_aload_n hX dX2_areMomentsSound_52 rfl rfl ?_
                            refine r_get hX kf_X2_9 0 rfl rfl dX2_areMomentsSound_53 ?_
                            refine r_iload hX dX2_areMomentsSound_56 rfl ?_
                            refine r_ialdZ hX 1 0 rfl rfl 1 (by decide) (by decide) (by decide) dX2_areMomentsSound_58 ?_
                            refine r_callV hX (c_X1_tell _ _ 12 _ _ _ _ zWd_g1 _ _ _) kv_X2_270 12 zWd_g1 rfl rfl rfl (Nat.le_of_ble_eq_true rfl) ⟨(Nat.le_of_ble_eq_true rfl), (Nat.le_of_ble_eq_true rfl)⟩ ⟨(Nat.le_of_ble_eq_true rfl), (Nat.le_of_ble_eq_true rfl)⟩ dX2_areMomentsSound_59 (fun _ _ z => False.elim z) (fun v9 ws9 h68 => ?_)
                            obtain ⟨rfl, hw9⟩ := h68
                            subst ws9
                            dsimp only [mPush]
                            refine r_eqw zWd_t1 ?_
                            refine r_aload_n hX dX2_areMomentsSound_62 rfl rfl ?_
                            refine r_get hX kf_X2_27 0 rfl rfl dX2_areMomentsSound_63 ?_
                            refine r_callS hX (z_X2_numberOf _ _ 12 _ _ _ _ zWd_g1 (by omega)) ks_X2_88 rfl rfl (Nat.le_of_ble_eq_true rfl) ⟨(Nat.le_of_ble_eq_true rfl), (Nat.le_of_ble_eq_true rfl)⟩ ⟨(Nat.le_of_ble_eq_true rfl), (Nat.le_of_ble_eq_true rfl)⟩ dX2_areMomentsSound_66 (fun _ _ z => False.elim z) (fun v9 ws9 h69 => ?_)
                            obtain ⟨rfl, hw9⟩ := h69
                            subst ws9
                            dsimp only [mPush]
                            refine r_lload_n hX dX2_areMomentsSound_69 rfl rfl ?_
                            refine r_lif_eqZ (tgt := 76) hX dX2_areMomentsSound_70 dX2_areMomentsSound_71 (by decide) (by omega) (by omega) (fun c70 => ?_) (fun c70 => ?_)
                            · refine r_iincZ (z := 1) (y := 2) hX dX2_areMomentsSound_76 rfl (by decide) rfl rfl ?_
                              refine r_goto (tgt := 21) hX dX2_areMomentsSound_79 (by decide) ?_
                              refine r_iload hX dX2_areMomentsSound_21 rfl ?_
                              refine r_aload_n hX dX2_areMomentsSound_23 rfl rfl ?_
                              refine r_get hX kf_X2_9 0 rfl rfl dX2_areMomentsSound_24 ?_
                              refine r_alen (v := iZ 4) hX 1 0 rfl rfl rfl dX2_areMomentsSound_27 ?_
                              refine r_icmp_geZ (tgt := 82) hX dX2_areMomentsSound_28 (by decide) (by decide) (by decide) (fun q => absurd q (by decide)) (fun _ => ?_)
                              refine r_aload_n hX dX2_areMomentsSound_31 rfl rfl ?_
                              refine r_get hX kf_X2_27 0 rfl rfl dX2_areMomentsSound_32 ?_
                              refine r_lload_n hX dX2_areMomentsSound_35 rfl rfl ?_
                              refine r_callS hX (z_X2_secondOf _ _ _ (by omega)) ks_X2_96 rfl rfl (Nat.le_of_ble_eq_true rfl) ⟨(Nat.le_of_ble_eq_true rfl), (Nat.le_of_ble_eq_true rfl)⟩ ⟨(Nat.le_of_ble_eq_true rfl), (Nat.le_of_ble_eq_true rfl)⟩ dX2_areMomentsSound_36 (fun _ _ z => False.elim z) (fun v9 ws9 h71 => ?_)
                              obtain ⟨rfl, hw9⟩ := h71
                              subst ws9
                              dsimp only [mPush]
                              refine r_aload_n hX dX2_areMomentsSound_39 rfl rfl ?_
                              refine r_get hX kf_X2_9 0 rfl rfl dX2_areMomentsSound_40 ?_
                              refine r_iload hX dX2_areMomentsSound_43 rfl ?_
                              refine r_ialdZ hX 1 0 rfl rfl 2 (by decide) (by decide) (by decide) dX2_areMomentsSound_45 ?_
                              refine r_i2lZ hX dX2_areMomentsSound_46 (by omega) ?_
                              refine r_laddZ hX dX2_areMomentsSound_47 ?_
                              refine r_lload_n hX dX2_areMomentsSound_48 rfl rfl ?_
                              refine r_callS hX (z_X2_nanoOf _ _ _ (by omega)) ks_X2_92 rfl rfl (Nat.le_of_ble_eq_true rfl) ⟨(Nat.le_of_ble_eq_true rfl), (Nat.le_of_ble_eq_true rfl)⟩ ⟨(Nat.le_of_ble_eq_true rfl), (Nat.le_of_ble_eq_true rfl)⟩ dX2_areMomentsSound_49 (fun _ _ z => False.elim z) (fun v9 ws9 h72 => ?_)
                              obtain ⟨rfl, hw9⟩ := h72
                              subst ws9
                              dsimp only [mPush]
                              refine r_aload_n hX dX2_areMomentsSound_52 rfl rfl ?_
                              refine r_get hX kf_X2_9 0 rfl rfl dX2_areMomentsSound_53 ?_
                              refine r_iload hX dX2_areMomentsSound_56 rfl ?_
                              refine r_ialdZ hX 1 0 rfl rfl 2 (by decide) (by decide) (by decide) dX2_areMomentsSound_58 ?_
                              refine r_callV hX (c_X1_tell _ _ 12 _ _ _ _ zWd_g1 _ _ _) kv_X2_270 12 zWd_g1 rfl rfl rfl (Nat.le_of_ble_eq_true rfl) ⟨(Nat.le_of_ble_eq_true rfl), (Nat.le_of_ble_eq_true rfl)⟩ ⟨(Nat.le_of_ble_eq_true rfl), (Nat.le_of_ble_eq_true rfl)⟩ dX2_areMomentsSound_59 (fun _ _ z => False.elim z) (fun v9 ws9 h73 => ?_)
                              obtain ⟨rfl, hw9⟩ := h73
                              subst ws9
                              dsimp only [mPush]
                              refine r_eqw zWd_t1 ?_
                              refine r_aload_n hX dX2_areMomentsSound_62 rfl rfl ?_
                              refine r_get hX kf_X2_27 0 rfl rfl dX2_areMomentsSound_63 ?_
                              refine r_callS hX (z_X2_numberOf _ _ 12 _ _ _ _ zWd_g1 (by omega)) ks_X2_88 rfl rfl (Nat.le_of_ble_eq_true rfl) ⟨(Nat.le_of_ble_eq_true rfl), (Nat.le_of_ble_eq_true rfl)⟩ ⟨(Nat.le_of_ble_eq_true rfl), (Nat.le_of_ble_eq_true rfl)⟩ dX2_areMomentsSound_66 (fun _ _ z => False.elim z) (fun v9 ws9 h74 => ?_)
                              obtain ⟨rfl, hw9⟩ := h74
                              subst ws9
                              dsimp only [mPush]
                              refine r_lload_n hX dX2_areMomentsSound_69 rfl rfl ?_
                              refine r_lif_eqZ (tgt := 76) hX dX2_areMomentsSound_70 dX2_areMomentsSound_71 (by decide) (by omega) (by omega) (fun c75 => ?_) (fun c75 => ?_)
                              · refine r_iincZ (z := 1) (y := 3) hX dX2_areMomentsSound_76 rfl (by decide) rfl rfl ?_
                                refine r_goto (tgt := 21) hX dX2_areMomentsSound_79 (by decide) ?_
                                refine r_iload hX dX2_areMomentsSound_21 rfl ?_
                                refine r_aload_n hX dX2_areMomentsSound_23 rfl rfl ?_
                                refine r_get hX kf_X2_9 0 rfl rfl dX2_areMomentsSound_24 ?_
                                refine r_alen (v := iZ 4) hX 1 0 rfl rfl rfl dX2_areMomentsSound_27 ?_
                                refine r_icmp_geZ (tgt := 82) hX dX2_areMomentsSound_28 (by decide) (by decide) (by decide) (fun q => absurd q (by decide)) (fun _ => ?_)
                                refine r_aload_n hX dX2_areMomentsSound_31 rfl rfl ?_
                                refine r_get hX kf_X2_27 0 rfl rfl dX2_areMomentsSound_32 ?_
                                refine r_lload_n hX dX2_areMomentsSound_35 rfl rfl ?_
                                refine r_callS hX (z_X2_secondOf _ _ _ (by omega)) ks_X2_96 rfl rfl (Nat.le_of_ble_eq_true rfl) ⟨(Nat.le_of_ble_eq_true rfl), (Nat.le_of_ble_eq_true rfl)⟩ ⟨(Nat.le_of_ble_eq_true rfl), (Nat.le_of_ble_eq_true rfl)⟩ dX2_areMomentsSound_36 (fun _ _ z => False.elim z) (fun v9 ws9 h76 => ?_)
                                obtain ⟨rfl, hw9⟩ := h76
                                subst ws9
                                dsimp only [mPush]
                                refine r_aload_n hX dX2_areMomentsSound_39 rfl rfl ?_
                                refine r_get hX kf_X2_9 0 rfl rfl dX2_areMomentsSound_40 ?_
                                refine r_iload hX dX2_areMomentsSound_43 rfl ?_
                                refine r_ialdZ hX 1 0 rfl rfl 3 (by decide) (by decide) (by decide) dX2_areMomentsSound_45 ?_
                                refine r_i2lZ hX dX2_areMomentsSound_46 (by omega) ?_
                                refine r_laddZ hX dX2_areMomentsSound_47 ?_
                                refine r_lload_n hX dX2_areMomentsSound_48 rfl rfl ?_
                                refine r_callS hX (z_X2_nanoOf _ _ _ (by omega)) ks_X2_92 rfl rfl (Nat.le_of_ble_eq_true rfl) ⟨(Nat.le_of_ble_eq_true rfl), (Nat.le_of_ble_eq_true rfl)⟩ ⟨(Nat.le_of_ble_eq_true rfl), (Nat.le_of_ble_eq_true rfl)⟩ dX2_areMomentsSound_49 (fun _ _ z => False.elim z) (fun v9 ws9 h77 => ?_)
                                obtain ⟨rfl, hw9⟩ := h77
                                subst ws9
                                dsimp only [mPush]
                                refine r_aload_n hX dX2_areMomentsSound_52 rfl rfl ?_
                                refine r_get hX kf_X2_9 0 rfl rfl dX2_areMomentsSound_53 ?_
                                refine r_iload hX dX2_areMomentsSound_56 rfl ?_
                                refine r_ialdZ hX 1 0 rfl rfl 3 (by decide) (by decide) (by decide) dX2_areMomentsSound_58 ?_
                                refine r_callV hX (c_X1_tell _ _ 12 _ _ _ _ zWd_g1 _ _ _) kv_X2_270 12 zWd_g1 rfl rfl rfl (Nat.le_of_ble_eq_true rfl) ⟨(Nat.le_of_ble_eq_true rfl), (Nat.le_of_ble_eq_true rfl)⟩ ⟨(Nat.le_of_ble_eq_true rfl), (Nat.le_of_ble_eq_true rfl)⟩ dX2_areMomentsSound_59 (fun _ _ z => False.elim z) (fun v9 ws9 h78 => ?_)
                                obtain ⟨rfl, hw9⟩ := h78
                                subst ws9
                                dsimp only [mPush]
                                refine r_eqw zWd_t1 ?_
                                refine r_aload_n hX dX2_areMomentsSound_62 rfl rfl ?_
                                refine r_get hX kf_X2_27 0 rfl rfl dX2_areMomentsSound_63 ?_
                                refine r_callS hX (z_X2_numberOf _ _ 12 _ _ _ _ zWd_g1 (by omega)) ks_X2_88 rfl rfl (Nat.le_of_ble_eq_true rfl) ⟨(Nat.le_of_ble_eq_true rfl), (Nat.le_of_ble_eq_true rfl)⟩ ⟨(Nat.le_of_ble_eq_true rfl), (Nat.le_of_ble_eq_true rfl)⟩ dX2_areMomentsSound_66 (fun _ _ z => False.elim z) (fun v9 ws9 h79 => ?_)
                                obtain ⟨rfl, hw9⟩ := h79
                                subst ws9
                                dsimp only [mPush]
                                refine r_lload_n hX dX2_areMomentsSound_69 rfl rfl ?_
                                refine r_lif_eqZ (tgt := 76) hX dX2_areMomentsSound_70 dX2_areMomentsSound_71 (by decide) (by omega) (by omega) (fun c80 => ?_) (fun c80 => ?_)
                                · refine r_iincZ (z := 1) (y := 4) hX dX2_areMomentsSound_76 rfl (by decide) rfl rfl ?_
                                  refine r_goto (tgt := 21) hX dX2_areMomentsSound_79 (by decide) ?_
                                  refine r_iload hX dX2_areMomentsSound_21 rfl ?_
                                  refine r_aload_n hX dX2_areMomentsSound_23 rfl rfl ?_
                                  refine r_get hX kf_X2_9 0 rfl rfl dX2_areMomentsSound_24 ?_
                                  refine r_alen (v := iZ 4) hX 1 0 rfl rfl rfl dX2_areMomentsSound_27 ?_
                                  refine r_icmp_geZ (tgt := 82) hX dX2_areMomentsSound_28 (by decide) (by decide) (by decide) (fun _ => ?_) (fun q => absurd (by decide) q)
                                  refine r_iincZ (z := 1) (y := 4) hX dX2_areMomentsSound_82 rfl (by decide) rfl rfl ?_
                                  refine r_goto (tgt := 2) hX dX2_areMomentsSound_85 (by decide) ?_
                                  refine r_iload_n hX dX2_areMomentsSound_2 rfl rfl ?_
                                  refine r_aload_n hX dX2_areMomentsSound_3 rfl rfl ?_
                                  refine r_get hX kf_X2_13 0 rfl rfl dX2_areMomentsSound_4 ?_
                                  refine r_alen (v := iZ 4) hX 2 1 rfl rfl rfl dX2_areMomentsSound_7 ?_
                                  refine r_icmp_geZ (tgt := 88) hX dX2_areMomentsSound_8 (by decide) (by decide) (by decide) (fun _ => ?_) (fun q => absurd (by decide) q)
                                  refine r_iconstZ hX dX2_areMomentsSound_88 ?_
                                  exact r_zret hX hE dX2_areMomentsSound_89 (by decide) (Nat.le_of_ble_eq_true rfl) (Nat.le_of_ble_eq_true rfl) ⟨rfl, _, rfl⟩
                                · refine r_iconstZ hX dX2_areMomentsSound_74 ?_
                                  exfalso
                                  omega
                              · refine r_iconstZ hX dX2_areMomentsSound_74 ?_
                                exfalso
                                omega
                            · refine r_iconstZ hX dX2_areMomentsSound_74 ?_
                              exfalso
                              omega
                          · refine r_iconstZ hX dX2_areMomentsSound_74 ?_
                            exfalso
                            omega
                        · refine r_iconstZ hX dX2_areMomentsSound_74 ?_
                          exfalso
                          omega
                      · refine r_iconstZ hX dX2_areMomentsSound_74 ?_
                        exfalso
                        omega
                    · refine r_iconstZ hX dX2_areMomentsSound_74 ?_
                      exfalso
                      omega
                  · refine r_iconstZ hX dX2_areMomentsSound_74 ?_
                    exfalso
                    omega
                · refine r_iconstZ hX dX2_areMomentsSound_74 ?_
                  exfalso
                  omega
              · refine r_iconstZ hX dX2_areMomentsSound_74 ?_
                exfalso
                omega
            · refine r_iconstZ hX dX2_areMomentsSound_74 ?_
              exfalso
              omega
          · refine r_iconstZ hX dX2_areMomentsSound_74 ?_
            exfalso
            omega
        · refine r_iconstZ hX dX2_areMomentsSound_74 ?_
          exfalso
          omega
      · refine r_iconstZ hX dX2_areMomentsSound_74 ?_
        exfalso
        omega
    · refine r_iconstZ hX dX2_areMomentsSound_74 ?_
      exfalso
      omega
  · refine r_iconstZ hX dX2_areMomentsSound_74 ?_
    exfalso
    omega
set_option maxHeartbeats 4000000 in
set_option maxRecDepth 20000 in
theorem z_X2_isToldAnewSound (ad : Nat → Nat) (cs : ClassId × ClassId × ClassId) (S : mS) (T : mT2) (rest : va_W) (hS : sWF S) (d : Nat) (hd : d < 7) (h : Int) (hh : -64800 ≤ h ∧ h ≤ 64800)  : mCt (mTy cs) yX2_isToldAnewSound cX2_isToldAnewSound 6 (some .boolean) ⟨2, 0, 0, 41⟩ [.ref (ad 0), .ref (ad (d + 5)), .int (iZ h)] (mWd ad cs (mKof S T) rest) (fun v ws' => v = some (.int (b2i true)) ∧ ∃ T' : mT2, ws' = mWd ad cs (mKof S T') rest) mNo := by
  refine mCt.of (by decide +kernel) (Nat.le_of_ble_eq_true rfl) (fun X hX hE => ?_)
  replace hX : mOK X RX2 cX2_isToldAnewSound 6 ⟨2, 0, 0, 41⟩ [] (mTy cs) := hX
  have hr := zrg hS hd
  refine r_aload_n hX dX2_isToldAnewSound_0 rfl rfl ?_
  refine r_callV hX (z_X1_momentSecond _ _ (d + 5) _ _ _ _ (zWd_loc (d := d) hd) (zrg hS hd)) kv_X2_169 (d + 5) (zWd_loc (d := d) hd) rfl rfl rfl (Nat.le_of_ble_eq_true rfl) ⟨(Nat.le_of_ble_eq_true rfl), (Nat.le_of_ble_eq_true rfl)⟩ ⟨(Nat.le_of_ble_eq_true rfl), (Nat.le_of_ble_eq_true rfl)⟩ dX2_isToldAnewSound_1 (fun _ _ z => False.elim z) (fun v9 ws9 h1 => ?_)
  obtain ⟨rfl, hw9⟩ := h1
  subst ws9
  dsimp only [mPush]
  refine r_iload_n hX dX2_isToldAnewSound_4 rfl rfl ?_
  refine r_i2lZ hX dX2_isToldAnewSound_5 (by omega) ?_
  refine r_laddZ hX dX2_isToldAnewSound_6 ?_
  refine r_lstore_n hX dX2_isToldAnewSound_7 rfl (by decide) rfl ?_
  refine r_lload_n hX dX2_isToldAnewSound_8 rfl rfl ?_
  refine r_ldc2Z (z := -1893456000) hX kc_X2_266 (by decide) dX2_isToldAnewSound_9 ?_
  refine r_ldc2Z (z := 1924991999) hX kc_X2_268 (by decide) dX2_isToldAnewSound_12 ?_
  refine r_callS hX (z_X2_isWithin _ _ _ _ _ (by omega) (by omega) (by omega)) ks_X2_48 rfl rfl (Nat.le_of_ble_eq_true rfl) ⟨(Nat.le_of_ble_eq_true rfl), (Nat.le_of_ble_eq_true rfl)⟩ ⟨(Nat.le_of_ble_eq_true rfl), (Nat.le_of_ble_eq_true rfl)⟩ dX2_isToldAnewSound_15 (fun _ _ z => False.elim z) (fun v9 ws9 h2 => ?_)
  obtain ⟨rfl, hw9⟩ := h2
  subst ws9
  dsimp only [mPush]
  refine r_if_neB (tgt := 23) hX dX2_isToldAnewSound_18 (by decide) (fun c3 => ?_) (fun c3 => ?_)
  · have c3 := of_decide_eq_true c3
    refine r_aload_n hX dX2_isToldAnewSound_23 rfl rfl ?_
    refine r_get hX kf_X2_27 0 rfl rfl dX2_isToldAnewSound_24 ?_
    refine r_lload_n hX dX2_isToldAnewSound_27 rfl rfl ?_
    refine r_aload_n hX dX2_isToldAnewSound_28 rfl rfl ?_
    refine r_getN hX kg_X2_172 (d + 5) (zWd_loc (d := d) hd) rfl dX2_isToldAnewSound_29 ?_
    refine r_iload_n hX dX2_isToldAnewSound_32 rfl rfl ?_
    refine r_callV hX (c_X1_tell _ _ 12 _ _ _ _ zWd_h1 _ _ _) kv_X2_270 12 zWd_h1 rfl rfl rfl (Nat.le_of_ble_eq_true rfl) ⟨(Nat.le_of_ble_eq_true rfl), (Nat.le_of_ble_eq_true rfl)⟩ ⟨(Nat.le_of_ble_eq_true rfl), (Nat.le_of_ble_eq_true rfl)⟩ dX2_isToldAnewSound_33 (fun _ _ z => False.elim z) (fun v9 ws9 h4 => ?_)
    obtain ⟨rfl, hw9⟩ := h4
    subst ws9
    dsimp only [mPush]
    refine r_eqw zWd_t1 ?_
    refine r_aload_n hX dX2_isToldAnewSound_36 rfl rfl ?_
    refine r_get hX kf_X2_27 0 rfl rfl dX2_isToldAnewSound_37 ?_
    refine r_aload_n hX dX2_isToldAnewSound_40 rfl rfl ?_
    refine r_callV hX (z_X1_isAlike _ _ 12 _ _ _ _ zWd_g1 (by omega) (d + 5) _ _ _ _ (zWd_loc (d := d) hd) (zrg hS hd)) kv_X2_360 12 zWd_g1 rfl rfl rfl (Nat.le_of_ble_eq_true rfl) ⟨(Nat.le_of_ble_eq_true rfl), (Nat.le_of_ble_eq_true rfl)⟩ ⟨(Nat.le_of_ble_eq_true rfl), (Nat.le_of_ble_eq_true rfl)⟩ dX2_isToldAnewSound_41 (fun _ _ z => False.elim z) (fun v9 ws9 h5 => ?_)
    obtain ⟨rfl, hw9⟩ := h5
    subst ws9
    dsimp only [mPush]
    refine r_istore hX dX2_isToldAnewSound_44 (by decide) rfl ?_
    refine r_aload_n hX dX2_isToldAnewSound_46 rfl rfl ?_
    refine r_get hX kf_X2_27 0 rfl rfl dX2_isToldAnewSound_47 ?_
    refine r_aload_n hX dX2_isToldAnewSound_50 rfl rfl ?_
    refine r_get hX kf_X2_27 0 rfl rfl dX2_isToldAnewSound_51 ?_
    refine r_callV hX (z_X1_momentSecond _ _ 12 _ _ _ _ zWd_g1 (by omega)) kv_X2_169 12 zWd_g1 rfl rfl rfl (Nat.le_of_ble_eq_true rfl) ⟨(Nat.le_of_ble_eq_true rfl), (Nat.le_of_ble_eq_true rfl)⟩ ⟨(Nat.le_of_ble_eq_true rfl), (Nat.le_of_ble_eq_true rfl)⟩ dX2_isToldAnewSound_54 (fun _ _ z => False.elim z) (fun v9 ws9 h6 => ?_)
    obtain ⟨rfl, hw9⟩ := h6
    subst ws9
    dsimp only [mPush]
    refine r_aload_n hX dX2_isToldAnewSound_57 rfl rfl ?_
    refine r_getN hX kg_X2_158 (d + 5) (zWd_loc (d := d) hd) rfl dX2_isToldAnewSound_58 ?_
    refine r_i2lZ hX dX2_isToldAnewSound_61 (by omega) ?_
    refine r_laddZ hX dX2_isToldAnewSound_62 ?_
    refine r_aload_n hX dX2_isToldAnewSound_63 rfl rfl ?_
    refine r_get hX kf_X2_27 0 rfl rfl dX2_isToldAnewSound_64 ?_
    refine r_getN hX kg_X2_172 12 zWd_g1 rfl dX2_isToldAnewSound_67 ?_
    refine r_aload_n hX dX2_isToldAnewSound_70 rfl rfl ?_
    refine r_getN hX kg_X2_158 (d + 5) (zWd_loc (d := d) hd) rfl dX2_isToldAnewSound_71 ?_
    refine r_callV hX (c_X1_tell _ _ 12 _ _ _ _ zWd_g1 _ _ _) kv_X2_270 12 zWd_g1 rfl rfl rfl (Nat.le_of_ble_eq_true rfl) ⟨(Nat.le_of_ble_eq_true rfl), (Nat.le_of_ble_eq_true rfl)⟩ ⟨(Nat.le_of_ble_eq_true rfl), (Nat.le_of_ble_eq_true rfl)⟩ dX2_isToldAnewSound_74 (fun _ _ z => False.elim z) (fun v9 ws9 h7 => ?_)
    obtain ⟨rfl, hw9⟩ := h7
    subst ws9
    dsimp only [mPush]
    refine r_eqw zWd_t1 ?_
    refine r_iload hX dX2_isToldAnewSound_77 rfl ?_
    refine r_if_eqB (tgt := 97) hX dX2_isToldAnewSound_79 (by decide) (fun c8 => ?_) (fun c8 => ?_)
    · have c8 := of_decide_eq_false c8
      refine r_iconstZ hX dX2_isToldAnewSound_97 ?_
      exfalso
      omega
    · have c8 := of_decide_eq_true c8
      refine r_aload_n hX dX2_isToldAnewSound_82 rfl rfl ?_
      refine r_get hX kf_X2_27 0 rfl rfl dX2_isToldAnewSound_83 ?_
      refine r_aload_n hX dX2_isToldAnewSound_86 rfl rfl ?_
      refine r_callV hX (z_X1_isSame _ _ 12 _ _ _ _ zWd_g1 (by omega) (d + 5) _ _ _ _ (zWd_loc (d := d) hd) (zrg hS hd)) kv_X2_363 12 zWd_g1 rfl rfl rfl (Nat.le_of_ble_eq_true rfl) ⟨(Nat.le_of_ble_eq_true rfl), (Nat.le_of_ble_eq_true rfl)⟩ ⟨(Nat.le_of_ble_eq_true rfl), (Nat.le_of_ble_eq_true rfl)⟩ dX2_isToldAnewSound_87 (fun _ _ z => False.elim z) (fun v9 ws9 h9 => ?_)
      obtain ⟨rfl, hw9⟩ := h9
      subst ws9
      dsimp only [mPush]
      refine r_if_eqB (tgt := 97) hX dX2_isToldAnewSound_90 (by decide) (fun c10 => ?_) (fun c10 => ?_)
      · have c10 := of_decide_eq_false c10
        refine r_iconstZ hX dX2_isToldAnewSound_97 ?_
        exfalso
        omega
      · have c10 := of_decide_eq_true c10
        refine r_iconstZ hX dX2_isToldAnewSound_93 ?_
        refine r_goto (tgt := 98) hX dX2_isToldAnewSound_94 (by decide) ?_
        exact r_zret hX hE dX2_isToldAnewSound_98 (by decide) (Nat.le_of_ble_eq_true rfl) (Nat.le_of_ble_eq_true rfl) ⟨rfl, _, rfl⟩
  · have c3 := of_decide_eq_false c3
    refine r_iconstZ hX dX2_isToldAnewSound_21 ?_
    exact r_zret hX hE dX2_isToldAnewSound_22 (by decide) (Nat.le_of_ble_eq_true rfl) (Nat.le_of_ble_eq_true rfl) ⟨rfl, _, rfl⟩
set_option maxHeartbeats 4000000 in
set_option maxRecDepth 20000 in
theorem z_X2_isPairSound (tys : List (ClassId × FieldType)) (ws : va_W) (q0 a0 : Nat) (s0 n0 o0 : Int) (h0 : ws[q0]? = some (a0, .inr (2, [.long (lZ s0), .int (iZ n0), .int (iZ o0)]))) (r0 : ((-100000000000 ≤ s0 ∧ s0 ≤ 100000000000) ∧ (0 ≤ n0 ∧ n0 ≤ 999999999) ∧ (-64800 ≤ o0 ∧ o0 ≤ 64800))) (q1 a1 : Nat) (s1 n1 o1 : Int) (h1 : ws[q1]? = some (a1, .inr (2, [.long (lZ s1), .int (iZ n1), .int (iZ o1)]))) (r1 : ((-100000000000 ≤ s1 ∧ s1 ≤ 100000000000) ∧ (0 ≤ n1 ∧ n1 ≤ 999999999) ∧ (-64800 ≤ o1 ∧ o1 ≤ 64800)))  : mCt tys yX2_isPairSound cX2_isPairSound 4 (some .boolean) ⟨3, 0, 0, 67⟩ [.ref a0, .ref a1] ws (fun v ws' => v = some (.int (b2i true)) ∧ ws' = ws) mNo := by
  refine mCt.of (by decide +kernel) (Nat.le_of_ble_eq_true rfl) (fun X hX hE => ?_)
  replace hX : mOK X RX2 cX2_isPairSound 4 ⟨3, 0, 0, 67⟩ [] tys := hX
  have p1 := zMo_s s0 n0 o0 s1 n1 o1
  have p2 := zMo_s s1 n1 o1 s0 n0 o0
  have p3 := zTo_s s0 n0 o0 s1 n1 o1
  have p4 := zTo_s s1 n1 o1 s0 n0 o0
  have p5 := cmpZ_s s0 s1
  have p6 := cmpZ_s s1 s0
  refine r_aload_n hX dX2_isPairSound_0 rfl rfl ?_
  refine r_aload_n hX dX2_isPairSound_1 rfl rfl ?_
  refine r_callV hX (z_X1_isAhead _ _ q0 _ _ _ _ h0 r0 q1 _ _ _ _ h1 r1) kv_X2_356 q0 h0 rfl rfl rfl (Nat.le_of_ble_eq_true rfl) ⟨(Nat.le_of_ble_eq_true rfl), (Nat.le_of_ble_eq_true rfl)⟩ ⟨(Nat.le_of_ble_eq_true rfl), (Nat.le_of_ble_eq_true rfl)⟩ dX2_isPairSound_2 (fun _ _ z => False.elim z) (fun v9 ws9 h1 => ?_)
  obtain ⟨rfl, hw9⟩ := h1
  subst ws9
  dsimp only [mPush]
  refine r_if_neB (tgt := 20) hX dX2_isPairSound_5 (by decide) (fun c2 => ?_) (fun c2 => ?_)
  · have c2 := of_decide_eq_true c2
    refine r_iconstZ hX dX2_isPairSound_20 ?_
    refine r_istore_n hX dX2_isPairSound_21 rfl (by decide) rfl ?_
    refine r_aload_n hX dX2_isPairSound_22 rfl rfl ?_
    refine r_aload_n hX dX2_isPairSound_23 rfl rfl ?_
    refine r_callV hX (z_X1_orderTo _ _ q0 _ _ _ _ h0 r0 q1 _ _ _ _ h1 r1) kv_X2_179 q0 h0 rfl rfl rfl (Nat.le_of_ble_eq_true rfl) ⟨(Nat.le_of_ble_eq_true rfl), (Nat.le_of_ble_eq_true rfl)⟩ ⟨(Nat.le_of_ble_eq_true rfl), (Nat.le_of_ble_eq_true rfl)⟩ dX2_isPairSound_24 (fun _ _ z => False.elim z) (fun v9 ws9 h3 => ?_)
    obtain ⟨rfl, hw9⟩ := h3
    subst ws9
    dsimp only [mPush]
    have hb3 := zTo_b s0 n0 o0 s1 n1 o1
    refine r_istore_n hX dX2_isPairSound_27 rfl (by decide) rfl ?_
    refine r_aload_n hX dX2_isPairSound_28 rfl rfl ?_
    refine r_aload_n hX dX2_isPairSound_29 rfl rfl ?_
    refine r_callV hX (z_X1_isAlike _ _ q0 _ _ _ _ h0 r0 q1 _ _ _ _ h1 r1) kv_X2_360 q0 h0 rfl rfl rfl (Nat.le_of_ble_eq_true rfl) ⟨(Nat.le_of_ble_eq_true rfl), (Nat.le_of_ble_eq_true rfl)⟩ ⟨(Nat.le_of_ble_eq_true rfl), (Nat.le_of_ble_eq_true rfl)⟩ dX2_isPairSound_30 (fun _ _ z => False.elim z) (fun v9 ws9 h4 => ?_)
    obtain ⟨rfl, hw9⟩ := h4
    subst ws9
    dsimp only [mPush]
    refine r_iload_n hX dX2_isPairSound_33 rfl rfl ?_
    refine r_icmp_neB0 (tgt := 63) hX dX2_isPairSound_34 (by decide) (fun c5 => ?_) (fun c5 => ?_)
    · have c5 := of_decide_eq_true c5
      refine r_iconstZ hX dX2_isPairSound_63 ?_
      exfalso
      omega
    · have c5 := of_decide_eq_false c5
      refine r_iload_n hX dX2_isPairSound_37 rfl rfl ?_
      refine r_aload_n hX dX2_isPairSound_38 rfl rfl ?_
      refine r_aload_n hX dX2_isPairSound_39 rfl rfl ?_
      refine r_callV hX (z_X1_orderTo _ _ q1 _ _ _ _ h1 r1 q0 _ _ _ _ h0 r0) kv_X2_179 q1 h1 rfl rfl rfl (Nat.le_of_ble_eq_true rfl) ⟨(Nat.le_of_ble_eq_true rfl), (Nat.le_of_ble_eq_true rfl)⟩ ⟨(Nat.le_of_ble_eq_true rfl), (Nat.le_of_ble_eq_true rfl)⟩ dX2_isPairSound_40 (fun _ _ z => False.elim z) (fun v9 ws9 h6 => ?_)
      obtain ⟨rfl, hw9⟩ := h6
      subst ws9
      dsimp only [mPush]
      have hb6 := zTo_b s1 n1 o1 s0 n0 o0
      refine r_inegZ hX dX2_isPairSound_43 ?_
      refine r_icmp_neZ (tgt := 63) hX dX2_isPairSound_44 (by decide) (by omega) (by omega) (fun c7 => ?_) (fun c7 => ?_)
      · refine r_iconstZ hX dX2_isPairSound_63 ?_
        exfalso
        omega
      · refine r_aload_n hX dX2_isPairSound_47 rfl rfl ?_
        refine r_aload_n hX dX2_isPairSound_48 rfl rfl ?_
        refine r_callV hX (z_X1_isSame _ _ q0 _ _ _ _ h0 r0 q1 _ _ _ _ h1 r1) kv_X2_363 q0 h0 rfl rfl rfl (Nat.le_of_ble_eq_true rfl) ⟨(Nat.le_of_ble_eq_true rfl), (Nat.le_of_ble_eq_true rfl)⟩ ⟨(Nat.le_of_ble_eq_true rfl), (Nat.le_of_ble_eq_true rfl)⟩ dX2_isPairSound_49 (fun _ _ z => False.elim z) (fun v9 ws9 h8 => ?_)
        obtain ⟨rfl, hw9⟩ := h8
        subst ws9
        dsimp only [mPush]
        refine r_if_eqB (tgt := 59) hX dX2_isPairSound_52 (by decide) (fun c9 => ?_) (fun c9 => ?_)
        · have c9 := of_decide_eq_false c9
          refine r_iconstZ hX dX2_isPairSound_59 ?_
          refine r_goto (tgt := 64) hX dX2_isPairSound_60 (by decide) ?_
          exact r_zret hX hE dX2_isPairSound_64 (by decide) (Nat.le_of_ble_eq_true rfl) (Nat.le_of_ble_eq_true rfl) ⟨rfl, rfl⟩
        · have c9 := of_decide_eq_true c9
          refine r_iload_n hX dX2_isPairSound_55 rfl rfl ?_
          refine r_if_neZ (tgt := 63) hX dX2_isPairSound_56 (by decide) (by omega) (fun c10 => ?_) (fun c10 => ?_)
          · refine r_iconstZ hX dX2_isPairSound_63 ?_
            exfalso
            omega
          · refine r_iconstZ hX dX2_isPairSound_59 ?_
            refine r_goto (tgt := 64) hX dX2_isPairSound_60 (by decide) ?_
            exact r_zret hX hE dX2_isPairSound_64 (by decide) (Nat.le_of_ble_eq_true rfl) (Nat.le_of_ble_eq_true rfl) ⟨rfl, rfl⟩
  · have c2 := of_decide_eq_false c2
    refine r_aload_n hX dX2_isPairSound_8 rfl rfl ?_
    refine r_aload_n hX dX2_isPairSound_9 rfl rfl ?_
    refine r_callV hX (z_X1_isAhead _ _ q1 _ _ _ _ h1 r1 q0 _ _ _ _ h0 r0) kv_X2_356 q1 h1 rfl rfl rfl (Nat.le_of_ble_eq_true rfl) ⟨(Nat.le_of_ble_eq_true rfl), (Nat.le_of_ble_eq_true rfl)⟩ ⟨(Nat.le_of_ble_eq_true rfl), (Nat.le_of_ble_eq_true rfl)⟩ dX2_isPairSound_10 (fun _ _ z => False.elim z) (fun v9 ws9 h11 => ?_)
    obtain ⟨rfl, hw9⟩ := h11
    subst ws9
    dsimp only [mPush]
    refine r_if_neB (tgt := 20) hX dX2_isPairSound_13 (by decide) (fun c12 => ?_) (fun c12 => ?_)
    · have c12 := of_decide_eq_true c12
      refine r_iconstZ hX dX2_isPairSound_20 ?_
      refine r_istore_n hX dX2_isPairSound_21 rfl (by decide) rfl ?_
      refine r_aload_n hX dX2_isPairSound_22 rfl rfl ?_
      refine r_aload_n hX dX2_isPairSound_23 rfl rfl ?_
      refine r_callV hX (z_X1_orderTo _ _ q0 _ _ _ _ h0 r0 q1 _ _ _ _ h1 r1) kv_X2_179 q0 h0 rfl rfl rfl (Nat.le_of_ble_eq_true rfl) ⟨(Nat.le_of_ble_eq_true rfl), (Nat.le_of_ble_eq_true rfl)⟩ ⟨(Nat.le_of_ble_eq_true rfl), (Nat.le_of_ble_eq_true rfl)⟩ dX2_isPairSound_24 (fun _ _ z => False.elim z) (fun v9 ws9 h13 => ?_)
      obtain ⟨rfl, hw9⟩ := h13
      subst ws9
      dsimp only [mPush]
      have hb13 := zTo_b s0 n0 o0 s1 n1 o1
      refine r_istore_n hX dX2_isPairSound_27 rfl (by decide) rfl ?_
      refine r_aload_n hX dX2_isPairSound_28 rfl rfl ?_
      refine r_aload_n hX dX2_isPairSound_29 rfl rfl ?_
      refine r_callV hX (z_X1_isAlike _ _ q0 _ _ _ _ h0 r0 q1 _ _ _ _ h1 r1) kv_X2_360 q0 h0 rfl rfl rfl (Nat.le_of_ble_eq_true rfl) ⟨(Nat.le_of_ble_eq_true rfl), (Nat.le_of_ble_eq_true rfl)⟩ ⟨(Nat.le_of_ble_eq_true rfl), (Nat.le_of_ble_eq_true rfl)⟩ dX2_isPairSound_30 (fun _ _ z => False.elim z) (fun v9 ws9 h14 => ?_)
      obtain ⟨rfl, hw9⟩ := h14
      subst ws9
      dsimp only [mPush]
      refine r_iload_n hX dX2_isPairSound_33 rfl rfl ?_
      refine r_icmp_neB0 (tgt := 63) hX dX2_isPairSound_34 (by decide) (fun c15 => ?_) (fun c15 => ?_)
      · have c15 := of_decide_eq_true c15
        refine r_iconstZ hX dX2_isPairSound_63 ?_
        exfalso
        omega
      · have c15 := of_decide_eq_false c15
        refine r_iload_n hX dX2_isPairSound_37 rfl rfl ?_
        refine r_aload_n hX dX2_isPairSound_38 rfl rfl ?_
        refine r_aload_n hX dX2_isPairSound_39 rfl rfl ?_
        refine r_callV hX (z_X1_orderTo _ _ q1 _ _ _ _ h1 r1 q0 _ _ _ _ h0 r0) kv_X2_179 q1 h1 rfl rfl rfl (Nat.le_of_ble_eq_true rfl) ⟨(Nat.le_of_ble_eq_true rfl), (Nat.le_of_ble_eq_true rfl)⟩ ⟨(Nat.le_of_ble_eq_true rfl), (Nat.le_of_ble_eq_true rfl)⟩ dX2_isPairSound_40 (fun _ _ z => False.elim z) (fun v9 ws9 h16 => ?_)
        obtain ⟨rfl, hw9⟩ := h16
        subst ws9
        dsimp only [mPush]
        have hb16 := zTo_b s1 n1 o1 s0 n0 o0
        refine r_inegZ hX dX2_isPairSound_43 ?_
        refine r_icmp_neZ (tgt := 63) hX dX2_isPairSound_44 (by decide) (by omega) (by omega) (fun c17 => ?_) (fun c17 => ?_)
        · refine r_iconstZ hX dX2_isPairSound_63 ?_
          exfalso
          omega
        · refine r_aload_n hX dX2_isPairSound_47 rfl rfl ?_
          refine r_aload_n hX dX2_isPairSound_48 rfl rfl ?_
          refine r_callV hX (z_X1_isSame _ _ q0 _ _ _ _ h0 r0 q1 _ _ _ _ h1 r1) kv_X2_363 q0 h0 rfl rfl rfl (Nat.le_of_ble_eq_true rfl) ⟨(Nat.le_of_ble_eq_true rfl), (Nat.le_of_ble_eq_true rfl)⟩ ⟨(Nat.le_of_ble_eq_true rfl), (Nat.le_of_ble_eq_true rfl)⟩ dX2_isPairSound_49 (fun _ _ z => False.elim z) (fun v9 ws9 h18 => ?_)
          obtain ⟨rfl, hw9⟩ := h18
          subst ws9
          dsimp only [mPush]
          refine r_if_eqB (tgt := 59) hX dX2_isPairSound_52 (by decide) (fun c19 => ?_) (fun c19 => ?_)
          · have c19 := of_decide_eq_false c19
            refine r_iconstZ hX dX2_isPairSound_59 ?_
            refine r_goto (tgt := 64) hX dX2_isPairSound_60 (by decide) ?_
            exact r_zret hX hE dX2_isPairSound_64 (by decide) (Nat.le_of_ble_eq_true rfl) (Nat.le_of_ble_eq_true rfl) ⟨rfl, rfl⟩
          · have c19 := of_decide_eq_true c19
            refine r_iload_n hX dX2_isPairSound_55 rfl rfl ?_
            refine r_if_neZ (tgt := 63) hX dX2_isPairSound_56 (by decide) (by omega) (fun c20 => ?_) (fun c20 => ?_)
            · refine r_iconstZ hX dX2_isPairSound_63 ?_
              exfalso
              omega
            · refine r_iconstZ hX dX2_isPairSound_59 ?_
              refine r_goto (tgt := 64) hX dX2_isPairSound_60 (by decide) ?_
              exact r_zret hX hE dX2_isPairSound_64 (by decide) (Nat.le_of_ble_eq_true rfl) (Nat.le_of_ble_eq_true rfl) ⟨rfl, rfl⟩
    · have c12 := of_decide_eq_false c12
      refine r_iconstZ hX dX2_isPairSound_16 ?_
      refine r_goto (tgt := 21) hX dX2_isPairSound_17 (by decide) ?_
      refine r_istore_n hX dX2_isPairSound_21 rfl (by decide) rfl ?_
      refine r_aload_n hX dX2_isPairSound_22 rfl rfl ?_
      refine r_aload_n hX dX2_isPairSound_23 rfl rfl ?_
      refine r_callV hX (z_X1_orderTo _ _ q0 _ _ _ _ h0 r0 q1 _ _ _ _ h1 r1) kv_X2_179 q0 h0 rfl rfl rfl (Nat.le_of_ble_eq_true rfl) ⟨(Nat.le_of_ble_eq_true rfl), (Nat.le_of_ble_eq_true rfl)⟩ ⟨(Nat.le_of_ble_eq_true rfl), (Nat.le_of_ble_eq_true rfl)⟩ dX2_isPairSound_24 (fun _ _ z => False.elim z) (fun v9 ws9 h21 => ?_)
      obtain ⟨rfl, hw9⟩ := h21
      subst ws9
      dsimp only [mPush]
      have hb21 := zTo_b s0 n0 o0 s1 n1 o1
      refine r_istore_n hX dX2_isPairSound_27 rfl (by decide) rfl ?_
      refine r_aload_n hX dX2_isPairSound_28 rfl rfl ?_
      refine r_aload_n hX dX2_isPairSound_29 rfl rfl ?_
      refine r_callV hX (z_X1_isAlike _ _ q0 _ _ _ _ h0 r0 q1 _ _ _ _ h1 r1) kv_X2_360 q0 h0 rfl rfl rfl (Nat.le_of_ble_eq_true rfl) ⟨(Nat.le_of_ble_eq_true rfl), (Nat.le_of_ble_eq_true rfl)⟩ ⟨(Nat.le_of_ble_eq_true rfl), (Nat.le_of_ble_eq_true rfl)⟩ dX2_isPairSound_30 (fun _ _ z => False.elim z) (fun v9 ws9 h22 => ?_)
      obtain ⟨rfl, hw9⟩ := h22
      subst ws9
      dsimp only [mPush]
      refine r_iload_n hX dX2_isPairSound_33 rfl rfl ?_
      refine r_icmp_neB1 (tgt := 63) hX dX2_isPairSound_34 (by decide) (fun c23 => ?_) (fun c23 => ?_)
      · have c23 := of_decide_eq_false c23
        refine r_iconstZ hX dX2_isPairSound_63 ?_
        exfalso
        omega
      · have c23 := of_decide_eq_true c23
        refine r_iload_n hX dX2_isPairSound_37 rfl rfl ?_
        refine r_aload_n hX dX2_isPairSound_38 rfl rfl ?_
        refine r_aload_n hX dX2_isPairSound_39 rfl rfl ?_
        refine r_callV hX (z_X1_orderTo _ _ q1 _ _ _ _ h1 r1 q0 _ _ _ _ h0 r0) kv_X2_179 q1 h1 rfl rfl rfl (Nat.le_of_ble_eq_true rfl) ⟨(Nat.le_of_ble_eq_true rfl), (Nat.le_of_ble_eq_true rfl)⟩ ⟨(Nat.le_of_ble_eq_true rfl), (Nat.le_of_ble_eq_true rfl)⟩ dX2_isPairSound_40 (fun _ _ z => False.elim z) (fun v9 ws9 h24 => ?_)
        obtain ⟨rfl, hw9⟩ := h24
        subst ws9
        dsimp only [mPush]
        have hb24 := zTo_b s1 n1 o1 s0 n0 o0
        refine r_inegZ hX dX2_isPairSound_43 ?_
        refine r_icmp_neZ (tgt := 63) hX dX2_isPairSound_44 (by decide) (by omega) (by omega) (fun c25 => ?_) (fun c25 => ?_)
        · refine r_iconstZ hX dX2_isPairSound_63 ?_
          exfalso
          omega
        · refine r_aload_n hX dX2_isPairSound_47 rfl rfl ?_
          refine r_aload_n hX dX2_isPairSound_48 rfl rfl ?_
          refine r_callV hX (z_X1_isSame _ _ q0 _ _ _ _ h0 r0 q1 _ _ _ _ h1 r1) kv_X2_363 q0 h0 rfl rfl rfl (Nat.le_of_ble_eq_true rfl) ⟨(Nat.le_of_ble_eq_true rfl), (Nat.le_of_ble_eq_true rfl)⟩ ⟨(Nat.le_of_ble_eq_true rfl), (Nat.le_of_ble_eq_true rfl)⟩ dX2_isPairSound_49 (fun _ _ z => False.elim z) (fun v9 ws9 h26 => ?_)
          obtain ⟨rfl, hw9⟩ := h26
          subst ws9
          dsimp only [mPush]
          refine r_if_eqB (tgt := 59) hX dX2_isPairSound_52 (by decide) (fun c27 => ?_) (fun c27 => ?_)
          · have c27 := of_decide_eq_false c27
            refine r_iconstZ hX dX2_isPairSound_59 ?_
            refine r_goto (tgt := 64) hX dX2_isPairSound_60 (by decide) ?_
            exact r_zret hX hE dX2_isPairSound_64 (by decide) (Nat.le_of_ble_eq_true rfl) (Nat.le_of_ble_eq_true rfl) ⟨rfl, rfl⟩
          · have c27 := of_decide_eq_true c27
            refine r_iload_n hX dX2_isPairSound_55 rfl rfl ?_
            refine r_if_neZ (tgt := 63) hX dX2_isPairSound_56 (by decide) (by omega) (fun c28 => ?_) (fun c28 => ?_)
            · refine r_iconstZ hX dX2_isPairSound_63 ?_
              exfalso
              omega
            · refine r_iconstZ hX dX2_isPairSound_59 ?_
              refine r_goto (tgt := 64) hX dX2_isPairSound_60 (by decide) ?_
              exact r_zret hX hE dX2_isPairSound_64 (by decide) (Nat.le_of_ble_eq_true rfl) (Nat.le_of_ble_eq_true rfl) ⟨rfl, rfl⟩

