/-! Text methods of the JDK, their contracts. (Rows by a program of this repository.) -/
theorem mrev : ∀ n, n < 65 → 1 ≤ n → (nI (n - 1) - 1) >>> ((1 : Int32) &&& 31) = nI (n / 2) - 1 := by decide +kernel
theorem mdec (j : Nat) : nI j + Int32.ofInt (-1) = nI j - 1 := by
  rw [Int32.sub_eq_add_neg]
  rfl
theorem msuc1 (j : Nat) : nI (j + 1) - 1 = nI j := pk_sub (a := j + 1) (b := 1) (by omega)
set_option maxHeartbeats 1000000 in
theorem c_asbReverse (cs : ClassId × ClassId × ClassId) (cB : ClassId) (b v : Nat) (ml : Int32) (n m : Nat) (f : Nat → Int32) (rest : va_W) (hf : sb_Fit f) (h1 : 1 ≤ n) (h2 : n ≤ m) (h3 : m ≤ 64) : mCt (mTb4 cs cB) yJ5_reverse_278bc cJ5_reverse_278bc 7 (some (.object "java/lang/AbstractStringBuilder")) ⟨1, 0, 0, 40⟩ [.ref b] (mSb b v ml n cB m f rest) (fun v9 ws' => v9 = some (.ref b) ∧ ∃ f' : Nat → Int32, sb_Fit f' ∧ ws' = mSb b v ml n cB m f' rest) mNo := by
  refine mCt.of (by decide +kernel) (Nat.le_of_ble_eq_true rfl) (fun X hX hE => ?_)
  replace hX : mOK X RJ5 cJ5_reverse_278bc 7 ⟨1, 0, 0, 40⟩ [] (mTb4 cs cB) := hX
  refine r_aload_n hX dJ5_reverse_278bc_0 rfl rfl ?_
  refine r_get hX jf_J5_15 0 rfl rfl dJ5_reverse_278bc_1 ?_
  refine r_astore_n hX dJ5_reverse_278bc_4 rfl (by decide) rfl ?_
  refine r_aload_n hX dJ5_reverse_278bc_5 rfl rfl ?_
  refine r_get hX jf_J5_79 0 rfl rfl dJ5_reverse_278bc_6 ?_
  refine r_istore_n hX dJ5_reverse_278bc_9 rfl (by decide) rfl ?_
  refine r_iload_n hX dJ5_reverse_278bc_10 rfl rfl ?_
  refine r_iconst (v := 1) hX dJ5_reverse_278bc_11 (by decide) ?_
  refine r_isub hX dJ5_reverse_278bc_12 ?_
  rw [show nI n - 1 = nI (n - 1) from pk_sub (b := 1) h1]
  refine r_istore_n hX dJ5_reverse_278bc_13 rfl (by decide) rfl ?_
  refine r_aload_n hX dJ5_reverse_278bc_14 rfl rfl ?_
  refine r_callU hX mGT_h (c_isLatin1 _ _ 0 b _ _ _ rfl).ofg ju_J5_83 0 rfl (show vwCl[1]? = _ from rfl) rfl rfl (Nat.le_of_ble_eq_true rfl) ⟨(Nat.le_of_ble_eq_true rfl), (Nat.le_of_ble_eq_true rfl)⟩ ⟨(Nat.le_of_ble_eq_true rfl), (Nat.le_of_ble_eq_true rfl)⟩ dJ5_reverse_278bc_15 (fun v9 ws9 h8 => ?_)
  obtain ⟨rfl, hw9⟩ := h8
  subst ws9
  dsimp only [mPush]
  refine r_if_eq (tgt := 68) hX dJ5_reverse_278bc_18 (by decide) (fun c9 => absurd c9 (by decide)) (fun _ => ?_)
  refine r_iload_n hX dJ5_reverse_278bc_21 rfl rfl ?_
  refine r_iconst (v := 1) hX dJ5_reverse_278bc_22 (by decide) ?_
  refine r_isub hX dJ5_reverse_278bc_23 ?_
  refine r_iconst (v := 1) hX dJ5_reverse_278bc_24 (by decide) ?_
  refine r_ishr1 hX dJ5_reverse_278bc_25 ?_
  rw [mrev n (by omega) h1]
  refine r_istore hX dJ5_reverse_278bc_26 (by decide) rfl ?_
  have L : ∀ (j : Nat) (f : Nat → Int32), j ≤ n / 2 → sb_Fit f → mV X 28 [(0, some (.ref b)), (1, some (.ref v)), (2, some (.int (nI n))), (3, some (.int (nI (n - 1)))), (4, some (.int (nI j - 1)))] [] (mSb b v ml n cB m f rest) 0 0 := by
    intro j
    induction j with
    | zero =>
      intro f hj hf
      refine r_iload hX dJ5_reverse_278bc_28 rfl ?_
      refine r_if_lt (tgt := 65) hX dJ5_reverse_278bc_30 (by decide) (fun _ => ?_) (fun c9 => absurd (by decide) c9)
      refine r_goto (tgt := 73) hX dJ5_reverse_278bc_65 (by decide) ?_
      refine r_aload_n hX dJ5_reverse_278bc_73 rfl rfl ?_
      exact r_aret hX hE dJ5_reverse_278bc_74 (Or.inl ⟨_, rfl⟩) (Or.inr ⟨_, rfl⟩) (Nat.le_of_ble_eq_true rfl) (Nat.le_of_ble_eq_true rfl) ⟨rfl, f, hf, rfl⟩
    | succ j ih =>
      intro f hj hf
      rw [msuc1]
      refine r_iload hX dJ5_reverse_278bc_28 rfl ?_
      refine r_if_lt (tgt := 65) hX dJ5_reverse_278bc_30 (by decide) (fun c9 => absurd c9 (nI_pos (by omega))) (fun _ => ?_)
      refine r_iload_n hX dJ5_reverse_278bc_33 rfl rfl ?_
      refine r_iload hX dJ5_reverse_278bc_34 rfl ?_
      refine r_isub hX dJ5_reverse_278bc_36 ?_
      rw [pk_sub (show j ≤ n - 1 by omega)]
      refine r_istore hX dJ5_reverse_278bc_37 (by decide) rfl ?_
      refine r_aload_n hX dJ5_reverse_278bc_39 rfl rfl ?_
      refine r_iload hX dJ5_reverse_278bc_40 rfl ?_
      refine r_bald hX 1 3 rfl rfl (vp_in_nI (n := j) (N := m) (by omega) (by omega)) dJ5_reverse_278bc_42 ?_
      refine r_istore hX dJ5_reverse_278bc_43 (by decide) rfl ?_
      refine r_aload_n hX dJ5_reverse_278bc_45 rfl rfl ?_
      refine r_iload hX dJ5_reverse_278bc_46 rfl ?_
      refine r_aload_n hX dJ5_reverse_278bc_48 rfl rfl ?_
      refine r_iload hX dJ5_reverse_278bc_49 rfl ?_
      refine r_bald hX 1 3 rfl rfl (vp_in_nI (n := (n - 1 - j)) (N := m) (by omega) (by omega)) dJ5_reverse_278bc_51 ?_
      refine r_bast hX 1 3 rfl rfl (vp_in_nI (n := j) (N := m) (by omega) (by omega)) dJ5_reverse_278bc_52 ?_
      refine r_aload_n hX dJ5_reverse_278bc_53 rfl rfl ?_
      refine r_iload hX dJ5_reverse_278bc_54 rfl ?_
      refine r_iload hX dJ5_reverse_278bc_56 rfl ?_
      refine r_bast hX 1 3 rfl rfl (vp_in_nI (n := (n - 1 - j)) (N := m) (by omega) (by omega)) dJ5_reverse_278bc_58 ?_
      refine r_iinc hX dJ5_reverse_278bc_59 rfl (by decide) rfl ?_
      refine r_goto (tgt := 28) hX dJ5_reverse_278bc_62 (by decide) ?_
      exact r_loc (k' := 0) (n' := 0) (by exact ⟨rfl, rfl, rfl, rfl, congrArg (fun z => some (Value.int z)) (mdec j), trivial⟩) (Nat.le_of_ble_eq_true rfl) (Nat.le_of_ble_eq_true rfl) (ih _ (by omega) (sb_fitU (sb_fitU hf (pk_fb _)) (pk_fb _)))
  exact r_loc (k' := 0) (n' := 0) (by exact ⟨rfl, rfl, rfl, rfl, rfl, trivial⟩) (Nat.le_of_ble_eq_true rfl) (Nat.le_of_ble_eq_true rfl) (L (n / 2) f (Nat.le_refl _) hf)
set_option maxHeartbeats 1000000 in
theorem c_sbReverse (cs : ClassId × ClassId × ClassId) (cB : ClassId) (b v : Nat) (ml : Int32) (n m : Nat) (f : Nat → Int32) (rest : va_W) (hf : sb_Fit f) (h1 : 1 ≤ n) (h2 : n ≤ m) (h3 : m ≤ 64) : mCt (mTb4 cs cB) yJ4_reverse_43fcb cJ4_reverse_43fcb 1 (some (.object "java/lang/StringBuilder")) ⟨2, 0, 0, 70⟩ [.ref b] (mSb b v ml n cB m f rest) (fun v9 ws' => v9 = some (.ref b) ∧ ∃ f' : Nat → Int32, sb_Fit f' ∧ ws' = mSb b v ml n cB m f' rest) mNo := by
  refine mCt.of (by decide +kernel) (Nat.le_of_ble_eq_true rfl) (fun X hX hE => ?_)
  replace hX : mOK X RJ4 cJ4_reverse_43fcb 1 ⟨2, 0, 0, 70⟩ [] (mTb4 cs cB) := hX
  refine r_aload_n hX dJ4_reverse_43fcb_0 rfl rfl ?_
  refine r_callSU hX mGT_h (c_asbReverse cs cB b v ml n m f rest hf h1 h2 h3).ofg jsu_J4_127 0 rfl (show vwCl[1]? = _ from rfl) rfl rfl (Nat.le_of_ble_eq_true rfl) ⟨(Nat.le_of_ble_eq_true rfl), (Nat.le_of_ble_eq_true rfl)⟩ ⟨(Nat.le_of_ble_eq_true rfl), (Nat.le_of_ble_eq_true rfl)⟩ dJ4_reverse_43fcb_1 (fun v9 ws9 h8 => ?_)
  obtain ⟨rfl, f1, hf1, hw9⟩ := h8
  subst ws9
  dsimp only [mPush]
  refine r_pop hX dJ4_reverse_43fcb_4 rfl ?_
  refine r_aload_n hX dJ4_reverse_43fcb_5 rfl rfl ?_
  exact r_aret hX hE dJ4_reverse_43fcb_6 (Or.inl ⟨_, rfl⟩) (Or.inr ⟨_, rfl⟩) (Nat.le_of_ble_eq_true rfl) (Nat.le_of_ble_eq_true rfl) ⟨rfl, f1, hf1, rfl⟩
set_option maxHeartbeats 1000000 in
theorem c_strInit2 (cs : ClassId × ClassId × ClassId) (cB : ClassId) (s b v : Nat) (ml : Int32) (n m : Nat) (f : Nat → Int32) (rest : va_W) (hf : sb_Fit f) (h2 : n ≤ m) (h3 : m ≤ 64) : mCt (mTb4 cs cB) yJ0_init_db425 cJ0_init_db425 5 none ⟨3, 1, 64, 180⟩ [.ref s, .ref b, .null] ((s, .inr (0, [.null, .int 0, .int 0, .int 0])) :: mSb b v ml n cB m f rest) (fun v9 ws' => v9 = none ∧ ∃ (r : Nat) (g : Nat → Int32), sb_Fit g ∧ ws' = (r, .inl (cB, n, .inl g)) :: (s, .inr (0, [.ref r, .int 0, .int 0, .int 0])) :: mSb b v ml n cB m f rest) mNo := by
  refine mCt.ofI (by decide +kernel) rfl (Nat.le_of_ble_eq_true rfl) (fun X hX hi hE => ?_)
  replace hX : mOK X RJ0 cJ0_init_db425 5 ⟨3, 1, 64, 180⟩ [] (mTb4 cs cB) := hX
  refine r_aload_n hX dJ0_init_db425_0 rfl rfl ?_
  refine r_objInit hX job_J0 (Nat.le_of_ble_eq_true rfl) (Nat.le_of_ble_eq_true rfl) dJ0_init_db425_1 ?_
  refine r_aload_n hX dJ0_init_db425_4 rfl rfl ?_
  refine r_callU hX mGT_h (c_getValue _ _ 1 b v _ _ _ rfl).ofg ju_J0_552 1 rfl (show vwCl[1]? = _ from rfl) rfl rfl (Nat.le_of_ble_eq_true rfl) ⟨(Nat.le_of_ble_eq_true rfl), (Nat.le_of_ble_eq_true rfl)⟩ ⟨(Nat.le_of_ble_eq_true rfl), (Nat.le_of_ble_eq_true rfl)⟩ dJ0_init_db425_5 (fun v9 ws9 h8 => ?_)
  obtain ⟨rfl, hw9⟩ := h8
  subst ws9
  dsimp only [mPush]
  refine r_astore_n hX dJ0_init_db425_8 rfl (by decide) rfl ?_
  refine r_aload_n hX dJ0_init_db425_9 rfl rfl ?_
  refine r_callU hX mGT_h (c_sbLength _ _ 1 b (nI n) _ _ _ rfl).ofg ju_J0_549 1 rfl (show vwCl[1]? = _ from rfl) rfl rfl (Nat.le_of_ble_eq_true rfl) ⟨(Nat.le_of_ble_eq_true rfl), (Nat.le_of_ble_eq_true rfl)⟩ ⟨(Nat.le_of_ble_eq_true rfl), (Nat.le_of_ble_eq_true rfl)⟩ dJ0_init_db425_10 (fun v9 ws9 h8 => ?_)
  obtain ⟨rfl, hw9⟩ := h8
  subst ws9
  dsimp only [mPush]
  refine r_istore hX dJ0_init_db425_13 (by decide) rfl ?_
  refine r_aload_n hX dJ0_init_db425_15 rfl rfl ?_
  refine r_callU hX mGT_h (c_isLatin1 _ _ 1 b _ _ _ rfl).ofg ju_J0_1047 1 rfl (show vwCl[1]? = _ from rfl) rfl rfl (Nat.le_of_ble_eq_true rfl) ⟨(Nat.le_of_ble_eq_true rfl), (Nat.le_of_ble_eq_true rfl)⟩ ⟨(Nat.le_of_ble_eq_true rfl), (Nat.le_of_ble_eq_true rfl)⟩ dJ0_init_db425_16 (fun v9 ws9 h8 => ?_)
  obtain ⟨rfl, hw9⟩ := h8
  subst ws9
  dsimp only [mPush]
  refine r_if_eq (tgt := 41) hX dJ0_init_db425_19 (by decide) (fun c9 => absurd c9 (by decide)) (fun _ => ?_)
  refine r_aload_n hX dJ0_init_db425_22 rfl rfl ?_
  refine r_iconst (v := 0) hX dJ0_init_db425_23 (by decide) ?_
  refine r_putF (y := yJ0_init_db425) hX hi jf_J0_15 0 rfl rfl rfl rfl rfl (Nat.le_of_ble_eq_true rfl) dJ0_init_db425_24 ?_
  refine r_aload_n hX dJ0_init_db425_27 rfl rfl ?_
  refine r_aload_n hX dJ0_init_db425_28 rfl rfl ?_
  refine r_iconst (v := 0) hX dJ0_init_db425_29 (by decide) ?_
  refine r_iload hX dJ0_init_db425_30 rfl ?_
  refine r_callS hX (c_copyOfRange cs cB _ 2 v m n f rfl hf h2 h3) js_J0_54 rfl rfl (Nat.le_of_ble_eq_true rfl) ⟨(Nat.le_of_ble_eq_true rfl), (Nat.le_of_ble_eq_true rfl)⟩ ⟨(Nat.le_of_ble_eq_true rfl), (Nat.le_of_ble_eq_true rfl)⟩ dJ0_init_db425_32 (fun _ _ z => False.elim z) (fun v9 ws9 h8 => ?_)
  obtain ⟨r, g, hg9, rfl, hw9⟩ := h8
  subst ws9
  dsimp only [mPush]
  refine r_putF (y := yJ0_init_db425) hX hi jf_J0_9 1 rfl rfl rfl rfl rfl (Nat.le_of_ble_eq_true rfl) dJ0_init_db425_35 ?_
  refine r_goto (tgt := 97) hX dJ0_init_db425_38 (by decide) ?_
  exact r_vret hX hE dJ0_init_db425_97 (Nat.le_of_ble_eq_true rfl) (Nat.le_of_ble_eq_true rfl) ⟨rfl, r, g, hg9, rfl⟩
set_option maxHeartbeats 1000000 in
theorem c_strInit1 (cs : ClassId × ClassId × ClassId) (cB : ClassId) (s b v : Nat) (ml : Int32) (n m : Nat) (f : Nat → Int32) (rest : va_W) (hf : sb_Fit f) (h2 : n ≤ m) (h3 : m ≤ 64) : mCt (mTb4 cs cB) yJ0_init_81219 cJ0_init_81219 2 none ⟨4, 1, 64, 210⟩ [.ref s, .ref b] ((s, .inr (0, [.null, .int 0, .int 0, .int 0])) :: mSb b v ml n cB m f rest) (fun v9 ws' => v9 = none ∧ ∃ (r : Nat) (g : Nat → Int32), sb_Fit g ∧ ws' = (r, .inl (cB, n, .inl g)) :: (s, .inr (0, [.ref r, .int 0, .int 0, .int 0])) :: mSb b v ml n cB m f rest) mNo := by
  refine mCt.ofI (by decide +kernel) rfl (Nat.le_of_ble_eq_true rfl) (fun X hX hi hE => ?_)
  replace hX : mOK X RJ0 cJ0_init_81219 2 ⟨4, 1, 64, 210⟩ [] (mTb4 cs cB) := hX
  refine r_aload_n hX dJ0_init_81219_0 rfl rfl ?_
  refine r_aload_n hX dJ0_init_81219_1 rfl rfl ?_
  refine r_null hX dJ0_init_81219_2 ?_
  refine r_callI hX (c_strInit2 cs cB s b v ml n m f rest hf h2 h3) ji_J0_489 (as := [.ref b, .null]) rfl rfl (Nat.le_of_ble_eq_true rfl) ⟨(Nat.le_of_ble_eq_true rfl), (Nat.le_of_ble_eq_true rfl)⟩ ⟨(Nat.le_of_ble_eq_true rfl), (Nat.le_of_ble_eq_true rfl)⟩ dJ0_init_81219_3 (fun v9 ws9 h8 => ?_)
  obtain ⟨rfl, r, g, hg9, hw9⟩ := h8
  subst ws9
  dsimp only [mPush]
  exact r_vret hX hE dJ0_init_81219_6 (Nat.le_of_ble_eq_true rfl) (Nat.le_of_ble_eq_true rfl) ⟨rfl, r, g, hg9, rfl⟩
theorem mJ0z : ∀ j, j < 4 → defaultValue (tyJ0 j) = vp_V [.null, .int 0, .int 0, .int 0] j := by
  intro j hj
  have h9 : j = 0 ∨ j = 1 ∨ j = 2 ∨ j = 3 := by omega
  rcases h9 with rfl | rfl | rfl | rfl <;> rfl
theorem mJ4z : ∀ j, j < 4 → defaultValue (tyJ4 j) = vp_V [.null, .int 0, .int 0, .int 0] j := by
  intro j hj
  have h9 : j = 0 ∨ j = 1 ∨ j = 2 ∨ j = 3 := by omega
  rcases h9 with rfl | rfl | rfl | rfl <;> rfl
set_option maxHeartbeats 1000000 in
theorem c_toString (cs : ClassId × ClassId × ClassId) (cB : ClassId) (b v : Nat) (ml : Int32) (n m : Nat) (f : Nat → Int32) (rest : va_W) (hf : sb_Fit f) (h2 : n ≤ m) (h3 : m ≤ 64) : mCt (mTb4 cs cB) yJ4_toString_0e30d cJ4_toString_0e30d 1 (some (.object "java/lang/String")) ⟨5, 2, 68, 240⟩ [.ref b] (mSb b v ml n cB m f rest) (fun v9 ws' => (∃ s : Nat, v9 = some (.ref s)) ∧ ws' = rest) mNo := by
  refine mCt.of (by decide +kernel) (Nat.le_of_ble_eq_true rfl) (fun X hX hE => ?_)
  replace hX : mOK X RJ4 cJ4_toString_0e30d 1 ⟨5, 2, 68, 240⟩ [] (mTb4 cs cB) := hX
  refine r_new hX kinJ0 tyJ0_ok jk_J4_18 jn_J0 jt_J0 (show vwCl[0]? = _ from rfl) (fs := [.null, .int 0, .int 0, .int 0]) mJ0z (Nat.le_of_ble_eq_true rfl) (Nat.le_of_ble_eq_true rfl) dJ4_toString_0e30d_0 (fun s => ?_)
  refine r_dup hX dJ4_toString_0e30d_3 rfl ?_
  refine r_aload_n hX dJ4_toString_0e30d_4 rfl rfl ?_
  refine r_callI hX (c_strInit1 cs cB s b v ml n m f rest hf h2 h3) ji_J4_137 (as := [.ref b]) rfl rfl (Nat.le_of_ble_eq_true rfl) ⟨(Nat.le_of_ble_eq_true rfl), (Nat.le_of_ble_eq_true rfl)⟩ ⟨(Nat.le_of_ble_eq_true rfl), (Nat.le_of_ble_eq_true rfl)⟩ dJ4_toString_0e30d_5 (fun v9 ws9 h8 => ?_)
  obtain ⟨rfl, r, g, hg9, hw9⟩ := h8
  subst ws9
  dsimp only [mPush]
  refine r_part (B := [(r, .inl (cB, n, .inl g)), (s, .inr (0, [.ref r, .int 0, .int 0, .int 0])), (b, .inr (1, [.ref v, .int 0, .int ml, .int (nI n)])), (v, .inl (cB, m, .inl f))]) (C := []) (pl := rest) [] rfl rfl ?_
  exact r_aret hX hE dJ4_toString_0e30d_8 (Or.inl ⟨_, rfl⟩) (Or.inr ⟨_, rfl⟩) (Nat.le_of_ble_eq_true rfl) (Nat.le_of_ble_eq_true rfl) ⟨⟨s, rfl⟩, rfl⟩

