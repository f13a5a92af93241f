/-! The constructors. (Rows by a program of this repository.) -/
theorem r_arrq {X : mC} {pc : Nat} {lv : List (Nat × Option Value)} {st : List Value} {ws : va_W} {k n a N : Nat} {cA : ClassId} {f g : Nat → Option Nat} (q0 : Nat) (he : ws[q0]? = some (a, .inl (cA, N, .inr (.inr (.inr (.inr f)))))) (hfg : ∀ j, j < N → f j = g j) (kk : mV X pc lv st (ws.set q0 (a, .inl (cA, N, .inr (.inr (.inr (.inr g)))))) k n) : mV X pc lv st ws k n := by
  obtain ⟨p, l, e, R', s, m, args, below, meth, c, Q, D, tys', A⟩ := X
  have ec : vp_cell cA (N, .inr (.inr (.inr (.inr f)))) = vp_cell cA (N, .inr (.inr (.inr (.inr g)))) := by
    have e9 : (fun j : Fin N => va_rf (f j.val)) = (fun j : Fin N => va_rf (g j.val)) := funext fun j => by rw [hfg j.val j.isLt]
    rw [vp_cell_q, vp_cell_q]
    simp only [arrV, e9]
  exact fun H locs ls hP hD hS hl => kk H locs ls (hP.set hD he (by
    have h0 : H[a]? = some (vp_cell cA (N, .inr (.inr (.inr (.inr f))))) := hP q0 _ he
    rw [ec] at h0
    exact h0) (fun q _ => rfl)) (hD.set he) hS hl
theorem dX1_init_w0 : (cX1_init.data.toList.drop 0).take 64 = [42, 183, 0, 3, 177] := by decide +kernel
theorem dX1_init_0 : decode cX1_init 0 = .ok (.aload_n 0, 1) := dk_42 (dq_lk dX1_init_w0 (r := 0) (x := 42) rfl)
theorem dX1_init_1 : decode cX1_init 1 = .ok (.invokespecial 3, 3) := dk_183 (dq_lk dX1_init_w0 (r := 1) (x := 183) rfl) (dq_lk dX1_init_w0 (r := 2) (x := 0) rfl) (dq_lk dX1_init_w0 (r := 3) (x := 3) rfl)
theorem dX1_init_4 : decode cX1_init 4 = .ok (.return_, 1) := dk_177 (dq_lk dX1_init_w0 (r := 4) (x := 177) rfl)
theorem c_X1_init (tys : List (ClassId × FieldType)) (ws : va_W) (a : Nat) : mCt tys yX1_init cX1_init 1 none ⟨1, 0, 0, 12⟩ [.ref a] ws (fun v ws' => v = none ∧ ws' = ws) mNo := by
  refine mCt.of (by decide +kernel) (Nat.le_of_ble_eq_true rfl) (fun X hX hE => ?_)
  replace hX : mOK X RX1 cX1_init 1 ⟨1, 0, 0, 12⟩ [] tys := hX
  refine r_aload_n hX dX1_init_0 rfl rfl ?_
  refine r_objInit hX kob_X1 (Nat.le_of_ble_eq_true rfl) (Nat.le_of_ble_eq_true rfl) dX1_init_1 ?_
  exact r_vret hX hE dX1_init_4 (Nat.le_of_ble_eq_true rfl) (Nat.le_of_ble_eq_true rfl) ⟨rfl, rfl⟩
theorem dX3_init_w0 : (cX3_init.data.toList.drop 0).take 64 = [42, 183, 0, 1, 177] := by decide +kernel
theorem dX3_init_0 : decode cX3_init 0 = .ok (.aload_n 0, 1) := dk_42 (dq_lk dX3_init_w0 (r := 0) (x := 42) rfl)
theorem dX3_init_1 : decode cX3_init 1 = .ok (.invokespecial 1, 3) := dk_183 (dq_lk dX3_init_w0 (r := 1) (x := 183) rfl) (dq_lk dX3_init_w0 (r := 2) (x := 0) rfl) (dq_lk dX3_init_w0 (r := 3) (x := 1) rfl)
theorem dX3_init_4 : decode cX3_init 4 = .ok (.return_, 1) := dk_177 (dq_lk dX3_init_w0 (r := 4) (x := 177) rfl)
theorem c_X3_init (tys : List (ClassId × FieldType)) (ws : va_W) (a : Nat) : mCt tys yX3_init cX3_init 1 none ⟨1, 0, 0, 12⟩ [.ref a] ws (fun v ws' => v = none ∧ ws' = ws) mNo := by
  refine mCt.of (by decide +kernel) (Nat.le_of_ble_eq_true rfl) (fun X hX hE => ?_)
  replace hX : mOK X RX3 cX3_init 1 ⟨1, 0, 0, 12⟩ [] tys := hX
  refine r_aload_n hX dX3_init_0 rfl rfl ?_
  refine r_objInit hX kob_X3 (Nat.le_of_ble_eq_true rfl) (Nat.le_of_ble_eq_true rfl) dX3_init_1 ?_
  exact r_vret hX hE dX3_init_4 (Nat.le_of_ble_eq_true rfl) (Nat.le_of_ble_eq_true rfl) ⟨rfl, rfl⟩
theorem mX1z : ∀ j, j < 3 → defaultValue (tyX1 j) = vp_V [.long 0, .int 0, .int 0] j := by
  intro j hj
  have h9 : j = 0 ∨ j = 1 ∨ j = 2 := by omega
  rcases h9 with rfl | rfl | rfl <;> rfl
def mO0 : Nat → Int32 := upd (upd (upd (upd (fun _ => 0) (0 : Int32).toNatClampNeg 0) (1 : Int32).toNatClampNeg 3600) (2 : Int32).toNatClampNeg (-18000)) (3 : Int32).toNatClampNeg 20700
def mN0 : Nat → Int64 := vp_updL (vp_updL (vp_updL (vp_updL (fun _ => 0) (0 : Int32).toNatClampNeg 0) (1 : Int32).toNatClampNeg 0) (2 : Int32).toNatClampNeg 0) (3 : Int32).toNatClampNeg 0
def mK0 : mK := (mO0, mN0, fun _ => (0, 0, 0), 0, 0)
def mJ0 : mJ := ((0, 0, 0), mO0, fun _ => 0, fun _ => 0, fun _ => 0, fun _ => 0, fun _ => 0)
theorem mfor4 {α : Type} {f g : Nat → α} (h0 : f 0 = g 0) (h1 : f 1 = g 1) (h2 : f 2 = g 2) (h3 : f 3 = g 3) : ∀ j, j < 4 → f j = g j := by
  intro j hj
  have h9 : j = 0 ∨ j = 1 ∨ j = 2 ∨ j = 3 := by omega
  rcases h9 with rfl | rfl | rfl | rfl <;> assumption
theorem mfor3 {α : Type} {f g : Nat → α} (h0 : f 0 = g 0) (h1 : f 1 = g 1) (h2 : f 2 = g 2) : ∀ j, j < 3 → f j = g j := by
  intro j hj
  have h9 : j = 0 ∨ j = 1 ∨ j = 2 := by omega
  rcases h9 with rfl | rfl | rfl <;> assumption
theorem dX2_init_w0 : (cX2_init.data.toList.drop 0).take 64 = [42, 183, 0, 3, 42, 7, 188, 10, 89, 3, 3, 79, 89, 4, 17, 14, 16, 79, 89, 5, 17, 185, 176, 79, 89, 6, 17, 80, 220, 79, 181, 0, 9, 42, 7, 188, 11, 89, 3, 9, 80, 89, 4, 9, 80, 89, 5, 9, 80, 89, 6, 9, 80, 181, 0, 13, 42, 7, 189, 0, 17, 89, 3, 187] := by decide +kernel
theorem dX2_init_w1 : (cX2_init.data.toList.drop 64).take 64 = [0, 17, 89, 183, 0, 19, 83, 89, 4, 187, 0, 17, 89, 183, 0, 19, 83, 89, 5, 187, 0, 17, 89, 183, 0, 19, 83, 89, 6, 187, 0, 17, 89, 183, 0, 19, 83, 181, 0, 20, 42, 6, 189, 0, 17, 89, 3, 187, 0, 17, 89, 183, 0, 19, 83, 89, 4, 187, 0, 17, 89, 183, 0, 19] := by decide +kernel
theorem dX2_init_w2 : (cX2_init.data.toList.drop 128).take 64 = [83, 89, 5, 187, 0, 17, 89, 183, 0, 19, 83, 181, 0, 24, 42, 187, 0, 17, 89, 183, 0, 19, 181, 0, 27, 42, 187, 0, 17, 89, 183, 0, 19, 181, 0, 31, 177] := by decide +kernel
theorem dX2_init_0 : decode cX2_init 0 = .ok (.aload_n 0, 1) := dk_42 (dq_lk dX2_init_w0 (r := 0) (x := 42) rfl)
theorem dX2_init_1 : decode cX2_init 1 = .ok (.invokespecial 3, 3) := dk_183 (dq_lk dX2_init_w0 (r := 1) (x := 183) rfl) (dq_lk dX2_init_w0 (r := 2) (x := 0) rfl) (dq_lk dX2_init_w0 (r := 3) (x := 3) rfl)
theorem dX2_init_4 : decode cX2_init 4 = .ok (.aload_n 0, 1) := dk_42 (dq_lk dX2_init_w0 (r := 4) (x := 42) rfl)
theorem dX2_init_5 : decode cX2_init 5 = .ok (.iconst 4, 1) := dk_7 (dq_lk dX2_init_w0 (r := 5) (x := 7) rfl)
theorem dX2_init_6 : decode cX2_init 6 = .ok (.newarray .int, 2) := by decide +kernel
theorem dX2_init_8 : decode cX2_init 8 = .ok (.dup, 1) := dk_89 (dq_lk dX2_init_w0 (r := 8) (x := 89) rfl)
theorem dX2_init_9 : decode cX2_init 9 = .ok (.iconst 0, 1) := dk_3 (dq_lk dX2_init_w0 (r := 9) (x := 3) rfl)
theorem dX2_init_10 : decode cX2_init 10 = .ok (.iconst 0, 1) := dk_3 (dq_lk dX2_init_w0 (r := 10) (x := 3) rfl)
theorem dX2_init_11 : decode cX2_init 11 = .ok (.iastore, 1) := dk_79 (dq_lk dX2_init_w0 (r := 11) (x := 79) rfl)
theorem dX2_init_12 : decode cX2_init 12 = .ok (.dup, 1) := dk_89 (dq_lk dX2_init_w0 (r := 12) (x := 89) rfl)
theorem dX2_init_13 : decode cX2_init 13 = .ok (.iconst 1, 1) := dk_4 (dq_lk dX2_init_w0 (r := 13) (x := 4) rfl)
theorem dX2_init_14 : decode cX2_init 14 = .ok (.sipush 3600, 3) := dk_17 (dq_lk dX2_init_w0 (r := 14) (x := 17) rfl) (dq_lk dX2_init_w0 (r := 15) (x := 14) rfl) (dq_lk dX2_init_w0 (r := 16) (x := 16) rfl) (by decide +kernel)
theorem dX2_init_17 : decode cX2_init 17 = .ok (.iastore, 1) := dk_79 (dq_lk dX2_init_w0 (r := 17) (x := 79) rfl)
theorem dX2_init_18 : decode cX2_init 18 = .ok (.dup, 1) := dk_89 (dq_lk dX2_init_w0 (r := 18) (x := 89) rfl)
theorem dX2_init_19 : decode cX2_init 19 = .ok (.iconst 2, 1) := dk_5 (dq_lk dX2_init_w0 (r := 19) (x := 5) rfl)
theorem dX2_init_20 : decode cX2_init 20 = .ok (.sipush (-18000), 3) := dk_17 (dq_lk dX2_init_w0 (r := 20) (x := 17) rfl) (dq_lk dX2_init_w0 (r := 21) (x := 185) rfl) (dq_lk dX2_init_w0 (r := 22) (x := 176) rfl) (by decide +kernel)
theorem dX2_init_23 : decode cX2_init 23 = .ok (.iastore, 1) := dk_79 (dq_lk dX2_init_w0 (r := 23) (x := 79) rfl)
theorem dX2_init_24 : decode cX2_init 24 = .ok (.dup, 1) := dk_89 (dq_lk dX2_init_w0 (r := 24) (x := 89) rfl)
theorem dX2_init_25 : decode cX2_init 25 = .ok (.iconst 3, 1) := dk_6 (dq_lk dX2_init_w0 (r := 25) (x := 6) rfl)
theorem dX2_init_26 : decode cX2_init 26 = .ok (.sipush 20700, 3) := dk_17 (dq_lk dX2_init_w0 (r := 26) (x := 17) rfl) (dq_lk dX2_init_w0 (r := 27) (x := 80) rfl) (dq_lk dX2_init_w0 (r := 28) (x := 220) rfl) (by decide +kernel)
theorem dX2_init_29 : decode cX2_init 29 = .ok (.iastore, 1) := dk_79 (dq_lk dX2_init_w0 (r := 29) (x := 79) rfl)
theorem dX2_init_30 : decode cX2_init 30 = .ok (.putfield 9, 3) := dk_181 (dq_lk dX2_init_w0 (r := 30) (x := 181) rfl) (dq_lk dX2_init_w0 (r := 31) (x := 0) rfl) (dq_lk dX2_init_w0 (r := 32) (x := 9) rfl)
theorem dX2_init_33 : decode cX2_init 33 = .ok (.aload_n 0, 1) := dk_42 (dq_lk dX2_init_w0 (r := 33) (x := 42) rfl)
theorem dX2_init_34 : decode cX2_init 34 = .ok (.iconst 4, 1) := dk_7 (dq_lk dX2_init_w0 (r := 34) (x := 7) rfl)
theorem dX2_init_35 : decode cX2_init 35 = .ok (.newarray .long, 2) := by decide +kernel
theorem dX2_init_37 : decode cX2_init 37 = .ok (.dup, 1) := dk_89 (dq_lk dX2_init_w0 (r := 37) (x := 89) rfl)
theorem dX2_init_38 : decode cX2_init 38 = .ok (.iconst 0, 1) := dk_3 (dq_lk dX2_init_w0 (r := 38) (x := 3) rfl)
theorem dX2_init_39 : decode cX2_init 39 = .ok (.lconst 0, 1) := dk_9 (dq_lk dX2_init_w0 (r := 39) (x := 9) rfl)
theorem dX2_init_40 : decode cX2_init 40 = .ok (.lastore, 1) := dk_80 (dq_lk dX2_init_w0 (r := 40) (x := 80) rfl)
theorem dX2_init_41 : decode cX2_init 41 = .ok (.dup, 1) := dk_89 (dq_lk dX2_init_w0 (r := 41) (x := 89) rfl)
theorem dX2_init_42 : decode cX2_init 42 = .ok (.iconst 1, 1) := dk_4 (dq_lk dX2_init_w0 (r := 42) (x := 4) rfl)
theorem dX2_init_43 : decode cX2_init 43 = .ok (.lconst 0, 1) := dk_9 (dq_lk dX2_init_w0 (r := 43) (x := 9) rfl)
theorem dX2_init_44 : decode cX2_init 44 = .ok (.lastore, 1) := dk_80 (dq_lk dX2_init_w0 (r := 44) (x := 80) rfl)
theorem dX2_init_45 : decode cX2_init 45 = .ok (.dup, 1) := dk_89 (dq_lk dX2_init_w0 (r := 45) (x := 89) rfl)
theorem dX2_init_46 : decode cX2_init 46 = .ok (.iconst 2, 1) := dk_5 (dq_lk dX2_init_w0 (r := 46) (x := 5) rfl)
theorem dX2_init_47 : decode cX2_init 47 = .ok (.lconst 0, 1) := dk_9 (dq_lk dX2_init_w0 (r := 47) (x := 9) rfl)
theorem dX2_init_48 : decode cX2_init 48 = .ok (.lastore, 1) := dk_80 (dq_lk dX2_init_w0 (r := 48) (x := 80) rfl)
theorem dX2_init_49 : decode cX2_init 49 = .ok (.dup, 1) := dk_89 (dq_lk dX2_init_w0 (r := 49) (x := 89) rfl)
theorem dX2_init_50 : decode cX2_init 50 = .ok (.iconst 3, 1) := dk_6 (dq_lk dX2_init_w0 (r := 50) (x := 6) rfl)
theorem dX2_init_51 : decode cX2_init 51 = .ok (.lconst 0, 1) := dk_9 (dq_lk dX2_init_w0 (r := 51) (x := 9) rfl)
theorem dX2_init_52 : decode cX2_init 52 = .ok (.lastore, 1) := dk_80 (dq_lk dX2_init_w0 (r := 52) (x := 80) rfl)
theorem dX2_init_53 : decode cX2_init 53 = .ok (.putfield 13, 3) := dk_181 (dq_lk dX2_init_w0 (r := 53) (x := 181) rfl) (dq_lk dX2_init_w0 (r := 54) (x := 0) rfl) (dq_lk dX2_init_w0 (r := 55) (x := 13) rfl)
theorem dX2_init_56 : decode cX2_init 56 = .ok (.aload_n 0, 1) := dk_42 (dq_lk dX2_init_w0 (r := 56) (x := 42) rfl)
theorem dX2_init_57 : decode cX2_init 57 = .ok (.iconst 4, 1) := dk_7 (dq_lk dX2_init_w0 (r := 57) (x := 7) rfl)
theorem dX2_init_58 : decode cX2_init 58 = .ok (.anewarray 17, 3) := dk_189 (dq_lk dX2_init_w0 (r := 58) (x := 189) rfl) (dq_lk dX2_init_w0 (r := 59) (x := 0) rfl) (dq_lk dX2_init_w0 (r := 60) (x := 17) rfl)
theorem dX2_init_61 : decode cX2_init 61 = .ok (.dup, 1) := dk_89 (dq_lk dX2_init_w0 (r := 61) (x := 89) rfl)
theorem dX2_init_62 : decode cX2_init 62 = .ok (.iconst 0, 1) := dk_3 (dq_lk dX2_init_w0 (r := 62) (x := 3) rfl)
theorem dX2_init_63 : decode cX2_init 63 = .ok (.new 17, 3) := dk_187 (dq_lk dX2_init_w0 (r := 63) (x := 187) rfl) (dq_lk dX2_init_w1 (r := 0) (x := 0) rfl) (dq_lk dX2_init_w1 (r := 1) (x := 17) rfl)
theorem dX2_init_66 : decode cX2_init 66 = .ok (.dup, 1) := dk_89 (dq_lk dX2_init_w1 (r := 2) (x := 89) rfl)
theorem dX2_init_67 : decode cX2_init 67 = .ok (.invokespecial 19, 3) := dk_183 (dq_lk dX2_init_w1 (r := 3) (x := 183) rfl) (dq_lk dX2_init_w1 (r := 4) (x := 0) rfl) (dq_lk dX2_init_w1 (r := 5) (x := 19) rfl)
theorem dX2_init_70 : decode cX2_init 70 = .ok (.aastore, 1) := dk_83 (dq_lk dX2_init_w1 (r := 6) (x := 83) rfl)
theorem dX2_init_71 : decode cX2_init 71 = .ok (.dup, 1) := dk_89 (dq_lk dX2_init_w1 (r := 7) (x := 89) rfl)
theorem dX2_init_72 : decode cX2_init 72 = .ok (.iconst 1, 1) := dk_4 (dq_lk dX2_init_w1 (r := 8) (x := 4) rfl)
theorem dX2_init_73 : decode cX2_init 73 = .ok (.new 17, 3) := dk_187 (dq_lk dX2_init_w1 (r := 9) (x := 187) rfl) (dq_lk dX2_init_w1 (r := 10) (x := 0) rfl) (dq_lk dX2_init_w1 (r := 11) (x := 17) rfl)
theorem dX2_init_76 : decode cX2_init 76 = .ok (.dup, 1) := dk_89 (dq_lk dX2_init_w1 (r := 12) (x := 89) rfl)
theorem dX2_init_77 : decode cX2_init 77 = .ok (.invokespecial 19, 3) := dk_183 (dq_lk dX2_init_w1 (r := 13) (x := 183) rfl) (dq_lk dX2_init_w1 (r := 14) (x := 0) rfl) (dq_lk dX2_init_w1 (r := 15) (x := 19) rfl)
theorem dX2_init_80 : decode cX2_init 80 = .ok (.aastore, 1) := dk_83 (dq_lk dX2_init_w1 (r := 16) (x := 83) rfl)
theorem dX2_init_81 : decode cX2_init 81 = .ok (.dup, 1) := dk_89 (dq_lk dX2_init_w1 (r := 17) (x := 89) rfl)
theorem dX2_init_82 : decode cX2_init 82 = .ok (.iconst 2, 1) := dk_5 (dq_lk dX2_init_w1 (r := 18) (x := 5) rfl)
theorem dX2_init_83 : decode cX2_init 83 = .ok (.new 17, 3) := dk_187 (dq_lk dX2_init_w1 (r := 19) (x := 187) rfl) (dq_lk dX2_init_w1 (r := 20) (x := 0) rfl) (dq_lk dX2_init_w1 (r := 21) (x := 17) rfl)
theorem dX2_init_86 : decode cX2_init 86 = .ok (.dup, 1) := dk_89 (dq_lk dX2_init_w1 (r := 22) (x := 89) rfl)
theorem dX2_init_87 : decode cX2_init 87 = .ok (.invokespecial 19, 3) := dk_183 (dq_lk dX2_init_w1 (r := 23) (x := 183) rfl) (dq_lk dX2_init_w1 (r := 24) (x := 0) rfl) (dq_lk dX2_init_w1 (r := 25) (x := 19) rfl)
theorem dX2_init_90 : decode cX2_init 90 = .ok (.aastore, 1) := dk_83 (dq_lk dX2_init_w1 (r := 26) (x := 83) rfl)
theorem dX2_init_91 : decode cX2_init 91 = .ok (.dup, 1) := dk_89 (dq_lk dX2_init_w1 (r := 27) (x := 89) rfl)
theorem dX2_init_92 : decode cX2_init 92 = .ok (.iconst 3, 1) := dk_6 (dq_lk dX2_init_w1 (r := 28) (x := 6) rfl)
theorem dX2_init_93 : decode cX2_init 93 = .ok (.new 17, 3) := dk_187 (dq_lk dX2_init_w1 (r := 29) (x := 187) rfl) (dq_lk dX2_init_w1 (r := 30) (x := 0) rfl) (dq_lk dX2_init_w1 (r := 31) (x := 17) rfl)
theorem dX2_init_96 : decode cX2_init 96 = .ok (.dup, 1) := dk_89 (dq_lk dX2_init_w1 (r := 32) (x := 89) rfl)
theorem dX2_init_97 : decode cX2_init 97 = .ok (.invokespecial 19, 3) := dk_183 (dq_lk dX2_init_w1 (r := 33) (x := 183) rfl) (dq_lk dX2_init_w1 (r := 34) (x := 0) rfl) (dq_lk dX2_init_w1 (r := 35) (x := 19) rfl)
theorem dX2_init_100 : decode cX2_init 100 = .ok (.aastore, 1) := dk_83 (dq_lk dX2_init_w1 (r := 36) (x := 83) rfl)
theorem dX2_init_101 : decode cX2_init 101 = .ok (.putfield 20, 3) := dk_181 (dq_lk dX2_init_w1 (r := 37) (x := 181) rfl) (dq_lk dX2_init_w1 (r := 38) (x := 0) rfl) (dq_lk dX2_init_w1 (r := 39) (x := 20) rfl)
theorem dX2_init_104 : decode cX2_init 104 = .ok (.aload_n 0, 1) := dk_42 (dq_lk dX2_init_w1 (r := 40) (x := 42) rfl)
theorem dX2_init_105 : decode cX2_init 105 = .ok (.iconst 3, 1) := dk_6 (dq_lk dX2_init_w1 (r := 41) (x := 6) rfl)
theorem dX2_init_106 : decode cX2_init 106 = .ok (.anewarray 17, 3) := dk_189 (dq_lk dX2_init_w1 (r := 42) (x := 189) rfl) (dq_lk dX2_init_w1 (r := 43) (x := 0) rfl) (dq_lk dX2_init_w1 (r := 44) (x := 17) rfl)
theorem dX2_init_109 : decode cX2_init 109 = .ok (.dup, 1) := dk_89 (dq_lk dX2_init_w1 (r := 45) (x := 89) rfl)
theorem dX2_init_110 : decode cX2_init 110 = .ok (.iconst 0, 1) := dk_3 (dq_lk dX2_init_w1 (r := 46) (x := 3) rfl)
theorem dX2_init_111 : decode cX2_init 111 = .ok (.new 17, 3) := dk_187 (dq_lk dX2_init_w1 (r := 47) (x := 187) rfl) (dq_lk dX2_init_w1 (r := 48) (x := 0) rfl) (dq_lk dX2_init_w1 (r := 49) (x := 17) rfl)
theorem dX2_init_114 : decode cX2_init 114 = .ok (.dup, 1) := dk_89 (dq_lk dX2_init_w1 (r := 50) (x := 89) rfl)
theorem dX2_init_115 : decode cX2_init 115 = .ok (.invokespecial 19, 3) := dk_183 (dq_lk dX2_init_w1 (r := 51) (x := 183) rfl) (dq_lk dX2_init_w1 (r := 52) (x := 0) rfl) (dq_lk dX2_init_w1 (r := 53) (x := 19) rfl)
theorem dX2_init_118 : decode cX2_init 118 = .ok (.aastore, 1) := dk_83 (dq_lk dX2_init_w1 (r := 54) (x := 83) rfl)
theorem dX2_init_119 : decode cX2_init 119 = .ok (.dup, 1) := dk_89 (dq_lk dX2_init_w1 (r := 55) (x := 89) rfl)
theorem dX2_init_120 : decode cX2_init 120 = .ok (.iconst 1, 1) := dk_4 (dq_lk dX2_init_w1 (r := 56) (x := 4) rfl)
theorem dX2_init_121 : decode cX2_init 121 = .ok (.new 17, 3) := dk_187 (dq_lk dX2_init_w1 (r := 57) (x := 187) rfl) (dq_lk dX2_init_w1 (r := 58) (x := 0) rfl) (dq_lk dX2_init_w1 (r := 59) (x := 17) rfl)
theorem dX2_init_124 : decode cX2_init 124 = .ok (.dup, 1) := dk_89 (dq_lk dX2_init_w1 (r := 60) (x := 89) rfl)
theorem dX2_init_125 : decode cX2_init 125 = .ok (.invokespecial 19, 3) := dk_183 (dq_lk dX2_init_w1 (r := 61) (x := 183) rfl) (dq_lk dX2_init_w1 (r := 62) (x := 0) rfl) (dq_lk dX2_init_w1 (r := 63) (x := 19) rfl)
theorem dX2_init_128 : decode cX2_init 128 = .ok (.aastore, 1) := dk_83 (dq_lk dX2_init_w2 (r := 0) (x := 83) rfl)
theorem dX2_init_129 : decode cX2_init 129 = .ok (.dup, 1) := dk_89 (dq_lk dX2_init_w2 (r := 1) (x := 89) rfl)
theorem dX2_init_130 : decode cX2_init 130 = .ok (.iconst 2, 1) := dk_5 (dq_lk dX2_init_w2 (r := 2) (x := 5) rfl)
theorem dX2_init_131 : decode cX2_init 131 = .ok (.new 17, 3) := dk_187 (dq_lk dX2_init_w2 (r := 3) (x := 187) rfl) (dq_lk dX2_init_w2 (r := 4) (x := 0) rfl) (dq_lk dX2_init_w2 (r := 5) (x := 17) rfl)
theorem dX2_init_134 : decode cX2_init 134 = .ok (.dup, 1) := dk_89 (dq_lk dX2_init_w2 (r := 6) (x := 89) rfl)
theorem dX2_init_135 : decode cX2_init 135 = .ok (.invokespecial 19, 3) := dk_183 (dq_lk dX2_init_w2 (r := 7) (x := 183) rfl) (dq_lk dX2_init_w2 (r := 8) (x := 0) rfl) (dq_lk dX2_init_w2 (r := 9) (x := 19) rfl)
theorem dX2_init_138 : decode cX2_init 138 = .ok (.aastore, 1) := dk_83 (dq_lk dX2_init_w2 (r := 10) (x := 83) rfl)
theorem dX2_init_139 : decode cX2_init 139 = .ok (.putfield 24, 3) := dk_181 (dq_lk dX2_init_w2 (r := 11) (x := 181) rfl) (dq_lk dX2_init_w2 (r := 12) (x := 0) rfl) (dq_lk dX2_init_w2 (r := 13) (x := 24) rfl)
theorem dX2_init_142 : decode cX2_init 142 = .ok (.aload_n 0, 1) := dk_42 (dq_lk dX2_init_w2 (r := 14) (x := 42) rfl)
theorem dX2_init_143 : decode cX2_init 143 = .ok (.new 17, 3) := dk_187 (dq_lk dX2_init_w2 (r := 15) (x := 187) rfl) (dq_lk dX2_init_w2 (r := 16) (x := 0) rfl) (dq_lk dX2_init_w2 (r := 17) (x := 17) rfl)
theorem dX2_init_146 : decode cX2_init 146 = .ok (.dup, 1) := dk_89 (dq_lk dX2_init_w2 (r := 18) (x := 89) rfl)
theorem dX2_init_147 : decode cX2_init 147 = .ok (.invokespecial 19, 3) := dk_183 (dq_lk dX2_init_w2 (r := 19) (x := 183) rfl) (dq_lk dX2_init_w2 (r := 20) (x := 0) rfl) (dq_lk dX2_init_w2 (r := 21) (x := 19) rfl)
theorem dX2_init_150 : decode cX2_init 150 = .ok (.putfield 27, 3) := dk_181 (dq_lk dX2_init_w2 (r := 22) (x := 181) rfl) (dq_lk dX2_init_w2 (r := 23) (x := 0) rfl) (dq_lk dX2_init_w2 (r := 24) (x := 27) rfl)
theorem dX2_init_153 : decode cX2_init 153 = .ok (.aload_n 0, 1) := dk_42 (dq_lk dX2_init_w2 (r := 25) (x := 42) rfl)
theorem dX2_init_154 : decode cX2_init 154 = .ok (.new 17, 3) := dk_187 (dq_lk dX2_init_w2 (r := 26) (x := 187) rfl) (dq_lk dX2_init_w2 (r := 27) (x := 0) rfl) (dq_lk dX2_init_w2 (r := 28) (x := 17) rfl)
theorem dX2_init_157 : decode cX2_init 157 = .ok (.dup, 1) := dk_89 (dq_lk dX2_init_w2 (r := 29) (x := 89) rfl)
theorem dX2_init_158 : decode cX2_init 158 = .ok (.invokespecial 19, 3) := dk_183 (dq_lk dX2_init_w2 (r := 30) (x := 183) rfl) (dq_lk dX2_init_w2 (r := 31) (x := 0) rfl) (dq_lk dX2_init_w2 (r := 32) (x := 19) rfl)
theorem dX2_init_161 : decode cX2_init 161 = .ok (.putfield 31, 3) := dk_181 (dq_lk dX2_init_w2 (r := 33) (x := 181) rfl) (dq_lk dX2_init_w2 (r := 34) (x := 0) rfl) (dq_lk dX2_init_w2 (r := 35) (x := 31) rfl)
theorem dX2_init_164 : decode cX2_init 164 = .ok (.return_, 1) := dk_177 (dq_lk dX2_init_w2 (r := 36) (x := 177) rfl)
set_option maxHeartbeats 4000000 in
set_option maxRecDepth 20000 in
theorem c_X2_init (cs : ClassId × ClassId × ClassId) (a : Nat) (rest : va_W) : mCt (mTy cs) yX2_init cX2_init 1 none ⟨2, 13, 42, 33⟩ [.ref a] ((a, .inr (3, [.null, .null, .null, .null, .null, .null, .int 0, .int 0])) :: rest) (fun v ws' => v = none ∧ ∃ ad : Nat → Nat, ad 0 = a ∧ ws' = mWd ad cs mK0 rest) mNo := by
  refine mCt.ofI (by decide +kernel) rfl (Nat.le_of_ble_eq_true rfl) (fun X hX hi hE => ?_)
  replace hX : mOK X RX2 cX2_init 1 ⟨2, 13, 42, 33⟩ [] (mTy cs) := hX
  refine r_aload_n hX dX2_init_0 rfl rfl ?_
  refine r_objInit hX kob_X2 (Nat.le_of_ble_eq_true rfl) (Nat.le_of_ble_eq_true rfl) dX2_init_1 ?_
  refine r_aload_n hX dX2_init_4 rfl rfl ?_
  refine r_iconst (v := nI 4) hX dX2_init_5 (by decide) ?_
  refine r_newI (N := 4) hX 0 rfl (by decide) dX2_init_6 (Nat.le_of_ble_eq_true rfl) (Nat.le_of_ble_eq_true rfl) (fun q1 => ?_)
  refine r_dup hX dX2_init_8 rfl ?_
  refine r_iconst (v := 0) hX dX2_init_9 (by decide) ?_
  refine r_iconst (v := 0) hX dX2_init_10 (by decide) ?_
  refine r_iast hX 0 0 rfl rfl (vp_in_nI (n := 0) (N := 4) (by decide) (by decide)) dX2_init_11 ?_
  refine r_eqw (ws' := (q1, .inl (cs.1, 4, .inl (upd (fun _ => 0) (0 : Int32).toNatClampNeg (0)))) :: (a, .inr (3, [.null, .null, .null, .null, .null, .null, .int 0, .int 0])) :: rest) rfl ?_
  refine r_dup hX dX2_init_12 rfl ?_
  refine r_iconst (v := 1) hX dX2_init_13 (by decide) ?_
  refine r_sipush (v := 3600) hX dX2_init_14 (by decide) ?_
  refine r_iast hX 0 0 rfl rfl (vp_in_nI (n := 1) (N := 4) (by decide) (by decide)) dX2_init_17 ?_
  refine r_eqw (ws' := (q1, .inl (cs.1, 4, .inl (upd (upd (fun _ => 0) (0 : Int32).toNatClampNeg (0)) (1 : Int32).toNatClampNeg (3600)))) :: (a, .inr (3, [.null, .null, .null, .null, .null, .null, .int 0, .int 0])) :: rest) rfl ?_
  refine r_dup hX dX2_init_18 rfl ?_
  refine r_iconst (v := 2) hX dX2_init_19 (by decide) ?_
  refine r_sipush (v := -18000) hX dX2_init_20 (by decide) ?_
  refine r_iast hX 0 0 rfl rfl (vp_in_nI (n := 2) (N := 4) (by decide) (by decide)) dX2_init_23 ?_
  refine r_eqw (ws' := (q1, .inl (cs.1, 4, .inl (upd (upd (upd (fun _ => 0) (0 : Int32).toNatClampNeg (0)) (1 : Int32).toNatClampNeg (3600)) (2 : Int32).toNatClampNeg (-18000)))) :: (a, .inr (3, [.null, .null, .null, .null, .null, .null, .int 0, .int 0])) :: rest) rfl ?_
  refine r_dup hX dX2_init_24 rfl ?_
  refine r_iconst (v := 3) hX dX2_init_25 (by decide) ?_
  refine r_sipush (v := 20700) hX dX2_init_26 (by decide) ?_
  refine r_iast hX 0 0 rfl rfl (vp_in_nI (n := 3) (N := 4) (by decide) (by decide)) dX2_init_29 ?_
  refine r_eqw (ws' := (q1, .inl (cs.1, 4, .inl (upd (upd (upd (upd (fun _ => 0) (0 : Int32).toNatClampNeg (0)) (1 : Int32).toNatClampNeg (3600)) (2 : Int32).toNatClampNeg (-18000)) (3 : Int32).toNatClampNeg (20700)))) :: (a, .inr (3, [.null, .null, .null, .null, .null, .null, .int 0, .int 0])) :: rest) rfl ?_
  refine r_putF (y := yX2_init) hX hi kf_X2_9 1 rfl rfl rfl rfl rfl (Nat.le_of_ble_eq_true rfl) dX2_init_30 ?_
  refine r_eqw (ws' := (q1, .inl (cs.1, 4, .inl (upd (upd (upd (upd (fun _ => 0) (0 : Int32).toNatClampNeg (0)) (1 : Int32).toNatClampNeg (3600)) (2 : Int32).toNatClampNeg (-18000)) (3 : Int32).toNatClampNeg (20700)))) :: (a, .inr (3, [.ref q1, .null, .null, .null, .null, .null, .int 0, .int 0])) :: rest) rfl ?_
  refine r_aload_n hX dX2_init_33 rfl rfl ?_
  refine r_iconst (v := nI 4) hX dX2_init_34 (by decide) ?_
  refine r_newL (N := 4) hX 1 rfl (by decide) dX2_init_35 (Nat.le_of_ble_eq_true rfl) (Nat.le_of_ble_eq_true rfl) (fun q2 => ?_)
  refine r_dup hX dX2_init_37 rfl ?_
  refine r_iconst (v := 0) hX dX2_init_38 (by decide) ?_
  refine r_lconst (v := 0) hX dX2_init_39 (by decide) ?_
  refine r_last hX 0 1 rfl rfl (vp_in_nI (n := 0) (N := 4) (by decide) (by decide)) dX2_init_40 ?_
  refine r_eqw (ws' := (q2, .inl (cs.2.1, 4, .inr (.inl (vp_updL (fun _ => 0) (0 : Int32).toNatClampNeg (0))))) :: (q1, .inl (cs.1, 4, .inl (upd (upd (upd (upd (fun _ => 0) (0 : Int32).toNatClampNeg (0)) (1 : Int32).toNatClampNeg (3600)) (2 : Int32).toNatClampNeg (-18000)) (3 : Int32).toNatClampNeg (20700)))) :: (a, .inr (3, [.ref q1, .null, .null, .null, .null, .null, .int 0, .int 0])) :: rest) rfl ?_
  refine r_dup hX dX2_init_41 rfl ?_
  refine r_iconst (v := 1) hX dX2_init_42 (by decide) ?_
  refine r_lconst (v := 0) hX dX2_init_43 (by decide) ?_
  refine r_last hX 0 1 rfl rfl (vp_in_nI (n := 1) (N := 4) (by decide) (by decide)) dX2_init_44 ?_
  refine r_eqw (ws' := (q2, .inl (cs.2.1, 4, .inr (.inl (vp_updL (vp_updL (fun _ => 0) (0 : Int32).toNatClampNeg (0)) (1 : Int32).toNatClampNeg (0))))) :: (q1, .inl (cs.1, 4, .inl (upd (upd (upd (upd (fun _ => 0) (0 : Int32).toNatClampNeg (0)) (1 : Int32).toNatClampNeg (3600)) (2 : Int32).toNatClampNeg (-18000)) (3 : Int32).toNatClampNeg (20700)))) :: (a, .inr (3, [.ref q1, .null, .null, .null, .null, .null, .int 0, .int 0])) :: rest) rfl ?_
  refine r_dup hX dX2_init_45 rfl ?_
  refine r_iconst (v := 2) hX dX2_init_46 (by decide) ?_
  refine r_lconst (v := 0) hX dX2_init_47 (by decide) ?_
  refine r_last hX 0 1 rfl rfl (vp_in_nI (n := 2) (N := 4) (by decide) (by decide)) dX2_init_48 ?_
  refine r_eqw (ws' := (q2, .inl (cs.2.1, 4, .inr (.inl (vp_updL (vp_updL (vp_updL (fun _ => 0) (0 : Int32).toNatClampNeg (0)) (1 : Int32).toNatClampNeg (0)) (2 : Int32).toNatClampNeg (0))))) :: (q1, .inl (cs.1, 4, .inl (upd (upd (upd (upd (fun _ => 0) (0 : Int32).toNatClampNeg (0)) (1 : Int32).toNatClampNeg (3600)) (2 : Int32).toNatClampNeg (-18000)) (3 : Int32).toNatClampNeg (20700)))) :: (a, .inr (3, [.ref q1, .null, .null, .null, .null, .null, .int 0, .int 0])) :: rest) rfl ?_
  refine r_dup hX dX2_init_49 rfl ?_
  refine r_iconst (v := 3) hX dX2_init_50 (by decide) ?_
  refine r_lconst (v := 0) hX dX2_init_51 (by decide) ?_
  refine r_last hX 0 1 rfl rfl (vp_in_nI (n := 3) (N := 4) (by decide) (by decide)) dX2_init_52 ?_
  refine r_eqw (ws' := (q2, .inl (cs.2.1, 4, .inr (.inl (vp_updL (vp_updL (vp_updL (vp_updL (fun _ => 0) (0 : Int32).toNatClampNeg (0)) (1 : Int32).toNatClampNeg (0)) (2 : Int32).toNatClampNeg (0)) (3 : Int32).toNatClampNeg (0))))) :: (q1, .inl (cs.1, 4, .inl (upd (upd (upd (upd (fun _ => 0) (0 : Int32).toNatClampNeg (0)) (1 : Int32).toNatClampNeg (3600)) (2 : Int32).toNatClampNeg (-18000)) (3 : Int32).toNatClampNeg (20700)))) :: (a, .inr (3, [.ref q1, .null, .null, .null, .null, .null, .int 0, .int 0])) :: rest) rfl ?_
  refine r_putF (y := yX2_init) hX hi kf_X2_13 2 rfl rfl rfl rfl rfl (Nat.le_of_ble_eq_true rfl) dX2_init_53 ?_
  refine r_eqw (ws' := (q2, .inl (cs.2.1, 4, .inr (.inl (vp_updL (vp_updL (vp_updL (vp_updL (fun _ => 0) (0 : Int32).toNatClampNeg (0)) (1 : Int32).toNatClampNeg (0)) (2 : Int32).toNatClampNeg (0)) (3 : Int32).toNatClampNeg (0))))) :: (q1, .inl (cs.1, 4, .inl (upd (upd (upd (upd (fun _ => 0) (0 : Int32).toNatClampNeg (0)) (1 : Int32).toNatClampNeg (3600)) (2 : Int32).toNatClampNeg (-18000)) (3 : Int32).toNatClampNeg (20700)))) :: (a, .inr (3, [.ref q1, .ref q2, .null, .null, .null, .null, .int 0, .int 0])) :: rest) rfl ?_
  refine r_aload_n hX dX2_init_56 rfl rfl ?_
  refine r_iconst (v := nI 4) hX dX2_init_57 (by decide) ?_
  refine r_newQ (N := 4) hX 2 rfl kl_X2_17 kao (by decide) dX2_init_58 (Nat.le_of_ble_eq_true rfl) (Nat.le_of_ble_eq_true rfl) (fun q3 => ?_)
  refine r_dup hX dX2_init_61 rfl ?_
  refine r_iconst (v := 0) hX dX2_init_62 (by decide) ?_
  refine r_new hX kinX1 tyX1_ok kl_X2_17 ki_X1 kt_X1 (show vwCl[2]? = _ from rfl) (fs := [.long 0, .int 0, .int 0]) mX1z (Nat.le_of_ble_eq_true rfl) (Nat.le_of_ble_eq_true rfl) dX2_init_63 (fun q4 => ?_)
  refine r_dup hX dX2_init_66 rfl ?_
  refine r_callIN hX (c_X1_init _ _ _) kI_X1 rfl rfl (Nat.le_of_ble_eq_true rfl) ⟨(Nat.le_of_ble_eq_true rfl), (Nat.le_of_ble_eq_true rfl)⟩ ⟨(Nat.le_of_ble_eq_true rfl), (Nat.le_of_ble_eq_true rfl)⟩ dX2_init_67 (fun v9 ws9 h9 => ?_)
  obtain ⟨rfl, hw9⟩ := h9
  subst ws9
  dsimp only [mPush]
  refine r_astq (r := (RX1, TX1, 3)) hX 1 2 rfl rfl (qk := 0) rfl rfl (vp_in_nI (n := 0) (N := 4) (by decide) (by decide)) dX2_init_70 ?_
  refine r_eqw (ws' := (q4, .inr (2, [.long 0, .int 0, .int 0])) :: (q3, .inl (cs.2.2, 4, .inr (.inr (.inr (.inr (va_up (fun _ => none) (0 : Int32).toNatClampNeg (some q4))))))) :: (q2, .inl (cs.2.1, 4, .inr (.inl (vp_updL (vp_updL (vp_updL (vp_updL (fun _ => 0) (0 : Int32).toNatClampNeg (0)) (1 : Int32).toNatClampNeg (0)) (2 : Int32).toNatClampNeg (0)) (3 : Int32).toNatClampNeg (0))))) :: (q1, .inl (cs.1, 4, .inl (upd (upd (upd (upd (fun _ => 0) (0 : Int32).toNatClampNeg (0)) (1 : Int32).toNatClampNeg (3600)) (2 : Int32).toNatClampNeg (-18000)) (3 : Int32).toNatClampNeg (20700)))) :: (a, .inr (3, [.ref q1, .ref q2, .null, .null, .null, .null, .int 0, .int 0])) :: rest) rfl ?_
  refine r_dup hX dX2_init_71 rfl ?_
  refine r_iconst (v := 1) hX dX2_init_72 (by decide) ?_
  refine r_new hX kinX1 tyX1_ok kl_X2_17 ki_X1 kt_X1 (show vwCl[2]? = _ from rfl) (fs := [.long 0, .int 0, .int 0]) mX1z (Nat.le_of_ble_eq_true rfl) (Nat.le_of_ble_eq_true rfl) dX2_init_73 (fun q5 => ?_)
  refine r_dup hX dX2_init_76 rfl ?_
  refine r_callIN hX (c_X1_init _ _ _) kI_X1 rfl rfl (Nat.le_of_ble_eq_true rfl) ⟨(Nat.le_of_ble_eq_true rfl), (Nat.le_of_ble_eq_true rfl)⟩ ⟨(Nat.le_of_ble_eq_true rfl), (Nat.le_of_ble_eq_true rfl)⟩ dX2_init_77 (fun v9 ws9 h9 => ?_)
  obtain ⟨rfl, hw9⟩ := h9
  subst ws9
  dsimp only [mPush]
  refine r_astq (r := (RX1, TX1, 3)) hX 2 2 rfl rfl (qk := 0) rfl rfl (vp_in_nI (n := 1) (N := 4) (by decide) (by decide)) dX2_init_80 ?_
  refine r_eqw (ws' := (q5, .inr (2, [.long 0, .int 0, .int 0])) :: (q4, .inr (2, [.long 0, .int 0, .int 0])) :: (q3, .inl (cs.2.2, 4, .inr (.inr (.inr (.inr (va_up (va_up (fun _ => none) (0 : Int32).toNatClampNeg (some q4)) (1 : Int32).toNatClampNeg (some q5))))))) :: (q2, .inl (cs.2.1, 4, .inr (.inl (vp_updL (vp_updL (vp_updL (vp_updL (fun _ => 0) (0 : Int32).toNatClampNeg (0)) (1 : Int32).toNatClampNeg (0)) (2 : Int32).toNatClampNeg (0)) (3 : Int32).toNatClampNeg (0))))) :: (q1, .inl (cs.1, 4, .inl (upd (upd (upd (upd (fun _ => 0) (0 : Int32).toNatClampNeg (0)) (1 : Int32).toNatClampNeg (3600)) (2 : Int32).toNatClampNeg (-18000)) (3 : Int32).toNatClampNeg (20700)))) :: (a, .inr (3, [.ref q1, .ref q2, .null, .null, .null, .null, .int 0, .int 0])) :: rest) rfl ?_
  refine r_dup hX dX2_init_81 rfl ?_
  refine r_iconst (v := 2) hX dX2_init_82 (by decide) ?_
  refine r_new hX kinX1 tyX1_ok kl_X2_17 ki_X1 kt_X1 (show vwCl[2]? = _ from rfl) (fs := [.long 0, .int 0, .int 0]) mX1z (Nat.le_of_ble_eq_true rfl) (Nat.le_of_ble_eq_true rfl) dX2_init_83 (fun q6 => ?_)
  refine r_dup hX dX2_init_86 rfl ?_
  refine r_callIN hX (c_X1_init _ _ _) kI_X1 rfl rfl (Nat.le_of_ble_eq_true rfl) ⟨(Nat.le_of_ble_eq_true rfl), (Nat.le_of_ble_eq_true rfl)⟩ ⟨(Nat.le_of_ble_eq_true rfl), (Nat.le_of_ble_eq_true rfl)⟩ dX2_init_87 (fun v9 ws9 h9 => ?_)
  obtain ⟨rfl, hw9⟩ := h9
  subst ws9
  dsimp only [mPush]
  refine r_astq (r := (RX1, TX1, 3)) hX 3 2 rfl rfl (qk := 0) rfl rfl (vp_in_nI (n := 2) (N := 4) (by decide) (by decide)) dX2_init_90 ?_
  refine r_eqw (ws' := (q6, .inr (2, [.long 0, .int 0, .int 0])) :: (q5, .inr (2, [.long 0, .int 0, .int 0])) :: (q4, .inr (2, [.long 0, .int 0, .int 0])) :: (q3, .inl (cs.2.2, 4, .inr (.inr (.inr (.inr (va_up (va_up (va_up (fun _ => none) (0 : Int32).toNatClampNeg (some q4)) (1 : Int32).toNatClampNeg (some q5)) (2 : Int32).toNatClampNeg (some q6))))))) :: (q2, .inl (cs.2.1, 4, .inr (.inl (vp_updL (vp_updL (vp_updL (vp_updL (fun _ => 0) (0 : Int32).toNatClampNeg (0)) (1 : Int32).toNatClampNeg (0)) (2 : Int32).toNatClampNeg (0)) (3 : Int32).toNatClampNeg (0))))) :: (q1, .inl (cs.1, 4, .inl (upd (upd (upd (upd (fun _ => 0) (0 : Int32).toNatClampNeg (0)) (1 : Int32).toNatClampNeg (3600)) (2 : Int32).toNatClampNeg (-18000)) (3 : Int32).toNatClampNeg (20700)))) :: (a, .inr (3, [.ref q1, .ref q2, .null, .null, .null, .null, .int 0, .int 0])) :: rest) rfl ?_
  refine r_dup hX dX2_init_91 rfl ?_
  refine r_iconst (v := 3) hX dX2_init_92 (by decide) ?_
  refine r_new hX kinX1 tyX1_ok kl_X2_17 ki_X1 kt_X1 (show vwCl[2]? = _ from rfl) (fs := [.long 0, .int 0, .int 0]) mX1z (Nat.le_of_ble_eq_true rfl) (Nat.le_of_ble_eq_true rfl) dX2_init_93 (fun q7 => ?_)
  refine r_dup hX dX2_init_96 rfl ?_
  refine r_callIN hX (c_X1_init _ _ _) kI_X1 rfl rfl (Nat.le_of_ble_eq_true rfl) ⟨(Nat.le_of_ble_eq_true rfl), (Nat.le_of_ble_eq_true rfl)⟩ ⟨(Nat.le_of_ble_eq_true rfl), (Nat.le_of_ble_eq_true rfl)⟩ dX2_init_97 (fun v9 ws9 h9 => ?_)
  obtain ⟨rfl, hw9⟩ := h9
  subst ws9
  dsimp only [mPush]
  refine r_astq (r := (RX1, TX1, 3)) hX 4 2 rfl rfl (qk := 0) rfl rfl (vp_in_nI (n := 3) (N := 4) (by decide) (by decide)) dX2_init_100 ?_
  refine r_eqw (ws' := (q7, .inr (2, [.long 0, .int 0, .int 0])) :: (q6, .inr (2, [.long 0, .int 0, .int 0])) :: (q5, .inr (2, [.long 0, .int 0, .int 0])) :: (q4, .inr (2, [.long 0, .int 0, .int 0])) :: (q3, .inl (cs.2.2, 4, .inr (.inr (.inr (.inr (va_up (va_up (va_up (va_up (fun _ => none) (0 : Int32).toNatClampNeg (some q4)) (1 : Int32).toNatClampNeg (some q5)) (2 : Int32).toNatClampNeg (some q6)) (3 : Int32).toNatClampNeg (some q7))))))) :: (q2, .inl (cs.2.1, 4, .inr (.inl (vp_updL (vp_updL (vp_updL (vp_updL (fun _ => 0) (0 : Int32).toNatClampNeg (0)) (1 : Int32).toNatClampNeg (0)) (2 : Int32).toNatClampNeg (0)) (3 : Int32).toNatClampNeg (0))))) :: (q1, .inl (cs.1, 4, .inl (upd (upd (upd (upd (fun _ => 0) (0 : Int32).toNatClampNeg (0)) (1 : Int32).toNatClampNeg (3600)) (2 : Int32).toNatClampNeg (-18000)) (3 : Int32).toNatClampNeg (20700)))) :: (a, .inr (3, [.ref q1, .ref q2, .null, .null, .null, .null, .int 0, .int 0])) :: rest) rfl ?_
  refine r_putF (y := yX2_init) hX hi kf_X2_20 7 rfl rfl rfl rfl rfl (Nat.le_of_ble_eq_true rfl) dX2_init_101 ?_
  refine r_eqw (ws' := (q7, .inr (2, [.long 0, .int 0, .int 0])) :: (q6, .inr (2, [.long 0, .int 0, .int 0])) :: (q5, .inr (2, [.long 0, .int 0, .int 0])) :: (q4, .inr (2, [.long 0, .int 0, .int 0])) :: (q3, .inl (cs.2.2, 4, .inr (.inr (.inr (.inr (va_up (va_up (va_up (va_up (fun _ => none) (0 : Int32).toNatClampNeg (some q4)) (1 : Int32).toNatClampNeg (some q5)) (2 : Int32).toNatClampNeg (some q6)) (3 : Int32).toNatClampNeg (some q7))))))) :: (q2, .inl (cs.2.1, 4, .inr (.inl (vp_updL (vp_updL (vp_updL (vp_updL (fun _ => 0) (0 : Int32).toNatClampNeg (0)) (1 : Int32).toNatClampNeg (0)) (2 : Int32).toNatClampNeg (0)) (3 : Int32).toNatClampNeg (0))))) :: (q1, .inl (cs.1, 4, .inl (upd (upd (upd (upd (fun _ => 0) (0 : Int32).toNatClampNeg (0)) (1 : Int32).toNatClampNeg (3600)) (2 : Int32).toNatClampNeg (-18000)) (3 : Int32).toNatClampNeg (20700)))) :: (a, .inr (3, [.ref q1, .ref q2, .ref q3, .null, .null, .null, .int 0, .int 0])) :: rest) rfl ?_
  refine r_aload_n hX dX2_init_104 rfl rfl ?_
  refine r_iconst (v := nI 3) hX dX2_init_105 (by decide) ?_
  refine r_newQ (N := 3) hX 2 rfl kl_X2_17 kao (by decide) dX2_init_106 (Nat.le_of_ble_eq_true rfl) (Nat.le_of_ble_eq_true rfl) (fun q8 => ?_)
  refine r_dup hX dX2_init_109 rfl ?_
  refine r_iconst (v := 0) hX dX2_init_110 (by decide) ?_
  refine r_new hX kinX1 tyX1_ok kl_X2_17 ki_X1 kt_X1 (show vwCl[2]? = _ from rfl) (fs := [.long 0, .int 0, .int 0]) mX1z (Nat.le_of_ble_eq_true rfl) (Nat.le_of_ble_eq_true rfl) dX2_init_111 (fun q9 => ?_)
  refine r_dup hX dX2_init_114 rfl ?_
  refine r_callIN hX (c_X1_init _ _ _) kI_X1 rfl rfl (Nat.le_of_ble_eq_true rfl) ⟨(Nat.le_of_ble_eq_true rfl), (Nat.le_of_ble_eq_true rfl)⟩ ⟨(Nat.le_of_ble_eq_true rfl), (Nat.le_of_ble_eq_true rfl)⟩ dX2_init_115 (fun v9 ws9 h9 => ?_)
  obtain ⟨rfl, hw9⟩ := h9
  subst ws9
  dsimp only [mPush]
  refine r_astq (r := (RX1, TX1, 3)) hX 1 2 rfl rfl (qk := 0) rfl rfl (vp_in_nI (n := 0) (N := 3) (by decide) (by decide)) dX2_init_118 ?_
  refine r_eqw (ws' := (q9, .inr (2, [.long 0, .int 0, .int 0])) :: (q8, .inl (cs.2.2, 3, .inr (.inr (.inr (.inr (va_up (fun _ => none) (0 : Int32).toNatClampNeg (some q9))))))) :: (q7, .inr (2, [.long 0, .int 0, .int 0])) :: (q6, .inr (2, [.long 0, .int 0, .int 0])) :: (q5, .inr (2, [.long 0, .int 0, .int 0])) :: (q4, .inr (2, [.long 0, .int 0, .int 0])) :: (q3, .inl (cs.2.2, 4, .inr (.inr (.inr (.inr (va_up (va_up (va_up (va_up (fun _ => none) (0 : Int32).toNatClampNeg (some q4)) (1 : Int32).toNatClampNeg (some q5)) (2 : Int32).toNatClampNeg (some q6)) (3 : Int32).toNatClampNeg (some q7))))))) :: (q2, .inl (cs.2.1, 4, .inr (.inl (vp_updL (vp_updL (vp_updL (vp_updL (fun _ => 0) (0 : Int32).toNatClampNeg (0)) (1 : Int32).toNatClampNeg (0)) (2 : Int32).toNatClampNeg (0)) (3 : Int32).toNatClampNeg (0))))) :: (q1, .inl (cs.1, 4, .inl (upd (upd (upd (upd (fun _ => 0) (0 : Int32).toNatClampNeg (0)) (1 : Int32).toNatClampNeg (3600)) (2 : Int32).toNatClampNeg (-18000)) (3 : Int32).toNatClampNeg (20700)))) :: (a, .inr (3, [.ref q1, .ref q2, .ref q3, .null, .null, .null, .int 0, .int 0])) :: rest) rfl ?_
  refine r_dup hX dX2_init_119 rfl ?_
  refine r_iconst (v := 1) hX dX2_init_120 (by decide) ?_
  refine r_new hX kinX1 tyX1_ok kl_X2_17 ki_X1 kt_X1 (show vwCl[2]? = _ from rfl) (fs := [.long 0, .int 0, .int 0]) mX1z (Nat.le_of_ble_eq_true rfl) (Nat.le_of_ble_eq_true rfl) dX2_init_121 (fun q10 => ?_)
  refine r_dup hX dX2_init_124 rfl ?_
  refine r_callIN hX (c_X1_init _ _ _) kI_X1 rfl rfl (Nat.le_of_ble_eq_true rfl) ⟨(Nat.le_of_ble_eq_true rfl), (Nat.le_of_ble_eq_true rfl)⟩ ⟨(Nat.le_of_ble_eq_true rfl), (Nat.le_of_ble_eq_true rfl)⟩ dX2_init_125 (fun v9 ws9 h9 => ?_)
  obtain ⟨rfl, hw9⟩ := h9
  subst ws9
  dsimp only [mPush]
  refine r_astq (r := (RX1, TX1, 3)) hX 2 2 rfl rfl (qk := 0) rfl rfl (vp_in_nI (n := 1) (N := 3) (by decide) (by decide)) dX2_init_128 ?_
  refine r_eqw (ws' := (q10, .inr (2, [.long 0, .int 0, .int 0])) :: (q9, .inr (2, [.long 0, .int 0, .int 0])) :: (q8, .inl (cs.2.2, 3, .inr (.inr (.inr (.inr (va_up (va_up (fun _ => none) (0 : Int32).toNatClampNeg (some q9)) (1 : Int32).toNatClampNeg (some q10))))))) :: (q7, .inr (2, [.long 0, .int 0, .int 0])) :: (q6, .inr (2, [.long 0, .int 0, .int 0])) :: (q5, .inr (2, [.long 0, .int 0, .int 0])) :: (q4, .inr (2, [.long 0, .int 0, .int 0])) :: (q3, .inl (cs.2.2, 4, .inr (.inr (.inr (.inr (va_up (va_up (va_up (va_up (fun _ => none) (0 : Int32).toNatClampNeg (some q4)) (1 : Int32).toNatClampNeg (some q5)) (2 : Int32).toNatClampNeg (some q6)) (3 : Int32).toNatClampNeg (some q7))))))) :: (q2, .inl (cs.2.1, 4, .inr (.inl (vp_updL (vp_updL (vp_updL (vp_updL (fun _ => 0) (0 : Int32).toNatClampNeg (0)) (1 : Int32).toNatClampNeg (0)) (2 : Int32).toNatClampNeg (0)) (3 : Int32).toNatClampNeg (0))))) :: (q1, .inl (cs.1, 4, .inl (upd (upd (upd (upd (fun _ => 0) (0 : Int32).toNatClampNeg (0)) (1 : Int32).toNatClampNeg (3600)) (2 : Int32).toNatClampNeg (-18000)) (3 : Int32).toNatClampNeg (20700)))) :: (a, .inr (3, [.ref q1, .ref q2, .ref q3, .null, .null, .null, .int 0, .int 0])) :: rest) rfl ?_
  refine r_dup hX dX2_init_129 rfl ?_
  refine r_iconst (v := 2) hX dX2_init_130 (by decide) ?_
  refine r_new hX kinX1 tyX1_ok kl_X2_17 ki_X1 kt_X1 (show vwCl[2]? = _ from rfl) (fs := [.long 0, .int 0, .int 0]) mX1z (Nat.le_of_ble_eq_true rfl) (Nat.le_of_ble_eq_true rfl) dX2_init_131 (fun q11 => ?_)
  refine r_dup hX dX2_init_134 rfl ?_
  refine r_callIN hX (c_X1_init _ _ _) kI_X1 rfl rfl (Nat.le_of_ble_eq_true rfl) ⟨(Nat.le_of_ble_eq_true rfl), (Nat.le_of_ble_eq_true rfl)⟩ ⟨(Nat.le_of_ble_eq_true rfl), (Nat.le_of_ble_eq_true rfl)⟩ dX2_init_135 (fun v9 ws9 h9 => ?_)
  obtain ⟨rfl, hw9⟩ := h9
  subst ws9
  dsimp only [mPush]
  refine r_astq (r := (RX1, TX1, 3)) hX 3 2 rfl rfl (qk := 0) rfl rfl (vp_in_nI (n := 2) (N := 3) (by decide) (by decide)) dX2_init_138 ?_
  refine r_eqw (ws' := (q11, .inr (2, [.long 0, .int 0, .int 0])) :: (q10, .inr (2, [.long 0, .int 0, .int 0])) :: (q9, .inr (2, [.long 0, .int 0, .int 0])) :: (q8, .inl (cs.2.2, 3, .inr (.inr (.inr (.inr (va_up (va_up (va_up (fun _ => none) (0 : Int32).toNatClampNeg (some q9)) (1 : Int32).toNatClampNeg (some q10)) (2 : Int32).toNatClampNeg (some q11))))))) :: (q7, .inr (2, [.long 0, .int 0, .int 0])) :: (q6, .inr (2, [.long 0, .int 0, .int 0])) :: (q5, .inr (2, [.long 0, .int 0, .int 0])) :: (q4, .inr (2, [.long 0, .int 0, .int 0])) :: (q3, .inl (cs.2.2, 4, .inr (.inr (.inr (.inr (va_up (va_up (va_up (va_up (fun _ => none) (0 : Int32).toNatClampNeg (some q4)) (1 : Int32).toNatClampNeg (some q5)) (2 : Int32).toNatClampNeg (some q6)) (3 : Int32).toNatClampNeg (some q7))))))) :: (q2, .inl (cs.2.1, 4, .inr (.inl (vp_updL (vp_updL (vp_updL (vp_updL (fun _ => 0) (0 : Int32).toNatClampNeg (0)) (1 : Int32).toNatClampNeg (0)) (2 : Int32).toNatClampNeg (0)) (3 : Int32).toNatClampNeg (0))))) :: (q1, .inl (cs.1, 4, .inl (upd (upd (upd (upd (fun _ => 0) (0 : Int32).toNatClampNeg (0)) (1 : Int32).toNatClampNeg (3600)) (2 : Int32).toNatClampNeg (-18000)) (3 : Int32).toNatClampNeg (20700)))) :: (a, .inr (3, [.ref q1, .ref q2, .ref q3, .null, .null, .null, .int 0, .int 0])) :: rest) rfl ?_
  refine r_putF (y := yX2_init) hX hi kf_X2_24 11 rfl rfl rfl rfl rfl (Nat.le_of_ble_eq_true rfl) dX2_init_139 ?_
  refine r_eqw (ws' := (q11, .inr (2, [.long 0, .int 0, .int 0])) :: (q10, .inr (2, [.long 0, .int 0, .int 0])) :: (q9, .inr (2, [.long 0, .int 0, .int 0])) :: (q8, .inl (cs.2.2, 3, .inr (.inr (.inr (.inr (va_up (va_up (va_up (fun _ => none) (0 : Int32).toNatClampNeg (some q9)) (1 : Int32).toNatClampNeg (some q10)) (2 : Int32).toNatClampNeg (some q11))))))) :: (q7, .inr (2, [.long 0, .int 0, .int 0])) :: (q6, .inr (2, [.long 0, .int 0, .int 0])) :: (q5, .inr (2, [.long 0, .int 0, .int 0])) :: (q4, .inr (2, [.long 0, .int 0, .int 0])) :: (q3, .inl (cs.2.2, 4, .inr (.inr (.inr (.inr (va_up (va_up (va_up (va_up (fun _ => none) (0 : Int32).toNatClampNeg (some q4)) (1 : Int32).toNatClampNeg (some q5)) (2 : Int32).toNatClampNeg (some q6)) (3 : Int32).toNatClampNeg (some q7))))))) :: (q2, .inl (cs.2.1, 4, .inr (.inl (vp_updL (vp_updL (vp_updL (vp_updL (fun _ => 0) (0 : Int32).toNatClampNeg (0)) (1 : Int32).toNatClampNeg (0)) (2 : Int32).toNatClampNeg (0)) (3 : Int32).toNatClampNeg (0))))) :: (q1, .inl (cs.1, 4, .inl (upd (upd (upd (upd (fun _ => 0) (0 : Int32).toNatClampNeg (0)) (1 : Int32).toNatClampNeg (3600)) (2 : Int32).toNatClampNeg (-18000)) (3 : Int32).toNatClampNeg (20700)))) :: (a, .inr (3, [.ref q1, .ref q2, .ref q3, .ref q8, .null, .null, .int 0, .int 0])) :: rest) rfl ?_
  refine r_aload_n hX dX2_init_142 rfl rfl ?_
  refine r_new hX kinX1 tyX1_ok kl_X2_17 ki_X1 kt_X1 (show vwCl[2]? = _ from rfl) (fs := [.long 0, .int 0, .int 0]) mX1z (Nat.le_of_ble_eq_true rfl) (Nat.le_of_ble_eq_true rfl) dX2_init_143 (fun q12 => ?_)
  refine r_dup hX dX2_init_146 rfl ?_
  refine r_callIN hX (c_X1_init _ _ _) kI_X1 rfl rfl (Nat.le_of_ble_eq_true rfl) ⟨(Nat.le_of_ble_eq_true rfl), (Nat.le_of_ble_eq_true rfl)⟩ ⟨(Nat.le_of_ble_eq_true rfl), (Nat.le_of_ble_eq_true rfl)⟩ dX2_init_147 (fun v9 ws9 h9 => ?_)
  obtain ⟨rfl, hw9⟩ := h9
  subst ws9
  dsimp only [mPush]
  refine r_putF (y := yX2_init) hX hi kf_X2_27 12 rfl rfl rfl rfl rfl (Nat.le_of_ble_eq_true rfl) dX2_init_150 ?_
  refine r_eqw (ws' := (q12, .inr (2, [.long 0, .int 0, .int 0])) :: (q11, .inr (2, [.long 0, .int 0, .int 0])) :: (q10, .inr (2, [.long 0, .int 0, .int 0])) :: (q9, .inr (2, [.long 0, .int 0, .int 0])) :: (q8, .inl (cs.2.2, 3, .inr (.inr (.inr (.inr (va_up (va_up (va_up (fun _ => none) (0 : Int32).toNatClampNeg (some q9)) (1 : Int32).toNatClampNeg (some q10)) (2 : Int32).toNatClampNeg (some q11))))))) :: (q7, .inr (2, [.long 0, .int 0, .int 0])) :: (q6, .inr (2, [.long 0, .int 0, .int 0])) :: (q5, .inr (2, [.long 0, .int 0, .int 0])) :: (q4, .inr (2, [.long 0, .int 0, .int 0])) :: (q3, .inl (cs.2.2, 4, .inr (.inr (.inr (.inr (va_up (va_up (va_up (va_up (fun _ => none) (0 : Int32).toNatClampNeg (some q4)) (1 : Int32).toNatClampNeg (some q5)) (2 : Int32).toNatClampNeg (some q6)) (3 : Int32).toNatClampNeg (some q7))))))) :: (q2, .inl (cs.2.1, 4, .inr (.inl (vp_updL (vp_updL (vp_updL (vp_updL (fun _ => 0) (0 : Int32).toNatClampNeg (0)) (1 : Int32).toNatClampNeg (0)) (2 : Int32).toNatClampNeg (0)) (3 : Int32).toNatClampNeg (0))))) :: (q1, .inl (cs.1, 4, .inl (upd (upd (upd (upd (fun _ => 0) (0 : Int32).toNatClampNeg (0)) (1 : Int32).toNatClampNeg (3600)) (2 : Int32).toNatClampNeg (-18000)) (3 : Int32).toNatClampNeg (20700)))) :: (a, .inr (3, [.ref q1, .ref q2, .ref q3, .ref q8, .ref q12, .null, .int 0, .int 0])) :: rest) rfl ?_
  refine r_aload_n hX dX2_init_153 rfl rfl ?_
  refine r_new hX kinX1 tyX1_ok kl_X2_17 ki_X1 kt_X1 (show vwCl[2]? = _ from rfl) (fs := [.long 0, .int 0, .int 0]) mX1z (Nat.le_of_ble_eq_true rfl) (Nat.le_of_ble_eq_true rfl) dX2_init_154 (fun q13 => ?_)
  refine r_dup hX dX2_init_157 rfl ?_
  refine r_callIN hX (c_X1_init _ _ _) kI_X1 rfl rfl (Nat.le_of_ble_eq_true rfl) ⟨(Nat.le_of_ble_eq_true rfl), (Nat.le_of_ble_eq_true rfl)⟩ ⟨(Nat.le_of_ble_eq_true rfl), (Nat.le_of_ble_eq_true rfl)⟩ dX2_init_158 (fun v9 ws9 h9 => ?_)
  obtain ⟨rfl, hw9⟩ := h9
  subst ws9
  dsimp only [mPush]
  refine r_putF (y := yX2_init) hX hi kf_X2_31 13 rfl rfl rfl rfl rfl (Nat.le_of_ble_eq_true rfl) dX2_init_161 ?_
  refine r_eqw (ws' := (q13, .inr (2, [.long 0, .int 0, .int 0])) :: (q12, .inr (2, [.long 0, .int 0, .int 0])) :: (q11, .inr (2, [.long 0, .int 0, .int 0])) :: (q10, .inr (2, [.long 0, .int 0, .int 0])) :: (q9, .inr (2, [.long 0, .int 0, .int 0])) :: (q8, .inl (cs.2.2, 3, .inr (.inr (.inr (.inr (va_up (va_up (va_up (fun _ => none) (0 : Int32).toNatClampNeg (some q9)) (1 : Int32).toNatClampNeg (some q10)) (2 : Int32).toNatClampNeg (some q11))))))) :: (q7, .inr (2, [.long 0, .int 0, .int 0])) :: (q6, .inr (2, [.long 0, .int 0, .int 0])) :: (q5, .inr (2, [.long 0, .int 0, .int 0])) :: (q4, .inr (2, [.long 0, .int 0, .int 0])) :: (q3, .inl (cs.2.2, 4, .inr (.inr (.inr (.inr (va_up (va_up (va_up (va_up (fun _ => none) (0 : Int32).toNatClampNeg (some q4)) (1 : Int32).toNatClampNeg (some q5)) (2 : Int32).toNatClampNeg (some q6)) (3 : Int32).toNatClampNeg (some q7))))))) :: (q2, .inl (cs.2.1, 4, .inr (.inl (vp_updL (vp_updL (vp_updL (vp_updL (fun _ => 0) (0 : Int32).toNatClampNeg (0)) (1 : Int32).toNatClampNeg (0)) (2 : Int32).toNatClampNeg (0)) (3 : Int32).toNatClampNeg (0))))) :: (q1, .inl (cs.1, 4, .inl (upd (upd (upd (upd (fun _ => 0) (0 : Int32).toNatClampNeg (0)) (1 : Int32).toNatClampNeg (3600)) (2 : Int32).toNatClampNeg (-18000)) (3 : Int32).toNatClampNeg (20700)))) :: (a, .inr (3, [.ref q1, .ref q2, .ref q3, .ref q8, .ref q12, .ref q13, .int 0, .int 0])) :: rest) rfl ?_
  refine r_arrq (g := fun j => some ((fun i => [a, q1, q2, q3, q8, q4, q5, q6, q7, q9, q10, q11, q12, q13].getD i 0) (j + 0 + 5))) 10 rfl (mfor4 rfl rfl rfl rfl) ?_
  refine r_eqw (ws' := (q13, .inr (2, [.long 0, .int 0, .int 0])) :: (q12, .inr (2, [.long 0, .int 0, .int 0])) :: (q11, .inr (2, [.long 0, .int 0, .int 0])) :: (q10, .inr (2, [.long 0, .int 0, .int 0])) :: (q9, .inr (2, [.long 0, .int 0, .int 0])) :: (q8, .inl (cs.2.2, 3, .inr (.inr (.inr (.inr (va_up (va_up (va_up (fun _ => none) (0 : Int32).toNatClampNeg (some q9)) (1 : Int32).toNatClampNeg (some q10)) (2 : Int32).toNatClampNeg (some q11))))))) :: (q7, .inr (2, [.long 0, .int 0, .int 0])) :: (q6, .inr (2, [.long 0, .int 0, .int 0])) :: (q5, .inr (2, [.long 0, .int 0, .int 0])) :: (q4, .inr (2, [.long 0, .int 0, .int 0])) :: (q3, .inl (cs.2.2, 4, .inr (.inr (.inr (.inr (fun j => some ((fun i => [a, q1, q2, q3, q8, q4, q5, q6, q7, q9, q10, q11, q12, q13].getD i 0) (j + 0 + 5)))))))) :: (q2, .inl (cs.2.1, 4, .inr (.inl (vp_updL (vp_updL (vp_updL (vp_updL (fun _ => 0) (0 : Int32).toNatClampNeg (0)) (1 : Int32).toNatClampNeg (0)) (2 : Int32).toNatClampNeg (0)) (3 : Int32).toNatClampNeg (0))))) :: (q1, .inl (cs.1, 4, .inl (upd (upd (upd (upd (fun _ => 0) (0 : Int32).toNatClampNeg (0)) (1 : Int32).toNatClampNeg (3600)) (2 : Int32).toNatClampNeg (-18000)) (3 : Int32).toNatClampNeg (20700)))) :: (a, .inr (3, [.ref q1, .ref q2, .ref q3, .ref q8, .ref q12, .ref q13, .int 0, .int 0])) :: rest) rfl ?_
  refine r_arrq (g := fun j => some ((fun i => [a, q1, q2, q3, q8, q4, q5, q6, q7, q9, q10, q11, q12, q13].getD i 0) (j + 4 + 5))) 5 rfl (mfor3 rfl rfl rfl) ?_
  refine r_eqw (ws' := (q13, .inr (2, [.long 0, .int 0, .int 0])) :: (q12, .inr (2, [.long 0, .int 0, .int 0])) :: (q11, .inr (2, [.long 0, .int 0, .int 0])) :: (q10, .inr (2, [.long 0, .int 0, .int 0])) :: (q9, .inr (2, [.long 0, .int 0, .int 0])) :: (q8, .inl (cs.2.2, 3, .inr (.inr (.inr (.inr (fun j => some ((fun i => [a, q1, q2, q3, q8, q4, q5, q6, q7, q9, q10, q11, q12, q13].getD i 0) (j + 4 + 5)))))))) :: (q7, .inr (2, [.long 0, .int 0, .int 0])) :: (q6, .inr (2, [.long 0, .int 0, .int 0])) :: (q5, .inr (2, [.long 0, .int 0, .int 0])) :: (q4, .inr (2, [.long 0, .int 0, .int 0])) :: (q3, .inl (cs.2.2, 4, .inr (.inr (.inr (.inr (fun j => some ((fun i => [a, q1, q2, q3, q8, q4, q5, q6, q7, q9, q10, q11, q12, q13].getD i 0) (j + 0 + 5)))))))) :: (q2, .inl (cs.2.1, 4, .inr (.inl (vp_updL (vp_updL (vp_updL (vp_updL (fun _ => 0) (0 : Int32).toNatClampNeg (0)) (1 : Int32).toNatClampNeg (0)) (2 : Int32).toNatClampNeg (0)) (3 : Int32).toNatClampNeg (0))))) :: (q1, .inl (cs.1, 4, .inl (upd (upd (upd (upd (fun _ => 0) (0 : Int32).toNatClampNeg (0)) (1 : Int32).toNatClampNeg (3600)) (2 : Int32).toNatClampNeg (-18000)) (3 : Int32).toNatClampNeg (20700)))) :: (a, .inr (3, [.ref q1, .ref q2, .ref q3, .ref q8, .ref q12, .ref q13, .int 0, .int 0])) :: rest) rfl ?_
  refine r_part (B := [(q13, .inr (2, [.long 0, .int 0, .int 0])), (q12, .inr (2, [.long 0, .int 0, .int 0])), (q11, .inr (2, [.long 0, .int 0, .int 0])), (q10, .inr (2, [.long 0, .int 0, .int 0])), (q9, .inr (2, [.long 0, .int 0, .int 0])), (q8, .inl (cs.2.2, 3, .inr (.inr (.inr (.inr (fun j => some ((fun i => [a, q1, q2, q3, q8, q4, q5, q6, q7, q9, q10, q11, q12, q13].getD i 0) (j + 4 + 5)))))))), (q7, .inr (2, [.long 0, .int 0, .int 0])), (q6, .inr (2, [.long 0, .int 0, .int 0])), (q5, .inr (2, [.long 0, .int 0, .int 0])), (q4, .inr (2, [.long 0, .int 0, .int 0])), (q3, .inl (cs.2.2, 4, .inr (.inr (.inr (.inr (fun j => some ((fun i => [a, q1, q2, q3, q8, q4, q5, q6, q7, q9, q10, q11, q12, q13].getD i 0) (j + 0 + 5)))))))), (q2, .inl (cs.2.1, 4, .inr (.inl (vp_updL (vp_updL (vp_updL (vp_updL (fun _ => 0) (0 : Int32).toNatClampNeg (0)) (1 : Int32).toNatClampNeg (0)) (2 : Int32).toNatClampNeg (0)) (3 : Int32).toNatClampNeg (0))))), (q1, .inl (cs.1, 4, .inl (upd (upd (upd (upd (fun _ => 0) (0 : Int32).toNatClampNeg (0)) (1 : Int32).toNatClampNeg (3600)) (2 : Int32).toNatClampNeg (-18000)) (3 : Int32).toNatClampNeg (20700)))), (a, .inr (3, [.ref q1, .ref q2, .ref q3, .ref q8, .ref q12, .ref q13, .int 0, .int 0]))]) (C := mWd (fun i => [a, q1, q2, q3, q8, q4, q5, q6, q7, q9, q10, q11, q12, q13].getD i 0) cs mK0 []) (pl := rest) [13, 12, 11, 10, 5, 9, 8, 7, 6, 4, 3, 2, 1, 0] rfl rfl ?_
  exact r_vret hX hE dX2_init_164 (Nat.le_of_ble_eq_true rfl) (Nat.le_of_ble_eq_true rfl) ⟨rfl, (fun i => [a, q1, q2, q3, q8, q4, q5, q6, q7, q9, q10, q11, q12, q13].getD i 0), rfl, rfl⟩
theorem dX4_init_w0 : (cX4_init.data.toList.drop 0).take 64 = [42, 183, 0, 1, 42, 7, 188, 10, 89, 3, 3, 79, 89, 4, 17, 14, 16, 79, 89, 5, 17, 185, 176, 79, 89, 6, 17, 80, 220, 79, 181, 0, 7, 42, 7, 188, 11, 181, 0, 13, 42, 16, 7, 188, 10, 181, 0, 17, 42, 16, 7, 188, 10, 181, 0, 20, 42, 16, 7, 188, 10, 181, 0, 23] := by decide +kernel
theorem dX4_init_w1 : (cX4_init.data.toList.drop 64).take 64 = [42, 16, 7, 188, 10, 181, 0, 26, 177] := by decide +kernel
theorem dX4_init_0 : decode cX4_init 0 = .ok (.aload_n 0, 1) := dk_42 (dq_lk dX4_init_w0 (r := 0) (x := 42) rfl)
theorem dX4_init_1 : decode cX4_init 1 = .ok (.invokespecial 1, 3) := dk_183 (dq_lk dX4_init_w0 (r := 1) (x := 183) rfl) (dq_lk dX4_init_w0 (r := 2) (x := 0) rfl) (dq_lk dX4_init_w0 (r := 3) (x := 1) rfl)
theorem dX4_init_4 : decode cX4_init 4 = .ok (.aload_n 0, 1) := dk_42 (dq_lk dX4_init_w0 (r := 4) (x := 42) rfl)
theorem dX4_init_5 : decode cX4_init 5 = .ok (.iconst 4, 1) := dk_7 (dq_lk dX4_init_w0 (r := 5) (x := 7) rfl)
theorem dX4_init_6 : decode cX4_init 6 = .ok (.newarray .int, 2) := by decide +kernel
theorem dX4_init_8 : decode cX4_init 8 = .ok (.dup, 1) := dk_89 (dq_lk dX4_init_w0 (r := 8) (x := 89) rfl)
theorem dX4_init_9 : decode cX4_init 9 = .ok (.iconst 0, 1) := dk_3 (dq_lk dX4_init_w0 (r := 9) (x := 3) rfl)
theorem dX4_init_10 : decode cX4_init 10 = .ok (.iconst 0, 1) := dk_3 (dq_lk dX4_init_w0 (r := 10) (x := 3) rfl)
theorem dX4_init_11 : decode cX4_init 11 = .ok (.iastore, 1) := dk_79 (dq_lk dX4_init_w0 (r := 11) (x := 79) rfl)
theorem dX4_init_12 : decode cX4_init 12 = .ok (.dup, 1) := dk_89 (dq_lk dX4_init_w0 (r := 12) (x := 89) rfl)
theorem dX4_init_13 : decode cX4_init 13 = .ok (.iconst 1, 1) := dk_4 (dq_lk dX4_init_w0 (r := 13) (x := 4) rfl)
theorem dX4_init_14 : decode cX4_init 14 = .ok (.sipush 3600, 3) := dk_17 (dq_lk dX4_init_w0 (r := 14) (x := 17) rfl) (dq_lk dX4_init_w0 (r := 15) (x := 14) rfl) (dq_lk dX4_init_w0 (r := 16) (x := 16) rfl) (by decide +kernel)
theorem dX4_init_17 : decode cX4_init 17 = .ok (.iastore, 1) := dk_79 (dq_lk dX4_init_w0 (r := 17) (x := 79) rfl)
theorem dX4_init_18 : decode cX4_init 18 = .ok (.dup, 1) := dk_89 (dq_lk dX4_init_w0 (r := 18) (x := 89) rfl)
theorem dX4_init_19 : decode cX4_init 19 = .ok (.iconst 2, 1) := dk_5 (dq_lk dX4_init_w0 (r := 19) (x := 5) rfl)
theorem dX4_init_20 : decode cX4_init 20 = .ok (.sipush (-18000), 3) := dk_17 (dq_lk dX4_init_w0 (r := 20) (x := 17) rfl) (dq_lk dX4_init_w0 (r := 21) (x := 185) rfl) (dq_lk dX4_init_w0 (r := 22) (x := 176) rfl) (by decide +kernel)
theorem dX4_init_23 : decode cX4_init 23 = .ok (.iastore, 1) := dk_79 (dq_lk dX4_init_w0 (r := 23) (x := 79) rfl)
theorem dX4_init_24 : decode cX4_init 24 = .ok (.dup, 1) := dk_89 (dq_lk dX4_init_w0 (r := 24) (x := 89) rfl)
theorem dX4_init_25 : decode cX4_init 25 = .ok (.iconst 3, 1) := dk_6 (dq_lk dX4_init_w0 (r := 25) (x := 6) rfl)
theorem dX4_init_26 : decode cX4_init 26 = .ok (.sipush 20700, 3) := dk_17 (dq_lk dX4_init_w0 (r := 26) (x := 17) rfl) (dq_lk dX4_init_w0 (r := 27) (x := 80) rfl) (dq_lk dX4_init_w0 (r := 28) (x := 220) rfl) (by decide +kernel)
theorem dX4_init_29 : decode cX4_init 29 = .ok (.iastore, 1) := dk_79 (dq_lk dX4_init_w0 (r := 29) (x := 79) rfl)
theorem dX4_init_30 : decode cX4_init 30 = .ok (.putfield 7, 3) := dk_181 (dq_lk dX4_init_w0 (r := 30) (x := 181) rfl) (dq_lk dX4_init_w0 (r := 31) (x := 0) rfl) (dq_lk dX4_init_w0 (r := 32) (x := 7) rfl)
theorem dX4_init_33 : decode cX4_init 33 = .ok (.aload_n 0, 1) := dk_42 (dq_lk dX4_init_w0 (r := 33) (x := 42) rfl)
theorem dX4_init_34 : decode cX4_init 34 = .ok (.iconst 4, 1) := dk_7 (dq_lk dX4_init_w0 (r := 34) (x := 7) rfl)
theorem dX4_init_35 : decode cX4_init 35 = .ok (.newarray .long, 2) := by decide +kernel
theorem dX4_init_37 : decode cX4_init 37 = .ok (.putfield 13, 3) := dk_181 (dq_lk dX4_init_w0 (r := 37) (x := 181) rfl) (dq_lk dX4_init_w0 (r := 38) (x := 0) rfl) (dq_lk dX4_init_w0 (r := 39) (x := 13) rfl)
theorem dX4_init_40 : decode cX4_init 40 = .ok (.aload_n 0, 1) := dk_42 (dq_lk dX4_init_w0 (r := 40) (x := 42) rfl)
theorem dX4_init_41 : decode cX4_init 41 = .ok (.bipush 7, 2) := dk_16 (dq_lk dX4_init_w0 (r := 41) (x := 16) rfl) (dq_lk dX4_init_w0 (r := 42) (x := 7) rfl) (by decide +kernel)
theorem dX4_init_43 : decode cX4_init 43 = .ok (.newarray .int, 2) := by decide +kernel
theorem dX4_init_45 : decode cX4_init 45 = .ok (.putfield 17, 3) := dk_181 (dq_lk dX4_init_w0 (r := 45) (x := 181) rfl) (dq_lk dX4_init_w0 (r := 46) (x := 0) rfl) (dq_lk dX4_init_w0 (r := 47) (x := 17) rfl)
theorem dX4_init_48 : decode cX4_init 48 = .ok (.aload_n 0, 1) := dk_42 (dq_lk dX4_init_w0 (r := 48) (x := 42) rfl)
theorem dX4_init_49 : decode cX4_init 49 = .ok (.bipush 7, 2) := dk_16 (dq_lk dX4_init_w0 (r := 49) (x := 16) rfl) (dq_lk dX4_init_w0 (r := 50) (x := 7) rfl) (by decide +kernel)
theorem dX4_init_51 : decode cX4_init 51 = .ok (.newarray .int, 2) := by decide +kernel
theorem dX4_init_53 : decode cX4_init 53 = .ok (.putfield 20, 3) := dk_181 (dq_lk dX4_init_w0 (r := 53) (x := 181) rfl) (dq_lk dX4_init_w0 (r := 54) (x := 0) rfl) (dq_lk dX4_init_w0 (r := 55) (x := 20) rfl)
theorem dX4_init_56 : decode cX4_init 56 = .ok (.aload_n 0, 1) := dk_42 (dq_lk dX4_init_w0 (r := 56) (x := 42) rfl)
theorem dX4_init_57 : decode cX4_init 57 = .ok (.bipush 7, 2) := dk_16 (dq_lk dX4_init_w0 (r := 57) (x := 16) rfl) (dq_lk dX4_init_w0 (r := 58) (x := 7) rfl) (by decide +kernel)
theorem dX4_init_59 : decode cX4_init 59 = .ok (.newarray .int, 2) := by decide +kernel
theorem dX4_init_61 : decode cX4_init 61 = .ok (.putfield 23, 3) := dk_181 (dq_lk dX4_init_w0 (r := 61) (x := 181) rfl) (dq_lk dX4_init_w0 (r := 62) (x := 0) rfl) (dq_lk dX4_init_w0 (r := 63) (x := 23) rfl)
theorem dX4_init_64 : decode cX4_init 64 = .ok (.aload_n 0, 1) := dk_42 (dq_lk dX4_init_w1 (r := 0) (x := 42) rfl)
theorem dX4_init_65 : decode cX4_init 65 = .ok (.bipush 7, 2) := dk_16 (dq_lk dX4_init_w1 (r := 1) (x := 16) rfl) (dq_lk dX4_init_w1 (r := 2) (x := 7) rfl) (by decide +kernel)
theorem dX4_init_67 : decode cX4_init 67 = .ok (.newarray .int, 2) := by decide +kernel
theorem dX4_init_69 : decode cX4_init 69 = .ok (.putfield 26, 3) := dk_181 (dq_lk dX4_init_w1 (r := 5) (x := 181) rfl) (dq_lk dX4_init_w1 (r := 6) (x := 0) rfl) (dq_lk dX4_init_w1 (r := 7) (x := 26) rfl)
theorem dX4_init_72 : decode cX4_init 72 = .ok (.return_, 1) := dk_177 (dq_lk dX4_init_w1 (r := 8) (x := 177) rfl)
set_option maxHeartbeats 4000000 in
set_option maxRecDepth 20000 in
theorem c_X4_init (cs : ClassId × ClassId × ClassId) (a : Nat) (rest : va_W) : mCt (mTy cs) yX4_init cX4_init 1 none ⟨2, 6, 36, 33⟩ [.ref a] ((a, .inr (5, [.int 0, .int 0, .int 0, .null, .null, .null, .null, .null, .null])) :: rest) (fun v ws' => v = none ∧ ∃ ae : Nat → Nat, ae 0 = a ∧ ws' = mMd ae cs mJ0 rest) mNo := by
  refine mCt.ofI (by decide +kernel) rfl (Nat.le_of_ble_eq_true rfl) (fun X hX hi hE => ?_)
  replace hX : mOK X RX4 cX4_init 1 ⟨2, 6, 36, 33⟩ [] (mTy cs) := hX
  refine r_aload_n hX dX4_init_0 rfl rfl ?_
  refine r_objInit hX kob_X4 (Nat.le_of_ble_eq_true rfl) (Nat.le_of_ble_eq_true rfl) dX4_init_1 ?_
  refine r_aload_n hX dX4_init_4 rfl rfl ?_
  refine r_iconst (v := nI 4) hX dX4_init_5 (by decide) ?_
  refine r_newI (N := 4) hX 0 rfl (by decide) dX4_init_6 (Nat.le_of_ble_eq_true rfl) (Nat.le_of_ble_eq_true rfl) (fun q1 => ?_)
  refine r_dup hX dX4_init_8 rfl ?_
  refine r_iconst (v := 0) hX dX4_init_9 (by decide) ?_
  refine r_iconst (v := 0) hX dX4_init_10 (by decide) ?_
  refine r_iast hX 0 0 rfl rfl (vp_in_nI (n := 0) (N := 4) (by decide) (by decide)) dX4_init_11 ?_
  refine r_eqw (ws' := (q1, .inl (cs.1, 4, .inl (upd (fun _ => 0) (0 : Int32).toNatClampNeg (0)))) :: (a, .inr (5, [.int 0, .int 0, .int 0, .null, .null, .null, .null, .null, .null])) :: rest) rfl ?_
  refine r_dup hX dX4_init_12 rfl ?_
  refine r_iconst (v := 1) hX dX4_init_13 (by decide) ?_
  refine r_sipush (v := 3600) hX dX4_init_14 (by decide) ?_
  refine r_iast hX 0 0 rfl rfl (vp_in_nI (n := 1) (N := 4) (by decide) (by decide)) dX4_init_17 ?_
  refine r_eqw (ws' := (q1, .inl (cs.1, 4, .inl (upd (upd (fun _ => 0) (0 : Int32).toNatClampNeg (0)) (1 : Int32).toNatClampNeg (3600)))) :: (a, .inr (5, [.int 0, .int 0, .int 0, .null, .null, .null, .null, .null, .null])) :: rest) rfl ?_
  refine r_dup hX dX4_init_18 rfl ?_
  refine r_iconst (v := 2) hX dX4_init_19 (by decide) ?_
  refine r_sipush (v := -18000) hX dX4_init_20 (by decide) ?_
  refine r_iast hX 0 0 rfl rfl (vp_in_nI (n := 2) (N := 4) (by decide) (by decide)) dX4_init_23 ?_
  refine r_eqw (ws' := (q1, .inl (cs.1, 4, .inl (upd (upd (upd (fun _ => 0) (0 : Int32).toNatClampNeg (0)) (1 : Int32).toNatClampNeg (3600)) (2 : Int32).toNatClampNeg (-18000)))) :: (a, .inr (5, [.int 0, .int 0, .int 0, .null, .null, .null, .null, .null, .null])) :: rest) rfl ?_
  refine r_dup hX dX4_init_24 rfl ?_
  refine r_iconst (v := 3) hX dX4_init_25 (by decide) ?_
  refine r_sipush (v := 20700) hX dX4_init_26 (by decide) ?_
  refine r_iast hX 0 0 rfl rfl (vp_in_nI (n := 3) (N := 4) (by decide) (by decide)) dX4_init_29 ?_
  refine r_eqw (ws' := (q1, .inl (cs.1, 4, .inl (upd (upd (upd (upd (fun _ => 0) (0 : Int32).toNatClampNeg (0)) (1 : Int32).toNatClampNeg (3600)) (2 : Int32).toNatClampNeg (-18000)) (3 : Int32).toNatClampNeg (20700)))) :: (a, .inr (5, [.int 0, .int 0, .int 0, .null, .null, .null, .null, .null, .null])) :: rest) rfl ?_
  refine r_putF (y := yX4_init) hX hi kf_X4_7 1 rfl rfl rfl rfl rfl (Nat.le_of_ble_eq_true rfl) dX4_init_30 ?_
  refine r_eqw (ws' := (q1, .inl (cs.1, 4, .inl (upd (upd (upd (upd (fun _ => 0) (0 : Int32).toNatClampNeg (0)) (1 : Int32).toNatClampNeg (3600)) (2 : Int32).toNatClampNeg (-18000)) (3 : Int32).toNatClampNeg (20700)))) :: (a, .inr (5, [.int 0, .int 0, .int 0, .ref q1, .null, .null, .null, .null, .null])) :: rest) rfl ?_
  refine r_aload_n hX dX4_init_33 rfl rfl ?_
  refine r_iconst (v := nI 4) hX dX4_init_34 (by decide) ?_
  refine r_newL (N := 4) hX 1 rfl (by decide) dX4_init_35 (Nat.le_of_ble_eq_true rfl) (Nat.le_of_ble_eq_true rfl) (fun q2 => ?_)
  refine r_putF (y := yX4_init) hX hi kf_X4_13 2 rfl rfl rfl rfl rfl (Nat.le_of_ble_eq_true rfl) dX4_init_37 ?_
  refine r_eqw (ws' := (q2, .inl (cs.2.1, 4, .inr (.inl (fun _ => 0)))) :: (q1, .inl (cs.1, 4, .inl (upd (upd (upd (upd (fun _ => 0) (0 : Int32).toNatClampNeg (0)) (1 : Int32).toNatClampNeg (3600)) (2 : Int32).toNatClampNeg (-18000)) (3 : Int32).toNatClampNeg (20700)))) :: (a, .inr (5, [.int 0, .int 0, .int 0, .ref q1, .ref q2, .null, .null, .null, .null])) :: rest) rfl ?_
  refine r_aload_n hX dX4_init_40 rfl rfl ?_
  refine r_bipush (v := nI 7) hX dX4_init_41 (by decide) ?_
  refine r_newI (N := 7) hX 0 rfl (by decide) dX4_init_43 (Nat.le_of_ble_eq_true rfl) (Nat.le_of_ble_eq_true rfl) (fun q3 => ?_)
  refine r_putF (y := yX4_init) hX hi kf_X4_17 3 rfl rfl rfl rfl rfl (Nat.le_of_ble_eq_true rfl) dX4_init_45 ?_
  refine r_eqw (ws' := (q3, .inl (cs.1, 7, .inl (fun _ => 0))) :: (q2, .inl (cs.2.1, 4, .inr (.inl (fun _ => 0)))) :: (q1, .inl (cs.1, 4, .inl (upd (upd (upd (upd (fun _ => 0) (0 : Int32).toNatClampNeg (0)) (1 : Int32).toNatClampNeg (3600)) (2 : Int32).toNatClampNeg (-18000)) (3 : Int32).toNatClampNeg (20700)))) :: (a, .inr (5, [.int 0, .int 0, .int 0, .ref q1, .ref q2, .ref q3, .null, .null, .null])) :: rest) rfl ?_
  refine r_aload_n hX dX4_init_48 rfl rfl ?_
  refine r_bipush (v := nI 7) hX dX4_init_49 (by decide) ?_
  refine r_newI (N := 7) hX 0 rfl (by decide) dX4_init_51 (Nat.le_of_ble_eq_true rfl) (Nat.le_of_ble_eq_true rfl) (fun q4 => ?_)
  refine r_putF (y := yX4_init) hX hi kf_X4_20 4 rfl rfl rfl rfl rfl (Nat.le_of_ble_eq_true rfl) dX4_init_53 ?_
  refine r_eqw (ws' := (q4, .inl (cs.1, 7, .inl (fun _ => 0))) :: (q3, .inl (cs.1, 7, .inl (fun _ => 0))) :: (q2, .inl (cs.2.1, 4, .inr (.inl (fun _ => 0)))) :: (q1, .inl (cs.1, 4, .inl (upd (upd (upd (upd (fun _ => 0) (0 : Int32).toNatClampNeg (0)) (1 : Int32).toNatClampNeg (3600)) (2 : Int32).toNatClampNeg (-18000)) (3 : Int32).toNatClampNeg (20700)))) :: (a, .inr (5, [.int 0, .int 0, .int 0, .ref q1, .ref q2, .ref q3, .ref q4, .null, .null])) :: rest) rfl ?_
  refine r_aload_n hX dX4_init_56 rfl rfl ?_
  refine r_bipush (v := nI 7) hX dX4_init_57 (by decide) ?_
  refine r_newI (N := 7) hX 0 rfl (by decide) dX4_init_59 (Nat.le_of_ble_eq_true rfl) (Nat.le_of_ble_eq_true rfl) (fun q5 => ?_)
  refine r_putF (y := yX4_init) hX hi kf_X4_23 5 rfl rfl rfl rfl rfl (Nat.le_of_ble_eq_true rfl) dX4_init_61 ?_
  refine r_eqw (ws' := (q5, .inl (cs.1, 7, .inl (fun _ => 0))) :: (q4, .inl (cs.1, 7, .inl (fun _ => 0))) :: (q3, .inl (cs.1, 7, .inl (fun _ => 0))) :: (q2, .inl (cs.2.1, 4, .inr (.inl (fun _ => 0)))) :: (q1, .inl (cs.1, 4, .inl (upd (upd (upd (upd (fun _ => 0) (0 : Int32).toNatClampNeg (0)) (1 : Int32).toNatClampNeg (3600)) (2 : Int32).toNatClampNeg (-18000)) (3 : Int32).toNatClampNeg (20700)))) :: (a, .inr (5, [.int 0, .int 0, .int 0, .ref q1, .ref q2, .ref q3, .ref q4, .ref q5, .null])) :: rest) rfl ?_
  refine r_aload_n hX dX4_init_64 rfl rfl ?_
  refine r_bipush (v := nI 7) hX dX4_init_65 (by decide) ?_
  refine r_newI (N := 7) hX 0 rfl (by decide) dX4_init_67 (Nat.le_of_ble_eq_true rfl) (Nat.le_of_ble_eq_true rfl) (fun q6 => ?_)
  refine r_putF (y := yX4_init) hX hi kf_X4_26 6 rfl rfl rfl rfl rfl (Nat.le_of_ble_eq_true rfl) dX4_init_69 ?_
  refine r_eqw (ws' := (q6, .inl (cs.1, 7, .inl (fun _ => 0))) :: (q5, .inl (cs.1, 7, .inl (fun _ => 0))) :: (q4, .inl (cs.1, 7, .inl (fun _ => 0))) :: (q3, .inl (cs.1, 7, .inl (fun _ => 0))) :: (q2, .inl (cs.2.1, 4, .inr (.inl (fun _ => 0)))) :: (q1, .inl (cs.1, 4, .inl (upd (upd (upd (upd (fun _ => 0) (0 : Int32).toNatClampNeg (0)) (1 : Int32).toNatClampNeg (3600)) (2 : Int32).toNatClampNeg (-18000)) (3 : Int32).toNatClampNeg (20700)))) :: (a, .inr (5, [.int 0, .int 0, .int 0, .ref q1, .ref q2, .ref q3, .ref q4, .ref q5, .ref q6])) :: rest) rfl ?_
  refine r_part (B := [(q6, .inl (cs.1, 7, .inl (fun _ => 0))), (q5, .inl (cs.1, 7, .inl (fun _ => 0))), (q4, .inl (cs.1, 7, .inl (fun _ => 0))), (q3, .inl (cs.1, 7, .inl (fun _ => 0))), (q2, .inl (cs.2.1, 4, .inr (.inl (fun _ => 0)))), (q1, .inl (cs.1, 4, .inl (upd (upd (upd (upd (fun _ => 0) (0 : Int32).toNatClampNeg (0)) (1 : Int32).toNatClampNeg (3600)) (2 : Int32).toNatClampNeg (-18000)) (3 : Int32).toNatClampNeg (20700)))), (a, .inr (5, [.int 0, .int 0, .int 0, .ref q1, .ref q2, .ref q3, .ref q4, .ref q5, .ref q6]))]) (C := mMd (fun i => [a, q1, q2, q3, q4, q5, q6].getD i 0) cs mJ0 []) (pl := rest) [6, 5, 4, 3, 2, 1, 0] rfl rfl ?_
  exact r_vret hX hE dX4_init_72 (Nat.le_of_ble_eq_true rfl) (Nat.le_of_ble_eq_true rfl) ⟨rfl, (fun i => [a, q1, q2, q3, q4, q5, q6].getD i 0), rfl, rfl⟩

