/-! Decode rows: a lemma for each opcode. (Own work; rows by a program of this repository.) -/
theorem dq_u1 {cc : ByteArray} {p : Nat} {x : UInt8} (h : cc.data.toList[p]? = some x) : (Jvm.ClassFile.Reader.u1 : Jvm.ClassFile.Decoder Nat) cc p = .ok (x.toNat, p + 1) := by
  obtain ⟨hp, hx⟩ := List.getElem?_eq_some_iff.mp h
  have hs : p < cc.size := hp
  have hv : cc[p]'hs = x := hx
  have e : (Jvm.ClassFile.Reader.u1 : Jvm.ClassFile.Decoder Nat) cc p = (dite (p < cc.size) (fun h => (do set (p + 1); pure (cc[p]'h).toNat : Jvm.ClassFile.Decoder Nat)) (fun _ => throw (Jvm.ClassFile.HasTruncated.truncated p))) cc p := rfl
  rw [e, dif_pos hs]
  show Except.ok ((cc[p]'hs).toNat, p + 1) = _
  rw [hv]
theorem dq_b {α β : Type} {r : Jvm.ClassFile.Decoder α} {f : α → Jvm.ClassFile.Decoder β} {cc : ByteArray} {p q : Nat} {x : α} (h : r cc p = .ok (x, q)) : (r >>= f) cc p = f x cc q := by
  show Except.bind (r cc p) _ = _
  rw [h]
  rfl
theorem dq_m {α β : Type} {r : Jvm.ClassFile.Decoder α} {f : α → β} {cc : ByteArray} {p q : Nat} {x : α} (h : r cc p = .ok (x, q)) : (f <$> r : Jvm.ClassFile.Decoder β) cc p = .ok (f x, q) := by
  show Except.bind (r cc p) _ = _
  rw [h]
  rfl
theorem dq_u2 {cc : ByteArray} {p : Nat} {x y : UInt8} (h : cc.data.toList[p]? = some x) (h2 : cc.data.toList[p + 1]? = some y) : (Jvm.ClassFile.Reader.u2 : Jvm.ClassFile.Decoder Nat) cc p = .ok (x.toNat * 256 + y.toNat, p + 2) := by
  unfold Jvm.ClassFile.Reader.u2
  exact (dq_b (dq_u1 h)).trans ((dq_b (dq_u1 h2)).trans rfl)
theorem dq_s1 {cc : ByteArray} {p : Nat} {x : UInt8} (h : cc.data.toList[p]? = some x) : (Jvm.ClassFile.Reader.s1 : Jvm.ClassFile.Decoder Int) cc p = .ok (Jvm.ClassFile.Reader.signed 8 x.toNat, p + 1) := by
  unfold Jvm.ClassFile.Reader.s1
  exact dq_m (dq_u1 h)
theorem dq_s2 {cc : ByteArray} {p : Nat} {x y : UInt8} (h : cc.data.toList[p]? = some x) (h2 : cc.data.toList[p + 1]? = some y) : (Jvm.ClassFile.Reader.s2 : Jvm.ClassFile.Decoder Int) cc p = .ok (Jvm.ClassFile.Reader.signed 16 (x.toNat * 256 + y.toNat), p + 2) := by
  unfold Jvm.ClassFile.Reader.s2
  exact dq_m (dq_u2 h h2)
theorem dq_of {cc : ByteArray} {pc n : Nat} {i : Instr} (h : (Jvm.ClassFile.Decoder.instr pc) cc pc = .ok (i, pc + n)) : decode cc pc = .ok (i, n) := by
  unfold decode Jvm.ClassFile.Reader.runAt
  show Except.bind ((Jvm.ClassFile.Decoder.instr pc) cc pc) _ = _
  rw [h]
  show Except.ok (i, pc + n - pc) = _
  rw [Nat.add_sub_cancel_left]
theorem dq_lk {l c : List UInt8} {n : Nat} (h : (l.drop n).take 64 = c) {r : Nat} {x : UInt8} (hx : c[r]? = some x) : l[n + r]? = some x := by
  rw [← h, List.getElem?_take] at hx
  split at hx
  · rwa [List.getElem?_drop] at hx
  · cases hx
theorem dk_1 {cc : ByteArray} {pc : Nat} (h : cc.data.toList[pc]? = some 1) : decode cc pc = .ok ((.aconst_null), 1) := dq_of (by
  unfold Jvm.ClassFile.Decoder.instr
  exact (dq_b (dq_u1 h)).trans rfl)
theorem dk_2 {cc : ByteArray} {pc : Nat} (h : cc.data.toList[pc]? = some 2) : decode cc pc = .ok ((.iconst (-1)), 1) := dq_of (by
  unfold Jvm.ClassFile.Decoder.instr
  exact (dq_b (dq_u1 h)).trans rfl)
theorem dk_3 {cc : ByteArray} {pc : Nat} (h : cc.data.toList[pc]? = some 3) : decode cc pc = .ok ((.iconst 0), 1) := dq_of (by
  unfold Jvm.ClassFile.Decoder.instr
  exact (dq_b (dq_u1 h)).trans rfl)
theorem dk_4 {cc : ByteArray} {pc : Nat} (h : cc.data.toList[pc]? = some 4) : decode cc pc = .ok ((.iconst 1), 1) := dq_of (by
  unfold Jvm.ClassFile.Decoder.instr
  exact (dq_b (dq_u1 h)).trans rfl)
theorem dk_5 {cc : ByteArray} {pc : Nat} (h : cc.data.toList[pc]? = some 5) : decode cc pc = .ok ((.iconst 2), 1) := dq_of (by
  unfold Jvm.ClassFile.Decoder.instr
  exact (dq_b (dq_u1 h)).trans rfl)
theorem dk_6 {cc : ByteArray} {pc : Nat} (h : cc.data.toList[pc]? = some 6) : decode cc pc = .ok ((.iconst 3), 1) := dq_of (by
  unfold Jvm.ClassFile.Decoder.instr
  exact (dq_b (dq_u1 h)).trans rfl)
theorem dk_7 {cc : ByteArray} {pc : Nat} (h : cc.data.toList[pc]? = some 7) : decode cc pc = .ok ((.iconst 4), 1) := dq_of (by
  unfold Jvm.ClassFile.Decoder.instr
  exact (dq_b (dq_u1 h)).trans rfl)
theorem dk_8 {cc : ByteArray} {pc : Nat} (h : cc.data.toList[pc]? = some 8) : decode cc pc = .ok ((.iconst 5), 1) := dq_of (by
  unfold Jvm.ClassFile.Decoder.instr
  exact (dq_b (dq_u1 h)).trans rfl)
theorem dk_9 {cc : ByteArray} {pc : Nat} (h : cc.data.toList[pc]? = some 9) : decode cc pc = .ok ((.lconst 0), 1) := dq_of (by
  unfold Jvm.ClassFile.Decoder.instr
  exact (dq_b (dq_u1 h)).trans rfl)
theorem dk_10 {cc : ByteArray} {pc : Nat} (h : cc.data.toList[pc]? = some 10) : decode cc pc = .ok ((.lconst 1), 1) := dq_of (by
  unfold Jvm.ClassFile.Decoder.instr
  exact (dq_b (dq_u1 h)).trans rfl)
theorem dk_16 {cc : ByteArray} {pc : Nat} {x : UInt8} {z : Int} (h : cc.data.toList[pc]? = some 16) (h1 : cc.data.toList[pc + 1]? = some x) (hz : Jvm.ClassFile.Reader.signed 8 x.toNat = z) : decode cc pc = .ok ((.bipush z), 2) := dq_of (by
  unfold Jvm.ClassFile.Decoder.instr
  exact (dq_b (dq_u1 h)).trans ((dq_b (dq_s1 h1)).trans (by rw [hz]; rfl)))
theorem dk_17 {cc : ByteArray} {pc : Nat} {x y : UInt8} {z : Int} (h : cc.data.toList[pc]? = some 17) (h1 : cc.data.toList[pc + 1]? = some x) (h2 : cc.data.toList[pc + 1 + 1]? = some y) (hz : Jvm.ClassFile.Reader.signed 16 (x.toNat * 256 + y.toNat) = z) : decode cc pc = .ok ((.sipush z), 3) := dq_of (by
  unfold Jvm.ClassFile.Decoder.instr
  exact (dq_b (dq_u1 h)).trans ((dq_b (dq_s2 h1 h2)).trans (by rw [hz]; rfl)))
theorem dk_18 {cc : ByteArray} {pc : Nat} {x : UInt8} (h : cc.data.toList[pc]? = some 18) (h1 : cc.data.toList[pc + 1]? = some x) : decode cc pc = .ok ((.ldc x.toNat), 2) := dq_of (by
  unfold Jvm.ClassFile.Decoder.instr
  exact (dq_b (dq_u1 h)).trans ((dq_b (dq_u1 h1)).trans rfl))
theorem dk_19 {cc : ByteArray} {pc : Nat} {x y : UInt8} (h : cc.data.toList[pc]? = some 19) (h1 : cc.data.toList[pc + 1]? = some x) (h2 : cc.data.toList[pc + 1 + 1]? = some y) : decode cc pc = .ok ((.ldc_w (x.toNat * 256 + y.toNat)), 3) := dq_of (by
  unfold Jvm.ClassFile.Decoder.instr
  exact (dq_b (dq_u1 h)).trans ((dq_b (dq_u2 h1 h2)).trans rfl))
theorem dk_20 {cc : ByteArray} {pc : Nat} {x y : UInt8} (h : cc.data.toList[pc]? = some 20) (h1 : cc.data.toList[pc + 1]? = some x) (h2 : cc.data.toList[pc + 1 + 1]? = some y) : decode cc pc = .ok ((.ldc2_w (x.toNat * 256 + y.toNat)), 3) := dq_of (by
  unfold Jvm.ClassFile.Decoder.instr
  exact (dq_b (dq_u1 h)).trans ((dq_b (dq_u2 h1 h2)).trans rfl))
theorem dk_21 {cc : ByteArray} {pc : Nat} {x : UInt8} (h : cc.data.toList[pc]? = some 21) (h1 : cc.data.toList[pc + 1]? = some x) : decode cc pc = .ok ((.iload x.toNat), 2) := dq_of (by
  unfold Jvm.ClassFile.Decoder.instr
  exact (dq_b (dq_u1 h)).trans ((dq_b (dq_u1 h1)).trans rfl))
theorem dk_22 {cc : ByteArray} {pc : Nat} {x : UInt8} (h : cc.data.toList[pc]? = some 22) (h1 : cc.data.toList[pc + 1]? = some x) : decode cc pc = .ok ((.lload x.toNat), 2) := dq_of (by
  unfold Jvm.ClassFile.Decoder.instr
  exact (dq_b (dq_u1 h)).trans ((dq_b (dq_u1 h1)).trans rfl))
theorem dk_25 {cc : ByteArray} {pc : Nat} {x : UInt8} (h : cc.data.toList[pc]? = some 25) (h1 : cc.data.toList[pc + 1]? = some x) : decode cc pc = .ok ((.aload x.toNat), 2) := dq_of (by
  unfold Jvm.ClassFile.Decoder.instr
  exact (dq_b (dq_u1 h)).trans ((dq_b (dq_u1 h1)).trans rfl))
theorem dk_26 {cc : ByteArray} {pc : Nat} (h : cc.data.toList[pc]? = some 26) : decode cc pc = .ok ((.iload_n 0), 1) := dq_of (by
  unfold Jvm.ClassFile.Decoder.instr
  exact (dq_b (dq_u1 h)).trans rfl)
theorem dk_27 {cc : ByteArray} {pc : Nat} (h : cc.data.toList[pc]? = some 27) : decode cc pc = .ok ((.iload_n 1), 1) := dq_of (by
  unfold Jvm.ClassFile.Decoder.instr
  exact (dq_b (dq_u1 h)).trans rfl)
theorem dk_28 {cc : ByteArray} {pc : Nat} (h : cc.data.toList[pc]? = some 28) : decode cc pc = .ok ((.iload_n 2), 1) := dq_of (by
  unfold Jvm.ClassFile.Decoder.instr
  exact (dq_b (dq_u1 h)).trans rfl)
theorem dk_29 {cc : ByteArray} {pc : Nat} (h : cc.data.toList[pc]? = some 29) : decode cc pc = .ok ((.iload_n 3), 1) := dq_of (by
  unfold Jvm.ClassFile.Decoder.instr
  exact (dq_b (dq_u1 h)).trans rfl)
theorem dk_30 {cc : ByteArray} {pc : Nat} (h : cc.data.toList[pc]? = some 30) : decode cc pc = .ok ((.lload_n 0), 1) := dq_of (by
  unfold Jvm.ClassFile.Decoder.instr
  exact (dq_b (dq_u1 h)).trans rfl)
theorem dk_31 {cc : ByteArray} {pc : Nat} (h : cc.data.toList[pc]? = some 31) : decode cc pc = .ok ((.lload_n 1), 1) := dq_of (by
  unfold Jvm.ClassFile.Decoder.instr
  exact (dq_b (dq_u1 h)).trans rfl)
theorem dk_32 {cc : ByteArray} {pc : Nat} (h : cc.data.toList[pc]? = some 32) : decode cc pc = .ok ((.lload_n 2), 1) := dq_of (by
  unfold Jvm.ClassFile.Decoder.instr
  exact (dq_b (dq_u1 h)).trans rfl)
theorem dk_33 {cc : ByteArray} {pc : Nat} (h : cc.data.toList[pc]? = some 33) : decode cc pc = .ok ((.lload_n 3), 1) := dq_of (by
  unfold Jvm.ClassFile.Decoder.instr
  exact (dq_b (dq_u1 h)).trans rfl)
theorem dk_42 {cc : ByteArray} {pc : Nat} (h : cc.data.toList[pc]? = some 42) : decode cc pc = .ok ((.aload_n 0), 1) := dq_of (by
  unfold Jvm.ClassFile.Decoder.instr
  exact (dq_b (dq_u1 h)).trans rfl)
theorem dk_43 {cc : ByteArray} {pc : Nat} (h : cc.data.toList[pc]? = some 43) : decode cc pc = .ok ((.aload_n 1), 1) := dq_of (by
  unfold Jvm.ClassFile.Decoder.instr
  exact (dq_b (dq_u1 h)).trans rfl)
theorem dk_44 {cc : ByteArray} {pc : Nat} (h : cc.data.toList[pc]? = some 44) : decode cc pc = .ok ((.aload_n 2), 1) := dq_of (by
  unfold Jvm.ClassFile.Decoder.instr
  exact (dq_b (dq_u1 h)).trans rfl)
theorem dk_45 {cc : ByteArray} {pc : Nat} (h : cc.data.toList[pc]? = some 45) : decode cc pc = .ok ((.aload_n 3), 1) := dq_of (by
  unfold Jvm.ClassFile.Decoder.instr
  exact (dq_b (dq_u1 h)).trans rfl)
theorem dk_46 {cc : ByteArray} {pc : Nat} (h : cc.data.toList[pc]? = some 46) : decode cc pc = .ok ((.iaload), 1) := dq_of (by
  unfold Jvm.ClassFile.Decoder.instr
  exact (dq_b (dq_u1 h)).trans rfl)
theorem dk_47 {cc : ByteArray} {pc : Nat} (h : cc.data.toList[pc]? = some 47) : decode cc pc = .ok ((.laload), 1) := dq_of (by
  unfold Jvm.ClassFile.Decoder.instr
  exact (dq_b (dq_u1 h)).trans rfl)
theorem dk_50 {cc : ByteArray} {pc : Nat} (h : cc.data.toList[pc]? = some 50) : decode cc pc = .ok ((.aaload), 1) := dq_of (by
  unfold Jvm.ClassFile.Decoder.instr
  exact (dq_b (dq_u1 h)).trans rfl)
theorem dk_51 {cc : ByteArray} {pc : Nat} (h : cc.data.toList[pc]? = some 51) : decode cc pc = .ok ((.baload), 1) := dq_of (by
  unfold Jvm.ClassFile.Decoder.instr
  exact (dq_b (dq_u1 h)).trans rfl)
theorem dk_54 {cc : ByteArray} {pc : Nat} {x : UInt8} (h : cc.data.toList[pc]? = some 54) (h1 : cc.data.toList[pc + 1]? = some x) : decode cc pc = .ok ((.istore x.toNat), 2) := dq_of (by
  unfold Jvm.ClassFile.Decoder.instr
  exact (dq_b (dq_u1 h)).trans ((dq_b (dq_u1 h1)).trans rfl))
theorem dk_55 {cc : ByteArray} {pc : Nat} {x : UInt8} (h : cc.data.toList[pc]? = some 55) (h1 : cc.data.toList[pc + 1]? = some x) : decode cc pc = .ok ((.lstore x.toNat), 2) := dq_of (by
  unfold Jvm.ClassFile.Decoder.instr
  exact (dq_b (dq_u1 h)).trans ((dq_b (dq_u1 h1)).trans rfl))
theorem dk_58 {cc : ByteArray} {pc : Nat} {x : UInt8} (h : cc.data.toList[pc]? = some 58) (h1 : cc.data.toList[pc + 1]? = some x) : decode cc pc = .ok ((.astore x.toNat), 2) := dq_of (by
  unfold Jvm.ClassFile.Decoder.instr
  exact (dq_b (dq_u1 h)).trans ((dq_b (dq_u1 h1)).trans rfl))
theorem dk_60 {cc : ByteArray} {pc : Nat} (h : cc.data.toList[pc]? = some 60) : decode cc pc = .ok ((.istore_n 1), 1) := dq_of (by
  unfold Jvm.ClassFile.Decoder.instr
  exact (dq_b (dq_u1 h)).trans rfl)
theorem dk_61 {cc : ByteArray} {pc : Nat} (h : cc.data.toList[pc]? = some 61) : decode cc pc = .ok ((.istore_n 2), 1) := dq_of (by
  unfold Jvm.ClassFile.Decoder.instr
  exact (dq_b (dq_u1 h)).trans rfl)
theorem dk_62 {cc : ByteArray} {pc : Nat} (h : cc.data.toList[pc]? = some 62) : decode cc pc = .ok ((.istore_n 3), 1) := dq_of (by
  unfold Jvm.ClassFile.Decoder.instr
  exact (dq_b (dq_u1 h)).trans rfl)
theorem dk_63 {cc : ByteArray} {pc : Nat} (h : cc.data.toList[pc]? = some 63) : decode cc pc = .ok ((.lstore_n 0), 1) := dq_of (by
  unfold Jvm.ClassFile.Decoder.instr
  exact (dq_b (dq_u1 h)).trans rfl)
theorem dk_64 {cc : ByteArray} {pc : Nat} (h : cc.data.toList[pc]? = some 64) : decode cc pc = .ok ((.lstore_n 1), 1) := dq_of (by
  unfold Jvm.ClassFile.Decoder.instr
  exact (dq_b (dq_u1 h)).trans rfl)
theorem dk_65 {cc : ByteArray} {pc : Nat} (h : cc.data.toList[pc]? = some 65) : decode cc pc = .ok ((.lstore_n 2), 1) := dq_of (by
  unfold Jvm.ClassFile.Decoder.instr
  exact (dq_b (dq_u1 h)).trans rfl)
theorem dk_66 {cc : ByteArray} {pc : Nat} (h : cc.data.toList[pc]? = some 66) : decode cc pc = .ok ((.lstore_n 3), 1) := dq_of (by
  unfold Jvm.ClassFile.Decoder.instr
  exact (dq_b (dq_u1 h)).trans rfl)
theorem dk_76 {cc : ByteArray} {pc : Nat} (h : cc.data.toList[pc]? = some 76) : decode cc pc = .ok ((.astore_n 1), 1) := dq_of (by
  unfold Jvm.ClassFile.Decoder.instr
  exact (dq_b (dq_u1 h)).trans rfl)
theorem dk_77 {cc : ByteArray} {pc : Nat} (h : cc.data.toList[pc]? = some 77) : decode cc pc = .ok ((.astore_n 2), 1) := dq_of (by
  unfold Jvm.ClassFile.Decoder.instr
  exact (dq_b (dq_u1 h)).trans rfl)
theorem dk_78 {cc : ByteArray} {pc : Nat} (h : cc.data.toList[pc]? = some 78) : decode cc pc = .ok ((.astore_n 3), 1) := dq_of (by
  unfold Jvm.ClassFile.Decoder.instr
  exact (dq_b (dq_u1 h)).trans rfl)
theorem dk_79 {cc : ByteArray} {pc : Nat} (h : cc.data.toList[pc]? = some 79) : decode cc pc = .ok ((.iastore), 1) := dq_of (by
  unfold Jvm.ClassFile.Decoder.instr
  exact (dq_b (dq_u1 h)).trans rfl)
theorem dk_80 {cc : ByteArray} {pc : Nat} (h : cc.data.toList[pc]? = some 80) : decode cc pc = .ok ((.lastore), 1) := dq_of (by
  unfold Jvm.ClassFile.Decoder.instr
  exact (dq_b (dq_u1 h)).trans rfl)
theorem dk_83 {cc : ByteArray} {pc : Nat} (h : cc.data.toList[pc]? = some 83) : decode cc pc = .ok ((.aastore), 1) := dq_of (by
  unfold Jvm.ClassFile.Decoder.instr
  exact (dq_b (dq_u1 h)).trans rfl)
theorem dk_84 {cc : ByteArray} {pc : Nat} (h : cc.data.toList[pc]? = some 84) : decode cc pc = .ok ((.bastore), 1) := dq_of (by
  unfold Jvm.ClassFile.Decoder.instr
  exact (dq_b (dq_u1 h)).trans rfl)
theorem dk_87 {cc : ByteArray} {pc : Nat} (h : cc.data.toList[pc]? = some 87) : decode cc pc = .ok ((.pop), 1) := dq_of (by
  unfold Jvm.ClassFile.Decoder.instr
  exact (dq_b (dq_u1 h)).trans rfl)
theorem dk_88 {cc : ByteArray} {pc : Nat} (h : cc.data.toList[pc]? = some 88) : decode cc pc = .ok ((.pop2), 1) := dq_of (by
  unfold Jvm.ClassFile.Decoder.instr
  exact (dq_b (dq_u1 h)).trans rfl)
theorem dk_89 {cc : ByteArray} {pc : Nat} (h : cc.data.toList[pc]? = some 89) : decode cc pc = .ok ((.dup), 1) := dq_of (by
  unfold Jvm.ClassFile.Decoder.instr
  exact (dq_b (dq_u1 h)).trans rfl)
theorem dk_90 {cc : ByteArray} {pc : Nat} (h : cc.data.toList[pc]? = some 90) : decode cc pc = .ok ((.dup_x1), 1) := dq_of (by
  unfold Jvm.ClassFile.Decoder.instr
  exact (dq_b (dq_u1 h)).trans rfl)
theorem dk_96 {cc : ByteArray} {pc : Nat} (h : cc.data.toList[pc]? = some 96) : decode cc pc = .ok ((.iadd), 1) := dq_of (by
  unfold Jvm.ClassFile.Decoder.instr
  exact (dq_b (dq_u1 h)).trans rfl)
theorem dk_97 {cc : ByteArray} {pc : Nat} (h : cc.data.toList[pc]? = some 97) : decode cc pc = .ok ((.ladd), 1) := dq_of (by
  unfold Jvm.ClassFile.Decoder.instr
  exact (dq_b (dq_u1 h)).trans rfl)
theorem dk_100 {cc : ByteArray} {pc : Nat} (h : cc.data.toList[pc]? = some 100) : decode cc pc = .ok ((.isub), 1) := dq_of (by
  unfold Jvm.ClassFile.Decoder.instr
  exact (dq_b (dq_u1 h)).trans rfl)
theorem dk_101 {cc : ByteArray} {pc : Nat} (h : cc.data.toList[pc]? = some 101) : decode cc pc = .ok ((.lsub), 1) := dq_of (by
  unfold Jvm.ClassFile.Decoder.instr
  exact (dq_b (dq_u1 h)).trans rfl)
theorem dk_104 {cc : ByteArray} {pc : Nat} (h : cc.data.toList[pc]? = some 104) : decode cc pc = .ok ((.imul), 1) := dq_of (by
  unfold Jvm.ClassFile.Decoder.instr
  exact (dq_b (dq_u1 h)).trans rfl)
theorem dk_105 {cc : ByteArray} {pc : Nat} (h : cc.data.toList[pc]? = some 105) : decode cc pc = .ok ((.lmul), 1) := dq_of (by
  unfold Jvm.ClassFile.Decoder.instr
  exact (dq_b (dq_u1 h)).trans rfl)
theorem dk_108 {cc : ByteArray} {pc : Nat} (h : cc.data.toList[pc]? = some 108) : decode cc pc = .ok ((.idiv), 1) := dq_of (by
  unfold Jvm.ClassFile.Decoder.instr
  exact (dq_b (dq_u1 h)).trans rfl)
theorem dk_109 {cc : ByteArray} {pc : Nat} (h : cc.data.toList[pc]? = some 109) : decode cc pc = .ok ((.ldiv), 1) := dq_of (by
  unfold Jvm.ClassFile.Decoder.instr
  exact (dq_b (dq_u1 h)).trans rfl)
theorem dk_112 {cc : ByteArray} {pc : Nat} (h : cc.data.toList[pc]? = some 112) : decode cc pc = .ok ((.irem), 1) := dq_of (by
  unfold Jvm.ClassFile.Decoder.instr
  exact (dq_b (dq_u1 h)).trans rfl)
theorem dk_113 {cc : ByteArray} {pc : Nat} (h : cc.data.toList[pc]? = some 113) : decode cc pc = .ok ((.lrem), 1) := dq_of (by
  unfold Jvm.ClassFile.Decoder.instr
  exact (dq_b (dq_u1 h)).trans rfl)
theorem dk_116 {cc : ByteArray} {pc : Nat} (h : cc.data.toList[pc]? = some 116) : decode cc pc = .ok ((.ineg), 1) := dq_of (by
  unfold Jvm.ClassFile.Decoder.instr
  exact (dq_b (dq_u1 h)).trans rfl)
theorem dk_117 {cc : ByteArray} {pc : Nat} (h : cc.data.toList[pc]? = some 117) : decode cc pc = .ok ((.lneg), 1) := dq_of (by
  unfold Jvm.ClassFile.Decoder.instr
  exact (dq_b (dq_u1 h)).trans rfl)
theorem dk_120 {cc : ByteArray} {pc : Nat} (h : cc.data.toList[pc]? = some 120) : decode cc pc = .ok ((.ishl), 1) := dq_of (by
  unfold Jvm.ClassFile.Decoder.instr
  exact (dq_b (dq_u1 h)).trans rfl)
theorem dk_122 {cc : ByteArray} {pc : Nat} (h : cc.data.toList[pc]? = some 122) : decode cc pc = .ok ((.ishr), 1) := dq_of (by
  unfold Jvm.ClassFile.Decoder.instr
  exact (dq_b (dq_u1 h)).trans rfl)
theorem dk_126 {cc : ByteArray} {pc : Nat} (h : cc.data.toList[pc]? = some 126) : decode cc pc = .ok ((.iand), 1) := dq_of (by
  unfold Jvm.ClassFile.Decoder.instr
  exact (dq_b (dq_u1 h)).trans rfl)
theorem dk_130 {cc : ByteArray} {pc : Nat} (h : cc.data.toList[pc]? = some 130) : decode cc pc = .ok ((.ixor), 1) := dq_of (by
  unfold Jvm.ClassFile.Decoder.instr
  exact (dq_b (dq_u1 h)).trans rfl)
theorem dk_131 {cc : ByteArray} {pc : Nat} (h : cc.data.toList[pc]? = some 131) : decode cc pc = .ok ((.lxor), 1) := dq_of (by
  unfold Jvm.ClassFile.Decoder.instr
  exact (dq_b (dq_u1 h)).trans rfl)
theorem dk_132 {cc : ByteArray} {pc : Nat} {x y : UInt8} {z : Int} (h : cc.data.toList[pc]? = some 132) (h1 : cc.data.toList[pc + 1]? = some x) (h2 : cc.data.toList[pc + 1 + 1]? = some y) (hz : Jvm.ClassFile.Reader.signed 8 y.toNat = z) : decode cc pc = .ok ((.iinc x.toNat z), 3) := dq_of (by
  unfold Jvm.ClassFile.Decoder.instr
  exact (dq_b (dq_u1 h)).trans ((dq_b (dq_u1 h1)).trans ((dq_b (dq_s1 h2)).trans (by rw [hz]; rfl))))
theorem dk_133 {cc : ByteArray} {pc : Nat} (h : cc.data.toList[pc]? = some 133) : decode cc pc = .ok ((.i2l), 1) := dq_of (by
  unfold Jvm.ClassFile.Decoder.instr
  exact (dq_b (dq_u1 h)).trans rfl)
theorem dk_136 {cc : ByteArray} {pc : Nat} (h : cc.data.toList[pc]? = some 136) : decode cc pc = .ok ((.l2i), 1) := dq_of (by
  unfold Jvm.ClassFile.Decoder.instr
  exact (dq_b (dq_u1 h)).trans rfl)
theorem dk_145 {cc : ByteArray} {pc : Nat} (h : cc.data.toList[pc]? = some 145) : decode cc pc = .ok ((.i2b), 1) := dq_of (by
  unfold Jvm.ClassFile.Decoder.instr
  exact (dq_b (dq_u1 h)).trans rfl)
theorem dk_146 {cc : ByteArray} {pc : Nat} (h : cc.data.toList[pc]? = some 146) : decode cc pc = .ok ((.i2c), 1) := dq_of (by
  unfold Jvm.ClassFile.Decoder.instr
  exact (dq_b (dq_u1 h)).trans rfl)
theorem dk_148 {cc : ByteArray} {pc : Nat} (h : cc.data.toList[pc]? = some 148) : decode cc pc = .ok ((.lcmp), 1) := dq_of (by
  unfold Jvm.ClassFile.Decoder.instr
  exact (dq_b (dq_u1 h)).trans rfl)
theorem dk_153 {cc : ByteArray} {pc : Nat} {x y : UInt8} {z : Int} (h : cc.data.toList[pc]? = some 153) (h1 : cc.data.toList[pc + 1]? = some x) (h2 : cc.data.toList[pc + 1 + 1]? = some y) (hz : Jvm.ClassFile.Reader.signed 16 (x.toNat * 256 + y.toNat) = z) : decode cc pc = .ok ((.ifCond .eq z), 3) := dq_of (by
  unfold Jvm.ClassFile.Decoder.instr
  exact (dq_b (dq_u1 h)).trans ((dq_b (dq_s2 h1 h2)).trans (by rw [hz]; rfl)))
theorem dk_154 {cc : ByteArray} {pc : Nat} {x y : UInt8} {z : Int} (h : cc.data.toList[pc]? = some 154) (h1 : cc.data.toList[pc + 1]? = some x) (h2 : cc.data.toList[pc + 1 + 1]? = some y) (hz : Jvm.ClassFile.Reader.signed 16 (x.toNat * 256 + y.toNat) = z) : decode cc pc = .ok ((.ifCond .ne z), 3) := dq_of (by
  unfold Jvm.ClassFile.Decoder.instr
  exact (dq_b (dq_u1 h)).trans ((dq_b (dq_s2 h1 h2)).trans (by rw [hz]; rfl)))
theorem dk_155 {cc : ByteArray} {pc : Nat} {x y : UInt8} {z : Int} (h : cc.data.toList[pc]? = some 155) (h1 : cc.data.toList[pc + 1]? = some x) (h2 : cc.data.toList[pc + 1 + 1]? = some y) (hz : Jvm.ClassFile.Reader.signed 16 (x.toNat * 256 + y.toNat) = z) : decode cc pc = .ok ((.ifCond .lt z), 3) := dq_of (by
  unfold Jvm.ClassFile.Decoder.instr
  exact (dq_b (dq_u1 h)).trans ((dq_b (dq_s2 h1 h2)).trans (by rw [hz]; rfl)))
theorem dk_156 {cc : ByteArray} {pc : Nat} {x y : UInt8} {z : Int} (h : cc.data.toList[pc]? = some 156) (h1 : cc.data.toList[pc + 1]? = some x) (h2 : cc.data.toList[pc + 1 + 1]? = some y) (hz : Jvm.ClassFile.Reader.signed 16 (x.toNat * 256 + y.toNat) = z) : decode cc pc = .ok ((.ifCond .ge z), 3) := dq_of (by
  unfold Jvm.ClassFile.Decoder.instr
  exact (dq_b (dq_u1 h)).trans ((dq_b (dq_s2 h1 h2)).trans (by rw [hz]; rfl)))
theorem dk_157 {cc : ByteArray} {pc : Nat} {x y : UInt8} {z : Int} (h : cc.data.toList[pc]? = some 157) (h1 : cc.data.toList[pc + 1]? = some x) (h2 : cc.data.toList[pc + 1 + 1]? = some y) (hz : Jvm.ClassFile.Reader.signed 16 (x.toNat * 256 + y.toNat) = z) : decode cc pc = .ok ((.ifCond .gt z), 3) := dq_of (by
  unfold Jvm.ClassFile.Decoder.instr
  exact (dq_b (dq_u1 h)).trans ((dq_b (dq_s2 h1 h2)).trans (by rw [hz]; rfl)))
theorem dk_158 {cc : ByteArray} {pc : Nat} {x y : UInt8} {z : Int} (h : cc.data.toList[pc]? = some 158) (h1 : cc.data.toList[pc + 1]? = some x) (h2 : cc.data.toList[pc + 1 + 1]? = some y) (hz : Jvm.ClassFile.Reader.signed 16 (x.toNat * 256 + y.toNat) = z) : decode cc pc = .ok ((.ifCond .le z), 3) := dq_of (by
  unfold Jvm.ClassFile.Decoder.instr
  exact (dq_b (dq_u1 h)).trans ((dq_b (dq_s2 h1 h2)).trans (by rw [hz]; rfl)))
theorem dk_159 {cc : ByteArray} {pc : Nat} {x y : UInt8} {z : Int} (h : cc.data.toList[pc]? = some 159) (h1 : cc.data.toList[pc + 1]? = some x) (h2 : cc.data.toList[pc + 1 + 1]? = some y) (hz : Jvm.ClassFile.Reader.signed 16 (x.toNat * 256 + y.toNat) = z) : decode cc pc = .ok ((.if_icmp .eq z), 3) := dq_of (by
  unfold Jvm.ClassFile.Decoder.instr
  exact (dq_b (dq_u1 h)).trans ((dq_b (dq_s2 h1 h2)).trans (by rw [hz]; rfl)))
theorem dk_160 {cc : ByteArray} {pc : Nat} {x y : UInt8} {z : Int} (h : cc.data.toList[pc]? = some 160) (h1 : cc.data.toList[pc + 1]? = some x) (h2 : cc.data.toList[pc + 1 + 1]? = some y) (hz : Jvm.ClassFile.Reader.signed 16 (x.toNat * 256 + y.toNat) = z) : decode cc pc = .ok ((.if_icmp .ne z), 3) := dq_of (by
  unfold Jvm.ClassFile.Decoder.instr
  exact (dq_b (dq_u1 h)).trans ((dq_b (dq_s2 h1 h2)).trans (by rw [hz]; rfl)))
theorem dk_161 {cc : ByteArray} {pc : Nat} {x y : UInt8} {z : Int} (h : cc.data.toList[pc]? = some 161) (h1 : cc.data.toList[pc + 1]? = some x) (h2 : cc.data.toList[pc + 1 + 1]? = some y) (hz : Jvm.ClassFile.Reader.signed 16 (x.toNat * 256 + y.toNat) = z) : decode cc pc = .ok ((.if_icmp .lt z), 3) := dq_of (by
  unfold Jvm.ClassFile.Decoder.instr
  exact (dq_b (dq_u1 h)).trans ((dq_b (dq_s2 h1 h2)).trans (by rw [hz]; rfl)))
theorem dk_162 {cc : ByteArray} {pc : Nat} {x y : UInt8} {z : Int} (h : cc.data.toList[pc]? = some 162) (h1 : cc.data.toList[pc + 1]? = some x) (h2 : cc.data.toList[pc + 1 + 1]? = some y) (hz : Jvm.ClassFile.Reader.signed 16 (x.toNat * 256 + y.toNat) = z) : decode cc pc = .ok ((.if_icmp .ge z), 3) := dq_of (by
  unfold Jvm.ClassFile.Decoder.instr
  exact (dq_b (dq_u1 h)).trans ((dq_b (dq_s2 h1 h2)).trans (by rw [hz]; rfl)))
theorem dk_163 {cc : ByteArray} {pc : Nat} {x y : UInt8} {z : Int} (h : cc.data.toList[pc]? = some 163) (h1 : cc.data.toList[pc + 1]? = some x) (h2 : cc.data.toList[pc + 1 + 1]? = some y) (hz : Jvm.ClassFile.Reader.signed 16 (x.toNat * 256 + y.toNat) = z) : decode cc pc = .ok ((.if_icmp .gt z), 3) := dq_of (by
  unfold Jvm.ClassFile.Decoder.instr
  exact (dq_b (dq_u1 h)).trans ((dq_b (dq_s2 h1 h2)).trans (by rw [hz]; rfl)))
theorem dk_167 {cc : ByteArray} {pc : Nat} {x y : UInt8} {z : Int} (h : cc.data.toList[pc]? = some 167) (h1 : cc.data.toList[pc + 1]? = some x) (h2 : cc.data.toList[pc + 1 + 1]? = some y) (hz : Jvm.ClassFile.Reader.signed 16 (x.toNat * 256 + y.toNat) = z) : decode cc pc = .ok ((.goto z), 3) := dq_of (by
  unfold Jvm.ClassFile.Decoder.instr
  exact (dq_b (dq_u1 h)).trans ((dq_b (dq_s2 h1 h2)).trans (by rw [hz]; rfl)))
theorem dk_172 {cc : ByteArray} {pc : Nat} (h : cc.data.toList[pc]? = some 172) : decode cc pc = .ok ((.ireturn), 1) := dq_of (by
  unfold Jvm.ClassFile.Decoder.instr
  exact (dq_b (dq_u1 h)).trans rfl)
theorem dk_173 {cc : ByteArray} {pc : Nat} (h : cc.data.toList[pc]? = some 173) : decode cc pc = .ok ((.lreturn), 1) := dq_of (by
  unfold Jvm.ClassFile.Decoder.instr
  exact (dq_b (dq_u1 h)).trans rfl)
theorem dk_176 {cc : ByteArray} {pc : Nat} (h : cc.data.toList[pc]? = some 176) : decode cc pc = .ok ((.areturn), 1) := dq_of (by
  unfold Jvm.ClassFile.Decoder.instr
  exact (dq_b (dq_u1 h)).trans rfl)
theorem dk_177 {cc : ByteArray} {pc : Nat} (h : cc.data.toList[pc]? = some 177) : decode cc pc = .ok ((.return_), 1) := dq_of (by
  unfold Jvm.ClassFile.Decoder.instr
  exact (dq_b (dq_u1 h)).trans rfl)
theorem dk_178 {cc : ByteArray} {pc : Nat} {x y : UInt8} (h : cc.data.toList[pc]? = some 178) (h1 : cc.data.toList[pc + 1]? = some x) (h2 : cc.data.toList[pc + 1 + 1]? = some y) : decode cc pc = .ok ((.getstatic (x.toNat * 256 + y.toNat)), 3) := dq_of (by
  unfold Jvm.ClassFile.Decoder.instr
  exact (dq_b (dq_u1 h)).trans ((dq_b (dq_u2 h1 h2)).trans rfl))
theorem dk_180 {cc : ByteArray} {pc : Nat} {x y : UInt8} (h : cc.data.toList[pc]? = some 180) (h1 : cc.data.toList[pc + 1]? = some x) (h2 : cc.data.toList[pc + 1 + 1]? = some y) : decode cc pc = .ok ((.getfield (x.toNat * 256 + y.toNat)), 3) := dq_of (by
  unfold Jvm.ClassFile.Decoder.instr
  exact (dq_b (dq_u1 h)).trans ((dq_b (dq_u2 h1 h2)).trans rfl))
theorem dk_181 {cc : ByteArray} {pc : Nat} {x y : UInt8} (h : cc.data.toList[pc]? = some 181) (h1 : cc.data.toList[pc + 1]? = some x) (h2 : cc.data.toList[pc + 1 + 1]? = some y) : decode cc pc = .ok ((.putfield (x.toNat * 256 + y.toNat)), 3) := dq_of (by
  unfold Jvm.ClassFile.Decoder.instr
  exact (dq_b (dq_u1 h)).trans ((dq_b (dq_u2 h1 h2)).trans rfl))
theorem dk_182 {cc : ByteArray} {pc : Nat} {x y : UInt8} (h : cc.data.toList[pc]? = some 182) (h1 : cc.data.toList[pc + 1]? = some x) (h2 : cc.data.toList[pc + 1 + 1]? = some y) : decode cc pc = .ok ((.invokevirtual (x.toNat * 256 + y.toNat)), 3) := dq_of (by
  unfold Jvm.ClassFile.Decoder.instr
  exact (dq_b (dq_u1 h)).trans ((dq_b (dq_u2 h1 h2)).trans rfl))
theorem dk_183 {cc : ByteArray} {pc : Nat} {x y : UInt8} (h : cc.data.toList[pc]? = some 183) (h1 : cc.data.toList[pc + 1]? = some x) (h2 : cc.data.toList[pc + 1 + 1]? = some y) : decode cc pc = .ok ((.invokespecial (x.toNat * 256 + y.toNat)), 3) := dq_of (by
  unfold Jvm.ClassFile.Decoder.instr
  exact (dq_b (dq_u1 h)).trans ((dq_b (dq_u2 h1 h2)).trans rfl))
theorem dk_184 {cc : ByteArray} {pc : Nat} {x y : UInt8} (h : cc.data.toList[pc]? = some 184) (h1 : cc.data.toList[pc + 1]? = some x) (h2 : cc.data.toList[pc + 1 + 1]? = some y) : decode cc pc = .ok ((.invokestatic (x.toNat * 256 + y.toNat)), 3) := dq_of (by
  unfold Jvm.ClassFile.Decoder.instr
  exact (dq_b (dq_u1 h)).trans ((dq_b (dq_u2 h1 h2)).trans rfl))
theorem dk_187 {cc : ByteArray} {pc : Nat} {x y : UInt8} (h : cc.data.toList[pc]? = some 187) (h1 : cc.data.toList[pc + 1]? = some x) (h2 : cc.data.toList[pc + 1 + 1]? = some y) : decode cc pc = .ok ((.new (x.toNat * 256 + y.toNat)), 3) := dq_of (by
  unfold Jvm.ClassFile.Decoder.instr
  exact (dq_b (dq_u1 h)).trans ((dq_b (dq_u2 h1 h2)).trans rfl))
theorem dk_189 {cc : ByteArray} {pc : Nat} {x y : UInt8} (h : cc.data.toList[pc]? = some 189) (h1 : cc.data.toList[pc + 1]? = some x) (h2 : cc.data.toList[pc + 1 + 1]? = some y) : decode cc pc = .ok ((.anewarray (x.toNat * 256 + y.toNat)), 3) := dq_of (by
  unfold Jvm.ClassFile.Decoder.instr
  exact (dq_b (dq_u1 h)).trans ((dq_b (dq_u2 h1 h2)).trans rfl))
theorem dk_190 {cc : ByteArray} {pc : Nat} (h : cc.data.toList[pc]? = some 190) : decode cc pc = .ok ((.arraylength), 1) := dq_of (by
  unfold Jvm.ClassFile.Decoder.instr
  exact (dq_b (dq_u1 h)).trans rfl)
theorem dk_191 {cc : ByteArray} {pc : Nat} (h : cc.data.toList[pc]? = some 191) : decode cc pc = .ok ((.athrow), 1) := dq_of (by
  unfold Jvm.ClassFile.Decoder.instr
  exact (dq_b (dq_u1 h)).trans rfl)
theorem dk_192 {cc : ByteArray} {pc : Nat} {x y : UInt8} (h : cc.data.toList[pc]? = some 192) (h1 : cc.data.toList[pc + 1]? = some x) (h2 : cc.data.toList[pc + 1 + 1]? = some y) : decode cc pc = .ok ((.checkcast (x.toNat * 256 + y.toNat)), 3) := dq_of (by
  unfold Jvm.ClassFile.Decoder.instr
  exact (dq_b (dq_u1 h)).trans ((dq_b (dq_u2 h1 h2)).trans rfl))
theorem dk_199 {cc : ByteArray} {pc : Nat} {x y : UInt8} {z : Int} (h : cc.data.toList[pc]? = some 199) (h1 : cc.data.toList[pc + 1]? = some x) (h2 : cc.data.toList[pc + 1 + 1]? = some y) (hz : Jvm.ClassFile.Reader.signed 16 (x.toNat * 256 + y.toNat) = z) : decode cc pc = .ok ((.ifnonnull z), 3) := dq_of (by
  unfold Jvm.ClassFile.Decoder.instr
  exact (dq_b (dq_u1 h)).trans ((dq_b (dq_s2 h1 h2)).trans (by rw [hz]; rfl)))
