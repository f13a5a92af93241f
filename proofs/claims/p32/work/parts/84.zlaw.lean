/-! The law: its loop, its start. (Own work, rows by a program of this repository; head and end from the skeleton.) -/
theorem mX2z : ∀ j, j < 8 → defaultValue (tyX2 j) = vp_V [.null, .null, .null, .null, .null, .null, .int 0, .int 0] j := by
  intro j hj
  match j, hj with
  | 0, _ => rfl
  | 1, _ => rfl
  | 2, _ => rfl
  | 3, _ => rfl
  | 4, _ => rfl
  | 5, _ => rfl
  | 6, _ => rfl
  | 7, _ => rfl
  | j + 8, h => exact absurd h (by omega)
theorem mX4z : ∀ j, j < 9 → defaultValue (tyX4 j) = vp_V [.int 0, .int 0, .int 0, .null, .null, .null, .null, .null, .null] j := by
  intro j hj
  match j, hj with
  | 0, _ => rfl
  | 1, _ => rfl
  | 2, _ => rfl
  | 3, _ => rfl
  | 4, _ => rfl
  | 5, _ => rfl
  | 6, _ => rfl
  | 7, _ => rfl
  | 8, _ => rfl
  | j + 9, h => exact absurd h (by omega)
theorem mX3z : ∀ j, j < 2 → defaultValue (tyX3 j) = vp_V [.long 0, .null] j := by
  intro j hj
  match j, hj with
  | 0, _ => rfl
  | 1, _ => rfl
  | j + 2, h => exact absurd h (by omega)
def zS0 : mS := (zup (zup (zup (zup (fun _ => 0) 0 0) 1 3600) 2 (-18000)) 3 20700, fun _ => 0, fun _ => (0, 0, 0), 0, 0)
theorem zO0 : mO0 = fun j => iZ (sof zS0 j) := by
  show mO0 = fun j => iZ (zup (zup (zup (zup (fun _ => 0) 0 0) 1 3600) 2 (-18000)) 3 20700 j)
  rw [← zup_upd, ← zup_upd, ← zup_upd, ← zup_upd]
  have c0 : (0 : Int32).toNatClampNeg = 0 := by decide +kernel
  have c1 : (1 : Int32).toNatClampNeg = 1 := by decide +kernel
  have c2 : (2 : Int32).toNatClampNeg = 2 := by decide +kernel
  have c3 : (3 : Int32).toNatClampNeg = 3 := by decide +kernel
  have e0 : iZ 0 = 0 := by decide +kernel
  have e1 : iZ 3600 = 3600 := by decide +kernel
  have e2 : iZ (-18000) = -18000 := by decide +kernel
  have e3 : iZ 20700 = 20700 := by decide +kernel
  unfold mO0
  rw [c0, c1, c2, c3, e0, e1, e2, e3]
theorem zN0 : mN0 = fun j => lZ (snu zS0 j) := by
  have e : lZ 0 = 0 := by decide +kernel
  funext j
  show mN0 j = lZ 0
  rw [e]
  unfold mN0 vp_updL
  dsimp only
  repeat' split
  all_goals rfl
theorem zK0 : mK0 = mKof zS0 ((0, 0, 0), (0, 0, 0)) := by
  have e : (fun _ : Nat => ((0, 0, 0) : Int64 × Int32 × Int32)) = (mKof zS0 ((0, 0, 0), (0, 0, 0))).2.2.1 := by
    funext d
    show ((0, 0, 0) : Int64 × Int32 × Int32) = if d = 7 then (0, 0, 0) else if d = 8 then (0, 0, 0) else (lZ 0, iZ 0, iZ 0)
    split
    · rfl
    · split
      · rfl
      · decide +kernel
  exact Prod.ext zO0 (Prod.ext zN0 (Prod.ext e rfl))
theorem zJ0 : mJ0 = mJof zS0 0 := by
  have e1 : (0 : Int32) = iZ 0 := by decide +kernel
  have e2 : (0 : Int32) = iZ (0 / 86400) := by decide +kernel
  have e3 : (0 : Int32) = iZ (0 % 86400) := by decide +kernel
  have el : (0 : Int64) = lZ 0 := by decide +kernel
  exact Prod.ext rfl (Prod.ext zO0 (Prod.ext (funext fun _ => el) (Prod.ext (funext fun _ => e2) (Prod.ext (funext fun _ => e3) (Prod.ext (funext fun _ => e1) (funext fun _ => e1))))))
theorem zWF0 : sWF zS0 := by
  refine ⟨fun j _ => ?_, fun j _ => ?_, fun j _ => ⟨?_, ?_⟩, fun j _ => ?_, fun j _ _ => ?_⟩
  · show rOf (zup (zup (zup (zup (fun _ => 0) 0 0) 1 3600) 2 (-18000)) 3 20700 j)
    unfold zup
    dsimp only
    repeat' split
    all_goals decide
  · show rNu 0
    decide
  · show rNa 0
    decide
  · show rOf 0
    decide
  · show rSe 0
    decide
  · show rSd 0
    decide
set_option maxHeartbeats 2000000 in
theorem law_loop {X : mC} {b L : Nat} {xs : Nat → Int32} {ad ae : Nat → Nat} {cs : ClassId × ClassId × ClassId} {ao : Nat} (hX : mOK X RL code 7 room_1 [] (mTy cs)) (hg : mHas X mNc) (hS : mScr X b L xs) (hE : mLE X b) (hL : L ≤ 3584) : ∀ (f t : Nat) (S : mS) (T : mT2) (th : Int32) (n0 : Int64) (s0 : Value) (k n : Nat), 513 ≤ f + t → 7 * t ≤ 3584 → sWF S → k ≤ 100 + t * 100 → n ≤ 1000 + t * 2500 → mV X 27 [(0, some (.ref b)), (1, some (.ref (ad 0))), (2, some (.ref (ae 0))), (3, some (.ref ao)), (4, some (.int (nI (7 * t))))] [] (mRw ad ae cs (mKof S T) (mJof S th) [(ao, .inr (4, [.long n0, s0]))]) k n := by
  intro f
  induction f with
  | zero => intro t S T th n0 s0 k n h1 h2; omega
  | succ f ih =>
    intro t S T th n0 s0 k n h1 h2 hW hk hn
    refine r_iload hX dlaw_27 rfl (r_aload_n hX dlaw_29 rfl rfl (r_slen hX hS dlaw_30 (r_bipush (v := nI 7) hX dlaw_31 (by decide) (r_isub hX dlaw_33 (r_icmp_gt (tgt := 1899) hX dlaw_34 (by decide) (fun c1 => ?_) (fun c1 => ?_))))))
    · refine r_iconst (v := 1) hX dlaw_1899 (by decide) ?_
      exact r_lawret hX hE (by first | with_reducible assumption | decide | omega) (by first | with_reducible assumption | decide | omega) dlaw_1900
    · have hi := mmore hL c1 h2
      have back : mBkZ X b ad ae cs ao t k n := by
        intro S' T' th' n1 s1 k' n' hW' hk' hn'
        refine r_iinc (x := nI (7 * t)) hX dlaw_1893 rfl (by decide) rfl (r_goto (tgt := 27) hX dlaw_1896 (by decide) (r_loc (lv' := [(0, some (.ref b)), (1, some (.ref (ad 0))), (2, some (.ref (ae 0))), (3, some (.ref ao)), (4, some (.int (nI (7 * (t + 1)))))]) (by exact ⟨rfl, rfl, rfl, rfl, by show some (Value.int (nI (7 * t) + nI 7)) = some (Value.int (nI (7 * (t + 1)))); rw [nI_add]; rfl, trivial⟩) (Nat.le_refl _) (Nat.le_refl _) ?_))
        exact ih (t + 1) S' T' th' n1 s1 k' n' (by omega) (by omega) hW' (by omega) (by omega)
      refine r_aload_n hX dlaw_37 rfl rfl (r_iload hX dlaw_38 rfl (r_sld hX hS (vp_in_nI (n := 7 * t) (by first | with_reducible assumption | decide | omega) (by first | with_reducible assumption | decide | omega)) dlaw_40 (r_bipush (v := 63) hX dlaw_41 (by decide) (r_iand hX dlaw_43 ?_))))
      generalize xs (nI (7 * t)).toNatClampNeg &&& 63 = w
      by_cases sw0 : w.toInt = 0
      · refine r_tableIn (off := 156) (tgt := 200) hX dlaw_44 (by first | with_reducible assumption | decide | omega) (by first | with_reducible assumption | decide | omega) (by rw [sw0]; rfl) (by decide) ?_
        exact law_z0 hX hg hS hE hW hL hi (by omega) (by omega) back
      by_cases sw1 : w.toInt = 1
      · refine r_tableIn (off := 196) (tgt := 240) hX dlaw_44 (by first | with_reducible assumption | decide | omega) (by first | with_reducible assumption | decide | omega) (by rw [sw1]; rfl) (by decide) ?_
        exact law_z1 hX hg hS hE hW hL hi (by omega) (by omega) back
      by_cases sw2 : w.toInt = 2
      · refine r_tableIn (off := 260) (tgt := 304) hX dlaw_44 (by first | with_reducible assumption | decide | omega) (by first | with_reducible assumption | decide | omega) (by rw [sw2]; rfl) (by decide) ?_
        exact law_z2 hX hg hS hE hW hL hi (by omega) (by omega) back
      by_cases sw3 : w.toInt = 3
      · refine r_tableIn (off := 288) (tgt := 332) hX dlaw_44 (by first | with_reducible assumption | decide | omega) (by first | with_reducible assumption | decide | omega) (by rw [sw3]; rfl) (by decide) ?_
        exact law_z3 hX hg hS hE hW hL hi (by omega) (by omega) back
      by_cases sw4 : w.toInt = 4
      · refine r_tableIn (off := 328) (tgt := 372) hX dlaw_44 (by first | with_reducible assumption | decide | omega) (by first | with_reducible assumption | decide | omega) (by rw [sw4]; rfl) (by decide) ?_
        exact law_z4 hX hg hS hE hW hL hi (by omega) (by omega) back
      by_cases sw5 : w.toInt = 5
      · refine r_tableIn (off := 380) (tgt := 424) hX dlaw_44 (by first | with_reducible assumption | decide | omega) (by first | with_reducible assumption | decide | omega) (by rw [sw5]; rfl) (by decide) ?_
        exact law_z5 hX hg hS hE hW hL hi (by omega) (by omega) back
      by_cases sw6 : w.toInt = 6
      · refine r_tableIn (off := 432) (tgt := 476) hX dlaw_44 (by first | with_reducible assumption | decide | omega) (by first | with_reducible assumption | decide | omega) (by rw [sw6]; rfl) (by decide) ?_
        exact law_z6 hX hg hS hE hW hL hi (by omega) (by omega) back
      by_cases sw7 : w.toInt = 7
      · refine r_tableIn (off := 512) (tgt := 556) hX dlaw_44 (by first | with_reducible assumption | decide | omega) (by first | with_reducible assumption | decide | omega) (by rw [sw7]; rfl) (by decide) ?_
        exact law_z7 hX hg hS hE hW hL hi (by omega) (by omega) back
      by_cases sw8 : w.toInt = 8
      · refine r_tableIn (off := 552) (tgt := 596) hX dlaw_44 (by first | with_reducible assumption | decide | omega) (by first | with_reducible assumption | decide | omega) (by rw [sw8]; rfl) (by decide) ?_
        exact law_z8 hX hg hS hE hW hL hi (by omega) (by omega) back
      by_cases sw9 : w.toInt = 9
      · refine r_tableIn (off := 608) (tgt := 652) hX dlaw_44 (by first | with_reducible assumption | decide | omega) (by first | with_reducible assumption | decide | omega) (by rw [sw9]; rfl) (by decide) ?_
        exact law_z9 hX hg hS hE hW hL hi (by omega) (by omega) back
      by_cases sw10 : w.toInt = 10
      · refine r_tableIn (off := 636) (tgt := 680) hX dlaw_44 (by first | with_reducible assumption | decide | omega) (by first | with_reducible assumption | decide | omega) (by rw [sw10]; rfl) (by decide) ?_
        exact law_z10 hX hg hS hE hW hL hi (by omega) (by omega) back
      by_cases sw11 : w.toInt = 11
      · refine r_tableIn (off := 676) (tgt := 720) hX dlaw_44 (by first | with_reducible assumption | decide | omega) (by first | with_reducible assumption | decide | omega) (by rw [sw11]; rfl) (by decide) ?_
        exact law_z11 hX hg hS hE hW hL hi (by omega) (by omega) back
      by_cases sw12 : w.toInt = 12
      · refine r_tableIn (off := 728) (tgt := 772) hX dlaw_44 (by first | with_reducible assumption | decide | omega) (by first | with_reducible assumption | decide | omega) (by rw [sw12]; rfl) (by decide) ?_
        exact law_z12 hX hg hS hE hW hL hi (by omega) (by omega) back
      by_cases sw13 : w.toInt = 13
      · refine r_tableIn (off := 768) (tgt := 812) hX dlaw_44 (by first | with_reducible assumption | decide | omega) (by first | with_reducible assumption | decide | omega) (by rw [sw13]; rfl) (by decide) ?_
        exact law_z13 hX hg hS hE hW hL hi (by omega) (by omega) back
      by_cases sw14 : w.toInt = 14
      · refine r_tableIn (off := 858) (tgt := 902) hX dlaw_44 (by first | with_reducible assumption | decide | omega) (by first | with_reducible assumption | decide | omega) (by rw [sw14]; rfl) (by decide) ?_
        exact law_z14 hX hg hS hE hW hL hi (by omega) (by omega) back
      by_cases sw15 : w.toInt = 15
      · refine r_tableIn (off := 910) (tgt := 954) hX dlaw_44 (by first | with_reducible assumption | decide | omega) (by first | with_reducible assumption | decide | omega) (by rw [sw15]; rfl) (by decide) ?_
        exact law_z15 hX hg hS hE hW hL hi (by omega) (by omega) back
      by_cases sw16 : w.toInt = 16
      · refine r_tableIn (off := 990) (tgt := 1034) hX dlaw_44 (by first | with_reducible assumption | decide | omega) (by first | with_reducible assumption | decide | omega) (by rw [sw16]; rfl) (by decide) ?_
        exact law_z16 hX hg hS hE hW hL hi (by omega) (by omega) back
      by_cases sw17 : w.toInt = 17
      · refine r_tableIn (off := 1042) (tgt := 1086) hX dlaw_44 (by first | with_reducible assumption | decide | omega) (by first | with_reducible assumption | decide | omega) (by rw [sw17]; rfl) (by decide) ?_
        exact law_z17 hX hg hS hE hW hL hi (by omega) (by omega) back
      by_cases sw18 : w.toInt = 18
      · refine r_tableIn (off := 1110) (tgt := 1154) hX dlaw_44 (by first | with_reducible assumption | decide | omega) (by first | with_reducible assumption | decide | omega) (by rw [sw18]; rfl) (by decide) ?_
        exact law_z18 hX hg hS hE hW hL hi (by omega) (by omega) back
      by_cases sw19 : w.toInt = 19
      · refine r_tableIn (off := 1150) (tgt := 1194) hX dlaw_44 (by first | with_reducible assumption | decide | omega) (by first | with_reducible assumption | decide | omega) (by rw [sw19]; rfl) (by decide) ?_
        exact law_z19 hX hg hS hE hW hL hi (by omega) (by omega) back
      by_cases sw20 : w.toInt = 20
      · refine r_tableIn (off := 1190) (tgt := 1234) hX dlaw_44 (by first | with_reducible assumption | decide | omega) (by first | with_reducible assumption | decide | omega) (by rw [sw20]; rfl) (by decide) ?_
        exact law_z20 hX hg hS hE hW hL hi (by omega) (by omega) back
      by_cases sw21 : w.toInt = 21
      · refine r_tableIn (off := 1230) (tgt := 1274) hX dlaw_44 (by first | with_reducible assumption | decide | omega) (by first | with_reducible assumption | decide | omega) (by rw [sw21]; rfl) (by decide) ?_
        exact law_z21 hX hg hS hE hW hL hi (by omega) (by omega) back
      by_cases sw22 : w.toInt = 22
      · refine r_tableIn (off := 1282) (tgt := 1326) hX dlaw_44 (by first | with_reducible assumption | decide | omega) (by first | with_reducible assumption | decide | omega) (by rw [sw22]; rfl) (by decide) ?_
        exact law_z22 hX hg hS hE hW hL hi (by omega) (by omega) back
      by_cases sw23 : w.toInt = 23
      · refine r_tableIn (off := 1346) (tgt := 1390) hX dlaw_44 (by first | with_reducible assumption | decide | omega) (by first | with_reducible assumption | decide | omega) (by rw [sw23]; rfl) (by decide) ?_
        exact law_z23 hX hg hS hE hW hL hi (by omega) (by omega) back
      by_cases sw24 : w.toInt = 24
      · refine r_tableIn (off := 1386) (tgt := 1430) hX dlaw_44 (by first | with_reducible assumption | decide | omega) (by first | with_reducible assumption | decide | omega) (by rw [sw24]; rfl) (by decide) ?_
        exact law_z24 hX hg hS hE hW hL hi (by omega) (by omega) back
      by_cases sw25 : w.toInt = 25
      · refine r_tableIn (off := 1426) (tgt := 1470) hX dlaw_44 (by first | with_reducible assumption | decide | omega) (by first | with_reducible assumption | decide | omega) (by rw [sw25]; rfl) (by decide) ?_
        exact law_z25 hX hg hS hE hW hL hi (by omega) (by omega) back
      by_cases sw26 : w.toInt = 26
      · refine r_tableIn (off := 1506) (tgt := 1550) hX dlaw_44 (by first | with_reducible assumption | decide | omega) (by first | with_reducible assumption | decide | omega) (by rw [sw26]; rfl) (by decide) ?_
        exact law_z26 hX hg hS hE hW hL hi (by omega) (by omega) back
      by_cases sw27 : w.toInt = 27
      · refine r_tableIn (off := 1574) (tgt := 1618) hX dlaw_44 (by first | with_reducible assumption | decide | omega) (by first | with_reducible assumption | decide | omega) (by rw [sw27]; rfl) (by decide) ?_
        exact law_z27 hX hg hS hE hW hL hi (by omega) (by omega) back
      by_cases sw28 : w.toInt = 28
      · refine r_tableIn (off := 1614) (tgt := 1658) hX dlaw_44 (by first | with_reducible assumption | decide | omega) (by first | with_reducible assumption | decide | omega) (by rw [sw28]; rfl) (by decide) ?_
        exact law_z28 hX hg hS hE hW hL hi (by omega) (by omega) back
      by_cases sw29 : w.toInt = 29
      · refine r_tableIn (off := 1654) (tgt := 1698) hX dlaw_44 (by first | with_reducible assumption | decide | omega) (by first | with_reducible assumption | decide | omega) (by rw [sw29]; rfl) (by decide) ?_
        exact law_z29 hX hg hS hE hW hL hi (by omega) (by omega) back
      by_cases sw30 : w.toInt = 30
      · refine r_tableIn (off := 1694) (tgt := 1738) hX dlaw_44 (by first | with_reducible assumption | decide | omega) (by first | with_reducible assumption | decide | omega) (by rw [sw30]; rfl) (by decide) ?_
        exact law_z30 hX hg hS hE hW hL hi (by omega) (by omega) back
      by_cases sw31 : w.toInt = 31
      · refine r_tableIn (off := 1782) (tgt := 1826) hX dlaw_44 (by first | with_reducible assumption | decide | omega) (by first | with_reducible assumption | decide | omega) (by rw [sw31]; rfl) (by decide) ?_
        exact law_z31 hX hg hS hE hW hL hi (by omega) (by omega) back
      by_cases sw32 : w.toInt = 32
      · refine r_tableIn (off := 1795) (tgt := 1839) hX dlaw_44 (by first | with_reducible assumption | decide | omega) (by first | with_reducible assumption | decide | omega) (by rw [sw32]; rfl) (by decide) ?_
        exact law_z32 hX hg hS hE hW hL hi (by omega) (by omega) back
      by_cases sw33 : w.toInt = 33
      · refine r_tableIn (off := 1823) (tgt := 1867) hX dlaw_44 (by first | with_reducible assumption | decide | omega) (by first | with_reducible assumption | decide | omega) (by rw [sw33]; rfl) (by decide) ?_
        exact law_z33 hX hg hS hE hW hL hi (by omega) (by omega) back
      by_cases sw34 : w.toInt = 34
      · refine r_tableIn (off := 1836) (tgt := 1880) hX dlaw_44 (by first | with_reducible assumption | decide | omega) (by first | with_reducible assumption | decide | omega) (by rw [sw34]; rfl) (by decide) ?_
        exact law_z34 hX hg hS hE hW hL hi (by omega) (by omega) back
      refine r_tableOut (tgt := 1893) hX dlaw_44 (by first | with_reducible assumption | decide | omega) (by decide) ?_
      exact back S T th n0 s0 k n hW (by omega) (by omega)
set_option maxHeartbeats 2000000 in
theorem whole_start {p : Program} {e : Env} {s : State} {m : MethodId} {below : List Frame} {meth : Method} {c : Code} (l : Launch) (hflags : l.flags = flags0) {b L : Nat} {xs : Nat → Int32} (hL : L ≤ 3584) (C0 : lw_At p s m meth c b L xs) : W p l e room_1 s m #[Value.ref b] below meth c s.heap [] 0 0 (lw_Z below #[Value.ref b] s) (entryFrame m ([Value.ref b] : List Value).toArray 7) := by
  obtain ⟨hx, hb, hr, hml, hown, hts, hXs, hbl, hlocks, htab, hgv⟩ := C0
  have hA0 : ∀ a : Nat, a < s.heap.size → ¬ (fun q : Nat => s.heap.size ≤ q) a := fun a h => Nat.not_le.mpr h
  have hm : ∀ w ∈ mW, w.before #[Value.ref b] s = true := fun w hw => hts w (List.mem_filter.mp hw).1
  obtain ⟨cs, hcs⟩ := mcs_start hm
  obtain ⟨D, hD0⟩ := mkn_start hm
  have hlt : l.stackTraces = false := by unfold Launch.stackTraces; rw [hflags]; decide +kernel
  have hX : mOK (p, l, e, room_1, s, m, #[Value.ref b], below, meth, c, lw_Z below #[Value.ref b] s, D, mTy cs, fun q : Nat => s.heap.size ≤ q) RL code 7 room_1 [] (mTy cs) := ⟨hx, hb, hml, rfl, hown, hm, ⟨hD0, hcs⟩, rfl, hlocks, fun _ h => h, mst_start hgv hts hA0, hlt, List.eq_nil_iff_forall_not_mem.mpr (fun x hx => htab x hx)⟩
  have hg : mHas (p, l, e, room_1, s, m, #[Value.ref b], below, meth, c, lw_Z below #[Value.ref b] s, D, mTy cs, fun q : Nat => s.heap.size ≤ q) mNc := mNc_start (A := fun q : Nat => s.heap.size ≤ q) hgv
  have hS : mScr (p, l, e, room_1, s, m, #[Value.ref b], below, meth, c, lw_Z below #[Value.ref b] s, D, mTy cs, fun q : Nat => s.heap.size ≤ q) b L xs := ⟨hXs, hbl, hA0 b hbl⟩
  have hE : mLE (p, l, e, room_1, s, m, #[Value.ref b], below, meth, c, lw_Z below #[Value.ref b] s, D, mTy cs, fun q : Nat => s.heap.size ≤ q) b := ⟨hr, rfl, rfl, rfl, fun _ h => h⟩
  have hl := lv_entry ([.ref b]) (n := 7) (Nat.le_of_ble_eq_true rfl)
  rw [lg_entry_eq]
  suffices hs : mV (p, l, e, room_1, s, m, #[Value.ref b], below, meth, c, lw_Z below #[Value.ref b] s, D, mTy cs, fun q : Nat => s.heap.size ≤ q) 0 [(0, some (.ref b))] [] [] 0 0 from
    hs s.heap [] _ (fun k q h => by simp at h) ⟨fun i j p q h => by simp at h, fun k q h => by simp at h⟩ va_S.rf ⟨hl.1.trans hml.symm, hl.2.1, fun i v h => hl.2.2 (i, v) (lget_mem (l := [(0, .ref b)]) h)⟩
  generalize (p, l, e, room_1, s, m, #[Value.ref b], below, meth, c, lw_Z below #[Value.ref b] s, D, mTy cs, fun q : Nat => s.heap.size ≤ q) = X at hX hg hS hE ⊢
  refine r_new (ci := 3) (fs := [.null, .null, .null, .null, .null, .null, .int 0, .int 0]) hX kinX2 tyX2_ok kl_L_8 ki_X2 kt_X2 rfl mX2z (Nat.le_of_ble_eq_true rfl) (Nat.le_of_ble_eq_true rfl) dlaw_0 (fun q1 => ?_)
  refine r_dup hX dlaw_3 rfl (r_callI hX (c_X2_init cs q1 []) kI_X2 rfl rfl (Nat.le_of_ble_eq_true rfl) ⟨(Nat.le_of_ble_eq_true rfl), (Nat.le_of_ble_eq_true rfl)⟩ ⟨(Nat.le_of_ble_eq_true rfl), (Nat.le_of_ble_eq_true rfl)⟩ dlaw_4 (fun v9 ws9 h9 => ?_))
  obtain ⟨rfl, ad, had, hw9⟩ := h9
  subst ws9 q1
  dsimp only [mPush]
  refine r_astore_n hX dlaw_7 rfl (by decide) rfl (r_new (ci := 5) (fs := [.int 0, .int 0, .int 0, .null, .null, .null, .null, .null, .null]) hX kinX4 tyX4_ok kl_L_130 ki_X4 kt_X4 rfl mX4z (Nat.le_of_ble_eq_true rfl) (Nat.le_of_ble_eq_true rfl) dlaw_8 (fun q2 => ?_))
  refine r_dup hX dlaw_11 rfl (r_callI hX (c_X4_init cs q2 _) kI_X4 rfl rfl (Nat.le_of_ble_eq_true rfl) ⟨(Nat.le_of_ble_eq_true rfl), (Nat.le_of_ble_eq_true rfl)⟩ ⟨(Nat.le_of_ble_eq_true rfl), (Nat.le_of_ble_eq_true rfl)⟩ dlaw_12 (fun v9 ws9 h9 => ?_))
  obtain ⟨rfl, ae, hae, hw9⟩ := h9
  subst ws9 q2
  dsimp only [mPush]
  refine r_astore_n hX dlaw_15 rfl (by decide) rfl (r_new (ci := 4) (fs := [.long 0, .null]) hX kinX3 tyX3_ok kl_L_14 ki_X3 kt_X3 rfl mX3z (Nat.le_of_ble_eq_true rfl) (Nat.le_of_ble_eq_true rfl) dlaw_16 (fun ao => ?_))
  refine r_dup hX dlaw_19 rfl (r_callIN hX (c_X3_init (mTy cs) _ ao) kI_X3 rfl rfl (Nat.le_of_ble_eq_true rfl) ⟨(Nat.le_of_ble_eq_true rfl), (Nat.le_of_ble_eq_true rfl)⟩ ⟨(Nat.le_of_ble_eq_true rfl), (Nat.le_of_ble_eq_true rfl)⟩ dlaw_20 (fun v9 ws9 h9 => ?_))
  obtain ⟨rfl, hw9⟩ := h9
  subst ws9
  dsimp only [mPush]
  refine r_astore_n hX dlaw_23 rfl (by decide) rfl (r_iconst (v := 0) hX dlaw_24 (by decide) (r_istore hX dlaw_25 (by decide) rfl (r_eqw (ws' := ((ao, .inr (4, [.long 0, .null])) :: mMd ae cs mJ0 (mWd ad cs mK0 [])) ++ []) (by simp) (r_part (C := mRw ad ae cs mK0 mJ0 [(ao, .inr (4, [.long 0, .null]))]) [8, 9, 10, 11, 12, 13, 14, 15, 16, 17, 18, 19, 20, 21, 1, 2, 3, 4, 5, 6, 7, 0] (by decide) rfl (r_eqw (ws' := mRw ad ae cs mK0 mJ0 [(ao, .inr (4, [.long 0, .null]))]) (by simp) ?_)))))
  exact r_loc (lv' := [(0, some (.ref b)), (1, some (.ref (ad 0))), (2, some (.ref (ae 0))), (3, some (.ref ao)), (4, some (.int (nI (7 * 0))))]) (by exact ⟨rfl, rfl, rfl, rfl, rfl, trivial⟩) (k' := 100) (n' := 1000) (by decide) (by decide) (by rw [zK0, zJ0]; exact law_loop hX hg hS hE hL 513 0 zS0 ((0, 0, 0), (0, 0, 0)) 0 0 .null _ _ (by decide) (by decide) zWF0 (by decide) (by decide))
-- the claim out of the walk (the skeleton's rows)
set_option maxHeartbeats 4000000 in
theorem lw_walk (l : Launch) (hflags : l.flags = flags0) (b : Addr) (xs : List Int32) : MetFree l x (headSpec (Jvm.Cond.code x code maxLocals ret :: tables_1) room_1) (lw_P b xs) (fun _ _ _ _ _ => True) lw_Q := by
  refine MetFree.of_bodyS (code := code) (maxLocals := maxLocals) (ret := ret) (by decide) ?_ ?_
  · intro args s m h hn
    obtain ⟨meth, c, h1, h2, h3, h4, h5, h6, -, -⟩ := Cond.code_spec hn (atoms_spec (ws := Jvm.Cond.code x code maxLocals ret :: tables_1) h _ List.mem_cons_self)
    exact ⟨meth, c, h1, h2, h3, h4, h5, h6⟩
  · intro p e s m args below meth c s₁ B hml0 hP _
    obtain ⟨rfl, hx, hbd, hgv⟩ := hP
    obtain ⟨scr, harrAt, hlist, hof, hsmall⟩ := hx
    obtain ⟨hcb, hkn, -, -⟩ := State.arrayAt?_spec harrAt
    have hown : s.vm.findClass R_law = some m.cls := findClass_of_methodNamed B.named
    have hts0 : ∀ c ∈ (Jvm.Cond.code x code maxLocals ret :: tables_1), c.before #[Value.ref b] s = true := atoms_spec (ws := Jvm.Cond.code x code maxLocals ret :: tables_1) B.pre
    have hts : ∀ w ∈ lw_tbl, w.before #[Value.ref b] s = true := k2_hts_sels lw_privs (fun w hw => hts0 w (List.mem_cons_of_mem _ hw)) lw_privs_ok
    have hml : c.maxLocals = 7 := B.maxLocals_eq (hts0 _ List.mem_cons_self)
    have X₀ : Stand p l e room_1 s m #[Value.ref b] below meth c s₁ [] 0 0 := Stand.of_body B
    have hh0 : s₁.heap = s.heap := by rw [B.state]; rfl
    have hsz : scr.slots.size = xs.length := by rw [← Array.length_toList, hlist, List.length_map]
    have hval : ∀ j : Nat, j < xs.length → scr.slots[j]? = some (.int (xs.getD j 0)) := fun j hj => by
      rw [← Array.getElem?_toList, hlist]
      simp [hj]
    have hbl : b < s.heap.size := (Array.getElem?_eq_some_iff.mp hcb).1
    have hX : va_X b xs.length (fun j => xs.getD j 0) s s.heap := ⟨scr, hcb, hof, hkn, hsz, hval⟩
    have htab : ∀ x ∈ c.exceptionTable.toList, False := by
      obtain ⟨meth9, c9, h1, h2, -, -, -, -, h7, -⟩ := Cond.code_spec B.named (hts0 _ List.mem_cons_self)
      cases Option.some.inj (h1.symm.trans B.method)
      cases Option.some.inj (h2.symm.trans (Stand.of_body B).code)
      intro x hx
      rw [Array.isEmpty_iff.mp h7] at hx
      cases hx
    have K : W p l e room_1 s m #[Value.ref b] below meth c s₁.heap [] 0 0 (lw_Z below #[Value.ref b] s) (entryFrame m ([Value.ref b] : List Value).toArray 7) := by
      rw [hh0]
      exact whole_start l hflags hbd ⟨B.exec, B.bytes, B.returns, hml, hown, hts, hX, hbl, B.notSynchronized, htab, hgv⟩
    obtain ⟨t, a1, o, b1, b2, b3⟩ := K s₁ rfl X₀
    exact ⟨t, o, a1, b1, b2, b3⟩
theorem lw_pre_spec {args : Array Value} {s : State} (h : (Jvm.Cond.and given_1 narrow_1).before args s = true) (hr : rest_1_c.before args s = true) : ∃ (b : Addr) (xs : List Int32), lw_P b xs args s := by
  have hs := flat_of_before _ h
  have hq := flat_of_before _ hr
  have hc : (Cond.count 1).before args s = true := hs _ (by decide +kernel)
  have harr : (Cond.arrayOf (.arg 0) .int).before args s = true := hs _ (by decide +kernel)
  have hle : (Cond.le (.length (.arg 0)) (.int 3584)).before args s = true := hs _ (by decide +kernel)
  have hlen : (Cond.isInt (.length (.arg 0))).before args s = true := hq _ (by decide +kernel)
  have hall : (Cond.all (.arg 0) (.isInt (.elem (.arg 0) (.index 0)))).before args s = true := hq _ (by decide +kernel)
  obtain ⟨b, xs, hb, hx⟩ := State.ints_of_pre rfl harr hlen hall
  have hsm : xs.length < 2 ^ 31 := hx.choose_spec.2.2.2
  have hev : (Term.length (.arg 0)).eval args s none [] s = some (.int xs.length.toInt32) := hx.length_eval hb
  have hv := Cond.le_ints hev (show (Term.int 3584).eval args s none [] s = some (.int 3584) from rfl)
  have hd : xs.length.toInt32 ≤ 3584 := by
    simpa [Cond.before, Cond.holds, hv] using hle
  have hN : xs.length ≤ 3584 := (Int32.ofNat_le_ofNat hsm (by decide)).mp (show Int32.ofNat xs.length ≤ Int32.ofNat 3584 from hd)
  exact ⟨b, xs, Cond.one_arg hc (show args[0]? = some (.ref b) from hb), hx, hN, h⟩
theorem lw_comes (l : Launch) (hflags : l.flags = flags0) : Comes l x (Jvm.Cond.code x code maxLocals ret :: tables_1) room_1 (fun tb e args s => Calls_1 tb e args s ∧ rest_1 tb e args s ∧ Pre_1 tb e args s)
    (fun _ _ args s o t => lw_Q args s o t) := by
  intro p e ha hc hk s m args below hf hfit hheap happ hpre
  obtain ⟨b, xs, hP⟩ := lw_pre_spec hpre.2.2 hpre.2.1
  obtain ⟨k, o, h1, h2, h3, hQ⟩ := lw_walk l hflags b xs p e ha hc hk s m args below hf ((Spec.applies_iff_loose hf).mp happ).1 hP trivial
  exact ⟨k, o, h1, h2, h3, hQ⟩
theorem lw_frame {s t : State} {o : Outcome} {args : Array Value} (h : Framed s o t [] 652172 7139589) :
    Framed s o t (fieldLocs frame_1_writes args s ++ arrayLocs frame_1_arrays args s ++ staticLocs frame_1_statics s) 652172 7139589 := h
theorem lw_limb (L : Cond) (hL : ∀ (args : Array Value) (s t : State), L.after args s (.returned (some (.int 1))) t = true) :
    ArmFor flags0 classFile x code maxLocals ret World_1 tables_1 room_1 Calls_1 rest_1 Pre_1
      (fun tb e a s o t => postC L tb e a s o t ∧ Framed s o t (fieldLocs frame_1_writes a s ++ arrayLocs frame_1_arrays a s ++ staticLocs frame_1_statics s) 652172 7139589) := by
  intro l hflags _ _ p e ha hc hk s m args below hf hfit hheap happ hpre
  obtain ⟨k, o, h1, h2, h3, rfl, hF⟩ := lw_comes l hflags p e ha hc hk s m args below hf hfit hheap happ hpre
  exact ⟨k, _, h1, h2, h3, hL args s _, lw_frame hF⟩
theorem i_vc : Claimed_1_1 ∧ Claimed_1_2 := ⟨lw_limb limb_1_1 (fun args s t => by simp [limb_1_1, Cond.after, Cond.holds, Cond.value]), lw_limb limb_1_2 (fun args s t => Cond.after_iff.mpr (by
  first | (rw [show limb_1_2 = Cond.eq .result (.int 1) from rfl, Cond.eq_ints (x := 1) (y := 1) rfl rfl]; simp; done) | (simp [limb_1_2, Cond.value, Term.eval]; done)))⟩

