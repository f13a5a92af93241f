/-! THE DESK'S STATE AS NUMBERS: what the class's cells and the reference's cells both mean. (Own work.) -/
/-- offsets; numbers of the moments; local times (second, nano, own offset): the DATEDs 0 to 3, the CLOCKs 4 to 6; knocks; refusals -/
abbrev mS : Type := (Nat → Int) × (Nat → Int) × (Nat → Int × Int × Int) × Int32 × Int32
def sof (S : mS) (j : Nat) : Int := S.1 j
def snu (S : mS) (j : Nat) : Int := S.2.1 j
def sse (S : mS) (d : Nat) : Int := (S.2.2.1 d).1
def sna (S : mS) (d : Nat) : Int := (S.2.2.1 d).2.1
def sow (S : mS) (d : Nat) : Int := (S.2.2.1 d).2.2
def zup {α : Type} (f : Nat → α) (i : Nat) (x : α) : Nat → α := fun j => if j = i then x else f j
theorem zup_eq {α : Type} {f : Nat → α} {i : Nat} {x : α} : zup f i x i = x := if_pos rfl
theorem zup_ne {α : Type} {f : Nat → α} {i j : Nat} {x : α} (h : ¬ j = i) : zup f i x j = f j := if_neg h
def sOf (S : mS) (j : Nat) (z : Int) : mS := (zup S.1 j z, S.2)
def sNu (S : mS) (j : Nat) (z : Int) : mS := (S.1, zup S.2.1 j z, S.2.2)
def sLo (S : mS) (d : Nat) (x : Int × Int × Int) : mS := (S.1, S.2.1, zup S.2.2.1 d x, S.2.2.2)
def sKn (S : mS) : mS := (S.1, S.2.1, S.2.2.1, S.2.2.2.1 + 1, S.2.2.2.2)
def sRf (S : mS) : mS := (S.1, S.2.1, S.2.2.1, S.2.2.2.1, S.2.2.2.2 + 1)
abbrev rOf (z : Int) : Prop := -64800 ≤ z ∧ z ≤ 64800
abbrev rNu (z : Int) : Prop := -1800000000000000000 ≤ z ∧ z ≤ 1800000000999999999
abbrev rNa (z : Int) : Prop := 0 ≤ z ∧ z ≤ 999999999
abbrev rSe (z : Int) : Prop := -1893456000 ≤ z ∧ z ≤ 1924991999
abbrev rSd (z : Int) : Prop := 0 ≤ z ∧ z ≤ 86399
/-- what always holds of a desk -/
def sWF (S : mS) : Prop := (∀ j, j < 4 → rOf (sof S j)) ∧ (∀ j, j < 4 → rNu (snu S j)) ∧ (∀ d, d < 7 → rNa (sna S d) ∧ rOf (sow S d)) ∧ (∀ d, d < 4 → rSe (sse S d)) ∧ (∀ d, 4 ≤ d → d < 7 → rSd (sse S d))
theorem sWF.se {S : mS} (h : sWF S) {d : Nat} (hd : d < 7) : rSe (sse S d) := by
  rcases Nat.lt_or_ge d 4 with q | q
  · exact h.2.2.2.1 d q
  · have := h.2.2.2.2 d q hd
    omega
theorem sWF.of {S : mS} (h : sWF S) {j : Nat} {z : Int} (hz : rOf z) : sWF (sOf S j z) := by
  refine ⟨fun i hi => ?_, h.2⟩
  by_cases e : i = j
  · subst e; show rOf (zup S.1 i z i); rw [zup_eq]; exact hz
  · show rOf (zup S.1 j z i); rw [zup_ne e]; exact h.1 i hi
theorem sWF.nu {S : mS} (h : sWF S) {j : Nat} {z : Int} (hz : rNu z) : sWF (sNu S j z) := by
  refine ⟨h.1, fun i hi => ?_, h.2.2⟩
  by_cases e : i = j
  · subst e; show rNu (zup S.2.1 i z i); rw [zup_eq]; exact hz
  · show rNu (zup S.2.1 j z i); rw [zup_ne e]; exact h.2.1 i hi
theorem sWF.lo {S : mS} (h : sWF S) {d : Nat} {x : Int × Int × Int} (h1 : d < 4 → rSe x.1) (h2 : 4 ≤ d → rSd x.1) (h3 : rNa x.2.1) (h4 : rOf x.2.2) : sWF (sLo S d x) := by
  refine ⟨h.1, h.2.1, fun i hi => ?_, fun i hi => ?_, fun i h5 hi => ?_⟩
  · by_cases e : i = d
    · subst e; show rNa (zup S.2.2.1 i x i).2.1 ∧ rOf (zup S.2.2.1 i x i).2.2; rw [zup_eq]; exact ⟨h3, h4⟩
    · show rNa (zup S.2.2.1 d x i).2.1 ∧ rOf (zup S.2.2.1 d x i).2.2; rw [zup_ne e]; exact h.2.2.1 i hi
  · by_cases e : i = d
    · subst e; show rSe (zup S.2.2.1 i x i).1; rw [zup_eq]; exact h1 hi
    · show rSe (zup S.2.2.1 d x i).1; rw [zup_ne e]; exact h.2.2.2.1 i hi
  · by_cases e : i = d
    · subst e; show rSd (zup S.2.2.1 i x i).1; rw [zup_eq]; exact h2 h5
    · show rSd (zup S.2.2.1 d x i).1; rw [zup_ne e]; exact h.2.2.2.2 i h5 hi
theorem sWF.rf {S : mS} (h : sWF S) : sWF (sRf S) := h
theorem sWF.kn {S : mS} (h : sWF S) : sWF (sKn S) := h
/-- the two local times on which the class tries -/
abbrev mT2 : Type := (Int64 × Int32 × Int32) × (Int64 × Int32 × Int32)
/-- the class's cells -/
def mKof (S : mS) (T : mT2) : mK := (fun j => iZ (sof S j), fun j => lZ (snu S j), fun d => if d = 7 then T.1 else if d = 8 then T.2 else (lZ (sse S d), iZ (sna S d), iZ (sow S d)), S.2.2.2.1, S.2.2.2.2)
/-- the reference's cells -/
def mJof (S : mS) (th : Int32) : mJ := ((th, S.2.2.2.1, S.2.2.2.2), fun j => iZ (sof S j), fun j => lZ (snu S j), fun d => iZ (sse S d / 86400), fun d => iZ (sse S d % 86400), fun d => iZ (sna S d), fun d => iZ (sow S d))
theorem mKof_d {S : mS} {T : mT2} {d : Nat} (hd : d < 7) : (mKof S T).2.2.1 d = (lZ (sse S d), iZ (sna S d), iZ (sow S d)) := by
  show (if d = 7 then T.1 else if d = 8 then T.2 else (lZ (sse S d), iZ (sna S d), iZ (sow S d))) = _
  rw [if_neg (by omega), if_neg (by omega)]
theorem zWd_loc {ad : Nat → Nat} {cs : ClassId × ClassId × ClassId} {S : mS} {T : mT2} {rest : va_W} {d : Nat} (hd : d < 7) : (mWd ad cs (mKof S T) rest)[d + 5]? = some (ad (d + 5), .inr (2, [.long (lZ (sse S d)), .int (iZ (sna S d)), .int (iZ (sow S d))])) := by
  rw [mWd_loc (by omega), mKof_d hd]
theorem zWd_set {ad : Nat → Nat} {cs : ClassId × ClassId × ClassId} {S : mS} {T : mT2} {rest : va_W} {d : Nat} {a b c : Int} (hd : d < 7) : (mWd ad cs (mKof S T) rest).set (d + 5) (ad (d + 5), .inr (2, [.long (lZ a), .int (iZ b), .int (iZ c)])) = mWd ad cs (mKof (sLo S d (a, b, c)) T) rest := by
  rw [mWd_set (by omega)]
  have e : mKL (mKof S T) d (lZ a, iZ b, iZ c) = mKof (sLo S d (a, b, c)) T := by
    have e2 : (fun j => if j = d then (lZ a, iZ b, iZ c) else (mKof S T).2.2.1 j) = (mKof (sLo S d (a, b, c)) T).2.2.1 := by
      funext j
      by_cases h : j = d
      · subst h
        show (if j = j then (lZ a, iZ b, iZ c) else (mKof S T).2.2.1 j) = (if j = 7 then T.1 else if j = 8 then T.2 else (lZ (zup S.2.2.1 j (a, b, c) j).1, iZ (zup S.2.2.1 j (a, b, c) j).2.1, iZ (zup S.2.2.1 j (a, b, c) j).2.2))
        rw [if_pos rfl, if_neg (by omega), if_neg (by omega), zup_eq]
      · show (if j = d then (lZ a, iZ b, iZ c) else (mKof S T).2.2.1 j) = (if j = 7 then T.1 else if j = 8 then T.2 else (lZ (zup S.2.2.1 d (a, b, c) j).1, iZ (zup S.2.2.1 d (a, b, c) j).2.1, iZ (zup S.2.2.1 d (a, b, c) j).2.2))
        rw [if_neg h, zup_ne h]
        rfl
    show ((mKof S T).1, (mKof S T).2.1, (fun j => if j = d then (lZ a, iZ b, iZ c) else (mKof S T).2.2.1 j), (mKof S T).2.2.2) = _
    rw [e2]
    rfl
  rw [e]
def va_E_ (x : Int × Int × Int) : va_E := .inr (2, [.long (lZ x.1), .int (iZ x.2.1), .int (iZ x.2.2)])
/-- a told local time, read -/
theorem zWd_new {ad : Nat → Nat} {cs : ClassId × ClassId × ClassId} {S : mS} {T : mT2} {rest : va_W} {d : Nat} {a b c : Int} (hd : d < 7) : (mWd ad cs (mKof (sLo S d (a, b, c)) T) rest)[d + 5]? = some (ad (d + 5), .inr (2, [.long (lZ a), .int (iZ b), .int (iZ c)])) := by
  rw [zWd_loc hd]
  show some (ad (d + 5), va_E_ (zup S.2.2.1 d (a, b, c) d)) = _
  rw [zup_eq]
  rfl
theorem zup_upd {f : Nat → Int} {j : Nat} {z : Int} : upd (fun i => iZ (f i)) j (iZ z) = fun i => iZ (zup f j z i) := by
  funext i
  show (if i = j then iZ z else iZ (f i)) = iZ (if i = j then z else f i)
  split <;> rfl
theorem zup_updL {f : Nat → Int} {j : Nat} {z : Int} : vp_updL (fun i => lZ (f i)) j (lZ z) = fun i => lZ (zup f j z i) := by
  funext i
  show (if i = j then lZ z else lZ (f i)) = lZ (if i = j then z else f i)
  split <;> rfl
theorem zK_num {S : mS} {T : mT2} {j : Nat} {z : Int} : ((mKof S T).1, vp_updL (mKof S T).2.1 j (lZ z), (mKof S T).2.2) = mKof (sNu S j z) T := by
  show ((mKof S T).1, vp_updL (fun i => lZ (snu S i)) j (lZ z), (mKof S T).2.2) = _
  rw [zup_updL]
  rfl
theorem zK_off {S : mS} {T : mT2} {j : Nat} {z : Int} : (upd (mKof S T).1 j (iZ z), (mKof S T).2) = mKof (sOf S j z) T := by
  show (upd (fun i => iZ (sof S i)) j (iZ z), (mKof S T).2) = _
  rw [zup_upd]
  rfl
theorem zWd_num {ad : Nat → Nat} {cs : ClassId × ClassId × ClassId} {S : mS} {T : mT2} {rest : va_W} {j : Nat} {z : Int} : (mWd ad cs (mKof S T) rest).set 2 (ad 2, .inl (cs.2.1, 4, .inr (.inl (vp_updL (mKof S T).2.1 j (lZ z))))) = mWd ad cs (mKof (sNu S j z) T) rest := by
  rw [← zK_num]
  rfl
theorem zWd_off {ad : Nat → Nat} {cs : ClassId × ClassId × ClassId} {S : mS} {T : mT2} {rest : va_W} {j : Nat} {z : Int} : (mWd ad cs (mKof S T) rest).set 1 (ad 1, .inl (cs.1, 4, .inl (upd (mKof S T).1 j (iZ z)))) = mWd ad cs (mKof (sOf S j z) T) rest := by
  rw [← zK_off]
  rfl
theorem zrg {S : mS} (h : sWF S) {d : Nat} (hd : d < 7) : (-100000000000 ≤ sse S d ∧ sse S d ≤ 100000000000) ∧ (0 ≤ sna S d ∧ sna S d ≤ 999999999) ∧ (-64800 ≤ sow S d ∧ sow S d ≤ 64800) := by
  have h1 := h.se hd
  have h2 := h.2.2.1 d hd
  exact ⟨by omega, h2.1, h2.2⟩
/-- the three ways in which a call changes a desk -/
def oNum (S : mS) (j : Nat) (z : Int) : Int × mS := if -1800000000000000000 ≤ z ∧ z ≤ 1800000000999999999 then (z % 1000000000, sNu S j z) else (-9, sRf S)
def oLoc (S : mS) (d : Nat) (z n o : Int) : Int × mS := if -1893456000 ≤ z ∧ z ≤ 1924991999 then (z / 86400, sLo S d (z, n, o)) else (-9, sRf S)
def oClk (S : mS) (c : Nat) (z n o : Int) : Int × mS := (z % 86400 - o, sLo S (c + 4) (z % 86400, n, o))
theorem oNum_y {S : mS} {j : Nat} {z : Int} (h : -1800000000000000000 ≤ z ∧ z ≤ 1800000000999999999) : oNum S j z = (z % 1000000000, sNu S j z) := if_pos h
theorem oNum_n {S : mS} {j : Nat} {z : Int} (h : ¬ (-1800000000000000000 ≤ z ∧ z ≤ 1800000000999999999)) : oNum S j z = (-9, sRf S) := if_neg h
theorem oLoc_y {S : mS} {d : Nat} {z n o : Int} (h : -1893456000 ≤ z ∧ z ≤ 1924991999) : oLoc S d z n o = (z / 86400, sLo S d (z, n, o)) := if_pos h
theorem oLoc_n {S : mS} {d : Nat} {z n o : Int} (h : ¬ (-1893456000 ≤ z ∧ z ≤ 1924991999)) : oLoc S d z n o = (-9, sRf S) := if_neg h
theorem sWF.oNum {S : mS} (h : sWF S) {j : Nat} {z : Int} : sWF (oNum S j z).2 := by
  by_cases q : -1800000000000000000 ≤ z ∧ z ≤ 1800000000999999999
  · rw [oNum_y q]; exact h.nu q
  · rw [oNum_n q]; exact h.rf
theorem sWF.oLoc {S : mS} (h : sWF S) {d : Nat} {z n o : Int} (hd : d < 4) (hn : rNa n) (ho : rOf o) : sWF (oLoc S d z n o).2 := by
  by_cases q : -1893456000 ≤ z ∧ z ≤ 1924991999
  · rw [oLoc_y q]; exact h.lo (fun _ => q) (fun q2 => absurd hd (by omega)) hn ho
  · rw [oLoc_n q]; exact h.rf
theorem sWF.oClk {S : mS} (h : sWF S) {c : Nat} {z n o : Int} (hn : rNa n) (ho : rOf o) : sWF (oClk S c z n o).2 :=
  h.lo (fun q => absurd q (by omega)) (fun _ => by show 0 ≤ z % 86400 ∧ z % 86400 ≤ 86399; omega) hn ho

