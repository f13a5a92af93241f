/-! THE WORLD OF A DESK, and the shapes of its contracts. (Own work.) -/
/-- what a desk holds: its offsets, its moments, its local times (DATEDs 0 to 3, CLOCKs 4 to 6, the two tried ones 7 and 8), how often it knocked and refused -/
abbrev mK : Type := (Nat → Int32) × (Nat → Int64) × (Nat → Int64 × Int32 × Int32) × Int32 × Int32
def mLc (x : Int64 × Int32 × Int32) : va_E := .inr (2, [.long x.1, .int x.2.1, .int x.2.2])
def mWd (ad : Nat → Nat) (cs : ClassId × ClassId × ClassId) (K : mK) (rest : va_W) : va_W :=
  (ad 0, .inr (3, [.ref (ad 1), .ref (ad 2), .ref (ad 3), .ref (ad 4), .ref (ad 12), .ref (ad 13), .int K.2.2.2.1, .int K.2.2.2.2])) ::
  (ad 1, .inl (cs.1, 4, .inl K.1)) :: (ad 2, .inl (cs.2.1, 4, .inr (.inl K.2.1))) ::
  (ad 3, .inl (cs.2.2, 4, .inr (.inr (.inr (.inr (fun j => some (ad (j + 0 + 5)))))))) ::
  (ad 4, .inl (cs.2.2, 3, .inr (.inr (.inr (.inr (fun j => some (ad (j + 4 + 5)))))))) ::
  (ad 5, mLc (K.2.2.1 0)) :: (ad 6, mLc (K.2.2.1 1)) :: (ad 7, mLc (K.2.2.1 2)) :: (ad 8, mLc (K.2.2.1 3)) :: (ad 9, mLc (K.2.2.1 4)) :: (ad 10, mLc (K.2.2.1 5)) :: (ad 11, mLc (K.2.2.1 6)) :: (ad 12, mLc (K.2.2.1 7)) :: (ad 13, mLc (K.2.2.1 8)) :: rest
def mTy (cs : ClassId × ClassId × ClassId) : List (ClassId × FieldType) := [(cs.1, .int), (cs.2.1, .long), (cs.2.2, .object RX1)]
def mKL (K : mK) (d : Nat) (x : Int64 × Int32 × Int32) : mK := (K.1, K.2.1, fun j => if j = d then x else K.2.2.1 j, K.2.2.2)
theorem mWd_loc {ad : Nat → Nat} {cs : ClassId × ClassId × ClassId} {K : mK} {rest : va_W} {d : Nat} (hd : d < 9) : (mWd ad cs K rest)[d + 5]? = some (ad (d + 5), .inr (2, [.long (K.2.2.1 d).1, .int (K.2.2.1 d).2.1, .int (K.2.2.1 d).2.2])) := by
  rcases (show d = 0 ∨ d = 1 ∨ d = 2 ∨ d = 3 ∨ d = 4 ∨ d = 5 ∨ d = 6 ∨ d = 7 ∨ d = 8 by omega) with rfl | rfl | rfl | rfl | rfl | rfl | rfl | rfl | rfl <;> rfl
theorem mWd_set {ad : Nat → Nat} {cs : ClassId × ClassId × ClassId} {K : mK} {rest : va_W} {d : Nat} {s : Int64} {n o : Int32} (hd : d < 9) : (mWd ad cs K rest).set (d + 5) (ad (d + 5), .inr (2, [.long s, .int n, .int o])) = mWd ad cs (mKL K d (s, n, o)) rest := by
  rcases (show d = 0 ∨ d = 1 ∨ d = 2 ∨ d = 3 ∨ d = 4 ∨ d = 5 ∨ d = 6 ∨ d = 7 ∨ d = 8 by omega) with rfl | rfl | rfl | rfl | rfl | rfl | rfl | rfl | rfl <;> simp [mWd, mKL, mLc]
def mB (r : Int32) : Prop := r = 0 ∨ r = 1
theorem mB_n {r : Int32} (h : mB r) : narrow .boolean (.int r) = .int r := by rcases h with rfl | rfl <;> decide
def mRl (ws : va_W) : Option Value → va_W → Prop := fun v ws' => ∃ r : Int64, v = some (.long r) ∧ ws' = ws
abbrev mNo : String → va_W → Prop := fun _ _ => False
def xI : String := "java/lang/IndexOutOfBoundsException"
def xA : String := "java/lang/IllegalArgumentException"
/-- it threw one of these, and nothing was written -/
def mTh (es : List String) (ws : va_W) : String → va_W → Prop := fun E ws' => E ∈ es ∧ ws' = ws
def mlok (lv : List (Nat × Option Value)) : List (Nat × Option Value) → Prop
  | [] => True
  | (i, v) :: r => lget lv i = v ∧ mlok lv r
theorem mlok_to {lv : List (Nat × Option Value)} : ∀ {lv' : List (Nat × Option Value)}, mlok lv lv' → ∀ q ∈ lv', q.2 = none ∨ lget lv q.1 = q.2
  | [], _, q, hq => nomatch hq
  | (i, v) :: r, h, q, hq => by
    rcases List.mem_cons.mp hq with rfl | h2
    · exact Or.inr h.1
    · exact mlok_to h.2 q h2
theorem r_loc {X : mC} {pc : Nat} {lv lv' : List (Nat × Option Value)} {st : List Value} {ws : va_W} {k n k' n' : Nat} (h : mlok lv lv') (hk : k ≤ k') (hn : n ≤ n') (kk : mV X pc lv' st ws k' n') : mV X pc lv st ws k n := r_wide hk hn (r_lv (mlok_to h) kk)
theorem nI_inc' (j : Nat) : some (Value.int (nI j + Int32.ofInt 1)) = some (Value.int (nI (j + 1))) := by rw [← nI_1 j]; rfl
section MW
variable {X : mC} {own : String} {cc : ByteArray} {nL : Nat} {R : Room} {hh : List (Nat × Nat × Nat × Nat)} {tys : List (ClassId × FieldType)} {pc : Nat} {lv : List (Nat × Option Value)} {st : List Value} {ws : va_W} {k n : Nat}
variable {Φ : Option Value → va_W → Prop} {Ψ : String → va_W → Prop} {mc ms : Nat} {ret : Option FieldType}

theorem r_ixor {x y : Int32} (hX : mOK X own cc nL R hh tys) (hd : decode cc pc = .ok (.ixor, 1)) (kk : mV X (pc + 1) lv (.int (x ^^^ y) :: st) ws k n) : mV X pc lv (.int y :: .int x :: st) ws k n := by
  obtain ⟨p, l, e, R', s, m, args, below, meth, c, Q, D, tys', A⟩ := X
  obtain ⟨hx, hb, hml, hR, hown, hts, hK, hty, hlk, hA, hst, hlt, htab⟩ := hX
  exact fun H locs ls hP hD hS hl => lv_ixor hx hb hd (kk H locs ls hP hD hS hl)

theorem r_lxor {x y : Int64} (hX : mOK X own cc nL R hh tys) (hd : decode cc pc = .ok (.lxor, 1)) (kk : mV X (pc + 1) lv (.long (x ^^^ y) :: st) ws k n) : mV X pc lv (.long y :: .long x :: st) ws k n := by
  obtain ⟨p, l, e, R', s, m, args, below, meth, c, Q, D, tys', A⟩ := X
  obtain ⟨hx, hb, hml, hR, hown, hts, hK, hty, hlk, hA, hst, hlt, htab⟩ := hX
  exact fun H locs ls hP hD hS hl => lv_lxor hx hb hd (kk H locs ls hP hD hS hl)

theorem mMet {l : Launch} {y : MethodName} {ws : List Cond} {rm : Room} {Pc : Array Value → State → Prop} {Qc : Array Value → State → Outcome → State → Prop} {XC : String → State → State → Prop} {mc ms : Nat} {free : Addr → Prop} (h : vx_Met l y ws rm Pc Qc XC mc ms free) (hx : ∀ E st t, ¬ XC E st t) : Met l y ws rm Pc Qc mc ms free := by
  intro p e ha hc hk s m args below hf happ hP hK
  obtain ⟨n, o, h1, h2, h3, h4⟩ := h p e ha hc hk s m args below hf happ hP hK
  rcases h4 with h4 | ⟨q, rfl, E, ce, L, hx', -⟩
  · exact ⟨n, o, h1, h2, h3, h4⟩
  · exact absurd hx' (hx _ _ _)
theorem r_callN {host : String} {y : MethodName} {b : ByteArray} {nL2 idx cnt : Nat} {ret2 : Option FieldType} {rm : Room} {as rest : List Value} {Φ2 : Option Value → va_W → Prop} (hX : mOK X own cc nL R hh tys) (hc : mCt tys y b nL2 ret2 rm as ws Φ2 mNo) (hw : mWN own host idx y b nL2 ret2 cnt) (hst0 : st = as.reverse ++ rest) (hlen : as.length = cnt) (hro : (rest.map fun v => v.category).sum ≤ 8) (hrm : rm.frames + 1 ≤ R.frames ∧ 8 + (nL2 + 11) + rm.locals ≤ R.locals) (hce : k + rm.cells ≤ R.cells ∧ n + rm.slots ≤ R.slots) (hd : decode cc pc = .ok (.invokestatic idx, 3)) (kx : String → va_W → False → False) (kk : ∀ v ws', Φ2 v ws' → mV X (pc + 3) lv (mPush v rest) ws' (k + rm.cells) (n + rm.slots)) : mV X pc lv st ws k n := by
  obtain ⟨p, l, e, R', s, m, args, below, meth, c, Q, D, tys', A⟩ := X
  obtain ⟨hx, hb, hml, hR, hown, hts, hK, hty, hlk, hA, hst, hlt, htab⟩ := hX
  obtain ⟨w1, w2, w3, w4, w5, w6⟩ := hw
  subst hR
  intro H locs ls hP hD hS hl
  have hrun := va_runSN (own := own) (host := host) (index := idx) (cells := k) (slots := n) (locs := locs) (e := e) (below := below) (meth := meth) (rest := rest) (g := F0 m pc ls st) ⟨hx, hb, hml, hown, hts⟩ (mMet (hc l D A hlt) (fun E st t h => by obtain ⟨_, h, _⟩ := h; exact h)) ⟨⟨⟨rfl, rfl, hrm.1, hrm.2, mWords hts w4, List.mem_cons_self⟩, hts _ w4, hts _ w3, w5, mCount w6, hts _ w1⟩, hts _ w2, trivial⟩ ⟨mU_blind, fun U hU hW => ⟨rfl, mU_at hP hD hS hK hA hst hU hW⟩⟩ rfl hlen (hl.1.trans hml) hst0 (lv_room hro) hd hce
  intro T hT Y
  obtain ⟨v, st₀, t, T', L, h0, Y', hL, e1, e2, ⟨v', ws', hv, hp, hP', hD', hF⟩, stp⟩ := hrun T hT Y
  cases hv
  obtain ⟨-, -, k3⟩ := vx_keep h0 e1 hS (fun _ _ h => h) (fun _ h => h) hL hF
  obtain ⟨t2, a1, b1⟩ := kk v ws' hp T'.heap (locs ++ L) ls (by rw [e1]; exact hP') hD' k3 hl T' rfl Y'
  rw [← mPush_eq] at a1
  exact ⟨t2, stp t2 a1, b1⟩
end MW
