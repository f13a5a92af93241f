/-! LEAVES, exact. (Own work.) -/
theorem mCt.mono {tys : List (ClassId × FieldType)} {y : MethodName} {cc : ByteArray} {nL : Nat} {ret : Option FieldType} {rm : Room} {as : List Value} {ws : va_W} {Φ Φ' : Option Value → va_W → Prop} {Ψ Ψ' : String → va_W → Prop} (h : mCt tys y cc nL ret rm as ws Φ Ψ) (hΦ : ∀ v w, Φ v w → Φ' v w) (hΨ : ∀ E w, Ψ E w → Ψ' E w) : mCt tys y cc nL ret rm as ws Φ' Ψ' := by
  intro l D A hl p e ha hc hk s m args below hf happ hP hK
  obtain ⟨n, o, h1, h2, h3, h4⟩ := h l D A hl p e ha hc hk s m args below hf happ hP hK
  refine ⟨n, o, h1, h2, h3, ?_⟩
  rcases h4 with ⟨⟨v, ws', e1, p1, r1⟩, h5⟩ | ⟨q, e1, E, ce, L, ⟨ws', p1, r1⟩, h5⟩
  · exact Or.inl ⟨⟨v, ws', e1, hΦ _ _ p1, r1⟩, h5⟩
  · exact Or.inr ⟨q, e1, E, ce, L, ⟨ws', hΨ _ _ p1, r1⟩, h5⟩
theorem mCt.to {tys : List (ClassId × FieldType)} {y : MethodName} {cc : ByteArray} {nL : Nat} {ret : Option FieldType} {rm : Room} {as : List Value} {ws : va_W} {Φ Φ' : Option Value → va_W → Prop} (h : mCt tys y cc nL ret rm as ws Φ mNo) (hΦ : ∀ v w, Φ v w → Φ' v w) : mCt tys y cc nL ret rm as ws Φ' mNo := h.mono hΦ (fun _ _ z => z)
abbrev rL (z : Int) : Prop := -9223372036854775808 ≤ z ∧ z ≤ 9223372036854775807
abbrev rJ (z : Int) : Prop := -2147483648 ≤ z ∧ z ≤ 2147483647
theorem z_X2_isWithin (tys : List (ClassId × FieldType)) (ws : va_W) (x a b : Int) (hx : rL x) (ha : rL a) (hb : rL b) : mCt tys yX2_isWithin cX2_isWithin 6 (some .boolean) ⟨0, 0, 0, 0⟩ [.long (lZ x), .long (lZ a), .long (lZ b)] ws (fun v ws' => v = some (.int (b2i (decide (a ≤ x ∧ x ≤ b)))) ∧ ws' = ws) mNo := by
  rw [← f_within_Z hx ha hb]
  exact c_X2_isWithin _ _ _ _ _
theorem z_X4_isIn (tys : List (ClassId × FieldType)) (ws : va_W) (x a b : Int) (hx : rL x) (ha : rL a) (hb : rL b) : mCt tys yX4_isIn cX4_isIn 6 (some .boolean) ⟨0, 0, 0, 0⟩ [.long (lZ x), .long (lZ a), .long (lZ b)] ws (fun v ws' => v = some (.int (b2i (decide (a ≤ x ∧ x ≤ b)))) ∧ ws' = ws) mNo := by
  rw [← f_within_Z hx ha hb]
  exact c_X4_isIn _ _ _ _ _
theorem iZ_in {a : Int} {N : Nat} (ha : rJ a) (hN : N < 2 ^ 31) : (0 ≤ a ∧ a < N) ↔ ∃ j, j < N ∧ iZ a = nI j := by
  constructor
  · intro h
    exact ⟨a.toNat, by omega, by rw [iZ_nI]; congr 1; omega⟩
  · rintro ⟨j, hj, e⟩
    rw [iZ_nI, iZ_inj ha (by omega)] at e
    omega
theorem z_X2_requireOne (tys : List (ClassId × FieldType)) (ws : va_W) (a : Int) (N : Nat) (ha : rJ a) (hN : N < 2 ^ 31) : mCt tys yX2_requireOne cX2_requireOne 2 none ⟨6, 1, 6, 82⟩ [.int (iZ a), .int (iZ N)] ws (fun v ws' => (0 ≤ a ∧ a < N) ∧ v = none ∧ ws' = ws) (fun E ws' => E = xI ∧ ws' = ws ∧ ¬ (0 ≤ a ∧ a < N)) := by
  rw [← iZ_nI N]
  refine (c_X2_requireOne tys ws (iZ a) N hN).mono (fun v w h => ?_) (fun E w h => ?_)
  · obtain ⟨j, h1, h2, h3, h4⟩ := h
    exact ⟨(iZ_in ha hN).mpr ⟨j, h1, h2⟩, h3, h4⟩
  · exact ⟨h.1, h.2.1, fun q => h.2.2 ((vp_in_Zi ha).mpr q)⟩
theorem z_X2_requireOne_ok (tys : List (ClassId × FieldType)) (ws : va_W) (a : Int) (N : Nat) (hN : N < 2 ^ 31) (h : 0 ≤ a ∧ a < N) : mCt tys yX2_requireOne cX2_requireOne 2 none ⟨0, 0, 0, 0⟩ [.int (iZ a), .int (iZ N)] ws (fun v ws' => v = none ∧ ws' = ws) mNo := by
  have e : iZ a = nI a.toNat := by rw [iZ_nI]; congr 1; omega
  rw [← iZ_nI N, e]
  exact c_X2_requireOne_ok tys ws N hN a.toNat (by omega)
theorem iZ_wit {a l m : Int} (ha : rJ a) (hl : rJ l) (hm : rJ m) : (iZ l ≤ iZ a ∧ iZ a ≤ iZ m) ↔ (l ≤ a ∧ a ≤ m) := by
  rw [iZ_le hl.1 (by omega) ha.1 (by omega), iZ_le ha.1 (by omega) hm.1 (by omega)]
theorem z_X2_requireWithin (tys : List (ClassId × FieldType)) (ws : va_W) (a l m : Int) (ha : rJ a) (hl : rJ l) (hm : rJ m) : mCt tys yX2_requireWithin cX2_requireWithin 3 none ⟨6, 1, 6, 82⟩ [.int (iZ a), .int (iZ l), .int (iZ m)] ws (fun v ws' => (l ≤ a ∧ a ≤ m) ∧ v = none ∧ ws' = ws) (fun E ws' => E = xA ∧ ws' = ws ∧ ¬ (l ≤ a ∧ a ≤ m)) := by
  refine (c_X2_requireWithin tys ws (iZ a) (iZ l) (iZ m)).mono (fun v w h => ?_) (fun E w h => ?_)
  · exact ⟨(iZ_wit ha hl hm).mp h.1, h.2⟩
  · exact ⟨h.1, h.2.1, fun q => h.2.2 ((iZ_wit ha hl hm).mpr q)⟩
theorem z_X2_at (ad : Nat → Nat) (cs : ClassId × ClassId × ClassId) (ws : va_W) (q0 a n0 b0 : Nat) (he : ws[q0]? = some (a, .inl (cs.2.2, n0, .inr (.inr (.inr (.inr (fun j => some (ad (j + b0 + 5))))))))) (hN : n0 < 2 ^ 31) (i : Int) (hi : rJ i) : mCt (mTy cs) yX2_at cX2_at 2 (some (.object "Momentdesk$Local")) ⟨6, 1, 6, 82⟩ [.ref a, .int (iZ i)] ws (fun v ws' => (0 ≤ i ∧ i < n0) ∧ v = some (.ref (ad (i.toNat + b0 + 5))) ∧ ws' = ws) (fun E ws' => E = xI ∧ ws' = ws ∧ ¬ (0 ≤ i ∧ i < n0)) := by
  refine (c_X2_at ad cs ws q0 a n0 b0 he hN (iZ i)).mono (fun v w h => ?_) (fun E w h => ?_)
  · obtain ⟨j, h1, h2, h3, h4⟩ := h
    have h5 := (iZ_in hi hN).mpr ⟨j, h1, h2⟩
    rw [iZ_nI, iZ_inj hi (by omega)] at h2
    exact ⟨h5, by rw [h3, show i.toNat = j by omega], h4⟩
  · exact ⟨h.1, h.2.1, fun q => h.2.2 ((vp_in_Zi hi).mpr q)⟩
theorem z_X2_at_ok (ad : Nat → Nat) (cs : ClassId × ClassId × ClassId) (ws : va_W) (q0 a n0 b0 : Nat) (he : ws[q0]? = some (a, .inl (cs.2.2, n0, .inr (.inr (.inr (.inr (fun j => some (ad (j + b0 + 5))))))))) (hN : n0 < 2 ^ 31) (i : Int) (j : Nat) (hj : i = (j : Int)) (hjN : j < n0) : mCt (mTy cs) yX2_at cX2_at 2 (some (.object "Momentdesk$Local")) ⟨0, 0, 0, 0⟩ [.ref a, .int (iZ i)] ws (fun v ws' => v = some (.ref (ad (j + b0 + 5))) ∧ ws' = ws) mNo := by
  rw [hj, ← iZ_nI]
  exact c_X2_at_ok ad cs ws q0 a n0 b0 he hN j hjN
/-! the calendar -/
def YR (d : Int) : Nat := if d < FO (1910 + ((d + 21915) / 366).toNat + 1) then 1910 + ((d + 21915) / 366).toNat else 1910 + ((d + 21915) / 366).toNat + 1
theorem YR_spec {d : Int} (h1 : -21915 ≤ d) (h2 : d ≤ 22279) : 1910 ≤ YR d ∧ YR d ≤ 2030 ∧ FO (YR d) ≤ d ∧ d < FO (YR d + 1) := by
  unfold YR
  by_cases h : d < FO (1910 + ((d + 21915) / 366).toNat + 1)
  · rw [if_pos h]
    unfold FO at h ⊢
    omega
  · rw [if_neg h]
    unfold FO at h ⊢
    omega
theorem FO_u {d : Int} {y z : Nat} (hy : y < 2099) (hz : z < 2099) (h1 : FO y ≤ d) (h2 : d < FO (y + 1)) (h3 : FO z ≤ d) (h4 : d < FO (z + 1)) : y = z := by
  rcases Nat.lt_or_ge y z with q | q
  · have := FO_m (y := y + 1) (z := z) (by omega) (by omega)
    omega
  · rcases Nat.lt_or_ge z y with q2 | q2
    · have := FO_m (y := z + 1) (z := y) (by omega) (by omega)
      omega
    · omega
def MOy (y : Nat) (r : Int) : Nat := if r < DB y 2 then 1 else if r < DB y 3 then 2 else if r < DB y 4 then 3 else if r < DB y 5 then 4 else if r < DB y 6 then 5 else if r < DB y 7 then 6 else if r < DB y 8 then 7 else if r < DB y 9 then 8 else if r < DB y 10 then 9 else if r < DB y 11 then 10 else if r < DB y 12 then 11 else 12
def MO (d : Int) : Nat := MOy (YR d) (d - FO (YR d))
def DOM (d : Int) : Int := d - FO (YR d) - DB (YR d) (MO d) + 1

