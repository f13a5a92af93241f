/-! The reference, exact (rows by a program of this repository). -/
set_option maxHeartbeats 4000000 in
set_option maxRecDepth 20000 in
theorem z_X4_moveDate (ad ae : Nat → Nat) (cs : ClassId × ClassId × ClassId) (K : mK) (S : mS) (th : Int32) (rest : va_W) (hS : sWF S) (a0 : Int) (h0 : rJ a0) (a1 : Int) (h1 : rJ a1) (a2 : Int) (h2 : rJ a2) (b3 : Bool)  : mCt (mTy cs) yX4_moveDate cX4_moveDate 9 (some .int) ⟨6, 1, 4, 147⟩ [.ref (ae 0), .int (iZ a0), .int (iZ a1), .int (iZ a2), .int (b2i b3)] (mRw ad ae cs K (mJof S th) rest) (fun v ws' => ∃ r : Int32, v = some (.int r) ∧ (((((0 ≤ a0 ∧ a0 < 4)) ∧ (0 ≤ a1 ∧ a1 ≤ 7)) ∧ r = iZ (oMv S a0.toNat a1 (zSg a2 b3)).1 ∧ ws' = mRw ad ae cs K (mJof (oMv S a0.toNat a1 (zSg a2 b3)).2 0) rest) ∨ (¬ ((0 ≤ a0 ∧ a0 < 4)) ∧ ws' = mRw ad ae cs K (mJof S 1) rest) ∨ (((0 ≤ a0 ∧ a0 < 4)) ∧ ¬ (0 ≤ a1 ∧ a1 ≤ 7) ∧ ws' = mRw ad ae cs K (mJof S 2) rest))) mNo := by
  refine mCt.of (by decide +kernel) (Nat.le_of_ble_eq_true rfl) (fun X hX hE => ?_)
  replace hX : mOK X RX4 cX4_moveDate 9 ⟨6, 1, 4, 147⟩ [] (mTy cs) := hX
  refine r_aload_n hX dX4_moveDate_0 rfl rfl ?_
  refine r_iload_n hX dX4_moveDate_1 rfl rfl ?_
  refine r_callS hX (z_X4_isNone _ _ _ (by omega)) ks_X4_61 rfl rfl (Nat.le_of_ble_eq_true rfl) ⟨(Nat.le_of_ble_eq_true rfl), (Nat.le_of_ble_eq_true rfl)⟩ ⟨(Nat.le_of_ble_eq_true rfl), (Nat.le_of_ble_eq_true rfl)⟩ dX4_moveDate_2 (fun _ _ z => False.elim z) (fun v9 ws9 h1 => ?_)
  obtain ⟨rfl, hw9⟩ := h1
  subst ws9
  dsimp only [mPush]
  refine r_iload_n hX dX4_moveDate_5 rfl rfl ?_
  refine r_i2lZ hX dX4_moveDate_6 (by omega) ?_
  refine r_lconstZ (v := 0) hX dX4_moveDate_7 rfl ?_
  refine r_ldc2Z (z := 7) hX kc_X4_183 (by decide) dX4_moveDate_8 ?_
  refine r_callS hX (z_X4_isIn _ _ _ _ _ (by omega) (by omega) (by omega)) ks_X4_38 rfl rfl (Nat.le_of_ble_eq_true rfl) ⟨(Nat.le_of_ble_eq_true rfl), (Nat.le_of_ble_eq_true rfl)⟩ ⟨(Nat.le_of_ble_eq_true rfl), (Nat.le_of_ble_eq_true rfl)⟩ dX4_moveDate_11 (fun _ _ z => False.elim z) (fun v9 ws9 h2 => ?_)
  obtain ⟨rfl, hw9⟩ := h2
  subst ws9
  dsimp only [mPush]
  refine r_if_neB (tgt := 21) hX dX4_moveDate_14 (by decide) (fun c3 => ?_) (fun c3 => ?_)
  · have c3 := of_decide_eq_true c3
    refine r_iconst (v := b2i false) hX dX4_moveDate_21 (by decide) ?_
    refine r_callV hX (z_X4_isStopped ad ae cs K S th rest (decide (¬ (0 ≤ a0 ∧ a0 < 4))) false) kv_X4_68 14 rfl rfl rfl rfl (Nat.le_of_ble_eq_true rfl) ⟨(Nat.le_of_ble_eq_true rfl), (Nat.le_of_ble_eq_true rfl)⟩ ⟨(Nat.le_of_ble_eq_true rfl), (Nat.le_of_ble_eq_true rfl)⟩ dX4_moveDate_22 (fun _ _ z => False.elim z) (fun v9 ws9 h4 => ?_)
    obtain ⟨rfl, hw9⟩ := h4
    subst ws9
    dsimp only [mPush]
    refine r_if_eqB (tgt := 30) hX dX4_moveDate_25 (by decide) (fun c5 => ?_) (fun c5 => ?_)
    · obtain ⟨⟨hx, hy⟩, e0⟩ := zst0 c5
      have hx := of_decide_eq_false hx
      rw [e0]
      have hr0 := zrg hS (d := a0.toNat) (by omega)
      have hse := hS.2.2.2.1 a0.toNat (by omega)
      refine r_iload hX dX4_moveDate_30 rfl ?_
      refine r_if_eqB (tgt := 41) hX dX4_moveDate_32 (by decide) (fun c6 => ?_) (fun c6 => ?_)
      · have c6 := id c6
        refine r_iload_n hX dX4_moveDate_41 rfl rfl ?_
        refine r_i2lZ hX dX4_moveDate_42 (by omega) ?_
        refine r_lstore hX dX4_moveDate_43 (by decide) rfl ?_
        refine r_iload_n hX dX4_moveDate_45 rfl rfl ?_
        refine r_iconstZ hX dX4_moveDate_46 ?_
        refine r_icmp_geZ (tgt := 71) hX dX4_moveDate_47 (by decide) (by omega) (by decide) (fun c7 => ?_) (fun c7 => ?_)
        · refine r_iload_n hX dX4_moveDate_71 rfl rfl ?_
          refine r_iconstZ hX dX4_moveDate_72 ?_
          refine r_icmp_geZ (tgt := 124) hX dX4_moveDate_73 (by decide) (by omega) (by decide) (fun c8 => ?_) (fun c8 => ?_)
          · refine r_aload_n hX dX4_moveDate_124 rfl rfl ?_
            refine r_get hX kf_X4_23 14 rfl rfl dX4_moveDate_125 ?_
            refine r_iload_n hX dX4_moveDate_128 rfl rfl ?_
            refine r_ialdZ hX 19 0 rfl rfl (a0).toNat (by omega) (by omega) (by decide) dX4_moveDate_129 ?_
            refine r_i2lZ hX dX4_moveDate_130 (by omega) ?_
            refine r_iload_n hX dX4_moveDate_131 rfl rfl ?_
            refine r_bipushZ hX dX4_moveDate_132 (by decide) ?_
            refine r_icmp_neZ (tgt := 142) hX dX4_moveDate_134 (by decide) (by omega) (by decide) (fun c9 => ?_) (fun c9 => ?_)
            · refine r_lconstZ (v := 0) hX dX4_moveDate_142 rfl ?_
              refine r_laddZ hX dX4_moveDate_143 ?_
              refine r_lstore hX dX4_moveDate_144 (by decide) rfl ?_
              refine r_aload_n hX dX4_moveDate_146 rfl rfl ?_
              refine r_iload_n hX dX4_moveDate_147 rfl rfl ?_
              refine r_aload_n hX dX4_moveDate_148 rfl rfl ?_
              refine r_get hX kf_X4_17 14 rfl rfl dX4_moveDate_149 ?_
              refine r_iload_n hX dX4_moveDate_152 rfl rfl ?_
              refine r_ialdZ hX 17 0 rfl rfl (a0).toNat (by omega) (by omega) (by decide) dX4_moveDate_153 ?_
              refine r_i2lZ hX dX4_moveDate_154 (by omega) ?_
              refine r_aload_n hX dX4_moveDate_155 rfl rfl ?_
              refine r_get hX kf_X4_20 14 rfl rfl dX4_moveDate_156 ?_
              refine r_iload_n hX dX4_moveDate_159 rfl rfl ?_
              refine r_ialdZ hX 18 0 rfl rfl (a0).toNat (by omega) (by omega) (by decide) dX4_moveDate_160 ?_
              refine r_i2lZ hX dX4_moveDate_161 (by omega) ?_
              refine r_lload hX dX4_moveDate_162 rfl ?_
              refine r_iload_n hX dX4_moveDate_164 rfl rfl ?_
              refine r_callS hX (z_X4_secondsOf _ _ _ (by omega)) ks_X4_188 rfl rfl (Nat.le_of_ble_eq_true rfl) ⟨(Nat.le_of_ble_eq_true rfl), (Nat.le_of_ble_eq_true rfl)⟩ ⟨(Nat.le_of_ble_eq_true rfl), (Nat.le_of_ble_eq_true rfl)⟩ dX4_moveDate_165 (fun _ _ z => False.elim z) (fun v9 ws9 h10 => ?_)
              obtain ⟨rfl, hw9⟩ := h10
              subst ws9
              dsimp only [mPush]
              have hsf := zSf_m (u := a1) (b := a2) (by omega)
              have hsf2 : 0 ≤ zSf a1 ∧ zSf a1 ≤ 3600 := by unfold zSf; (repeat' split) <;> omega
              refine r_i2lZ hX dX4_moveDate_168 (by omega) ?_
              refine r_lmulZ hX dX4_moveDate_169 ?_
              refine r_laddZ hX dX4_moveDate_170 ?_
              refine r_lload hX dX4_moveDate_171 rfl ?_
              refine r_ldc2Z (z := 1000000000) hX kc_X4_96 (by decide) dX4_moveDate_173 ?_
              refine r_callS hX (c_X4_whole_x _ _ _ _ (by omega) (by omega) (by omega) (by omega)) ks_X4_92 rfl rfl (Nat.le_of_ble_eq_true rfl) ⟨(Nat.le_of_ble_eq_true rfl), (Nat.le_of_ble_eq_true rfl)⟩ ⟨(Nat.le_of_ble_eq_true rfl), (Nat.le_of_ble_eq_true rfl)⟩ dX4_moveDate_176 (fun _ _ z => False.elim z) (fun v9 ws9 h11 => ?_)
              obtain ⟨rfl, hw9⟩ := h11
              subst ws9
              dsimp only [mPush]
              refine r_laddZ hX dX4_moveDate_179 ?_
              refine r_lload hX dX4_moveDate_180 rfl ?_
              refine r_ldc2Z (z := 1000000000) hX kc_X4_96 (by decide) dX4_moveDate_182 ?_
              refine r_callS hX (c_X4_rest_x _ _ _ _ (by omega) (by omega) (by omega) (by omega)) ks_X4_102 rfl rfl (Nat.le_of_ble_eq_true rfl) ⟨(Nat.le_of_ble_eq_true rfl), (Nat.le_of_ble_eq_true rfl)⟩ ⟨(Nat.le_of_ble_eq_true rfl), (Nat.le_of_ble_eq_true rfl)⟩ dX4_moveDate_185 (fun _ _ z => False.elim z) (fun v9 ws9 h12 => ?_)
              obtain ⟨rfl, hw9⟩ := h12
              subst ws9
              dsimp only [mPush]
              refine r_aload_n hX dX4_moveDate_188 rfl rfl ?_
              refine r_get hX kf_X4_26 14 rfl rfl dX4_moveDate_189 ?_
              refine r_iload_n hX dX4_moveDate_192 rfl rfl ?_
              refine r_ialdZ hX 20 0 rfl rfl (a0).toNat (by omega) (by omega) (by decide) dX4_moveDate_193 ?_
              refine r_callV hX (z_X4_put_ ad ae cs K S 0 rest hS _ (a0).toNat (by omega) (by omega) _ _ _ _ (by omega) (by omega)) kv_X4_167 14 rfl rfl rfl rfl (Nat.le_of_ble_eq_true rfl) ⟨(Nat.le_of_ble_eq_true rfl), (Nat.le_of_ble_eq_true rfl)⟩ ⟨(Nat.le_of_ble_eq_true rfl), (Nat.le_of_ble_eq_true rfl)⟩ dX4_moveDate_194 (fun _ _ z => False.elim z) (fun v9 ws9 h13 => ?_)
              obtain ⟨rfl, hw9⟩ := h13
              subst ws9
              dsimp only [mPush]
              refine r_iret hX hE dX4_moveDate_197 (Nat.le_of_ble_eq_true rfl) (Nat.le_of_ble_eq_true rfl) ⟨_, rfl, Or.inl ⟨by omega, ?_⟩⟩
              first | rw [show b3 = true by assumption] | rw [show b3 = false by assumption]
              simp only [zSg, cond]
              unfold oMv
              rw [if_neg (by omega), if_neg (by omega)]
              refine oeR (oLoc_c ?_ ?_ (by omega))
              · unfold zSn
                try unfold zSf at *
                repeat' split
                all_goals omega
              · unfold zNn
                split
                all_goals omega
            · refine r_lload hX dX4_moveDate_137 rfl ?_
              refine r_goto (tgt := 143) hX dX4_moveDate_139 (by decide) ?_
              refine r_laddZ hX dX4_moveDate_143 ?_
              refine r_lstore hX dX4_moveDate_144 (by decide) rfl ?_
              refine r_aload_n hX dX4_moveDate_146 rfl rfl ?_
              refine r_iload_n hX dX4_moveDate_147 rfl rfl ?_
              refine r_aload_n hX dX4_moveDate_148 rfl rfl ?_
              refine r_get hX kf_X4_17 14 rfl rfl dX4_moveDate_149 ?_
              refine r_iload_n hX dX4_moveDate_152 rfl rfl ?_
              refine r_ialdZ hX 17 0 rfl rfl (a0).toNat (by omega) (by omega) (by decide) dX4_moveDate_153 ?_
              refine r_i2lZ hX dX4_moveDate_154 (by omega) ?_
              refine r_aload_n hX dX4_moveDate_155 rfl rfl ?_
              refine r_get hX kf_X4_20 14 rfl rfl dX4_moveDate_156 ?_
              refine r_iload_n hX dX4_moveDate_159 rfl rfl ?_
              refine r_ialdZ hX 18 0 rfl rfl (a0).toNat (by omega) (by omega) (by decide) dX4_moveDate_160 ?_
              refine r_i2lZ hX dX4_moveDate_161 (by omega) ?_
              refine r_lload hX dX4_moveDate_162 rfl ?_
              refine r_iload_n hX dX4_moveDate_164 rfl rfl ?_
              refine r_callS hX (z_X4_secondsOf _ _ _ (by omega)) ks_X4_188 rfl rfl (Nat.le_of_ble_eq_true rfl) ⟨(Nat.le_of_ble_eq_true rfl), (Nat.le_of_ble_eq_true rfl)⟩ ⟨(Nat.le_of_ble_eq_true rfl), (Nat.le_of_ble_eq_true rfl)⟩ dX4_moveDate_165 (fun _ _ z => False.elim z) (fun v9 ws9 h14 => ?_)
              obtain ⟨rfl, hw9⟩ := h14
              subst ws9
              dsimp only [mPush]
              have hsf := zSf_m (u := a1) (b := a2) (by omega)
              have hsf2 : 0 ≤ zSf a1 ∧ zSf a1 ≤ 3600 := by unfold zSf; (repeat' split) <;> omega
              refine r_i2lZ hX dX4_moveDate_168 (by omega) ?_
              refine r_lmulZ hX dX4_moveDate_169 ?_
              refine r_laddZ hX dX4_moveDate_170 ?_
              refine r_lload hX dX4_moveDate_171 rfl ?_
              refine r_ldc2Z (z := 1000000000) hX kc_X4_96 (by decide) dX4_moveDate_173 ?_
              refine r_callS hX (c_X4_whole_x _ _ _ _ (by omega) (by omega) (by omega) (by omega)) ks_X4_92 rfl rfl (Nat.le_of_ble_eq_true rfl) ⟨(Nat.le_of_ble_eq_true rfl), (Nat.le_of_ble_eq_true rfl)⟩ ⟨(Nat.le_of_ble_eq_true rfl), (Nat.le_of_ble_eq_true rfl)⟩ dX4_moveDate_176 (fun _ _ z => False.elim z) (fun v9 ws9 h15 => ?_)
              obtain ⟨rfl, hw9⟩ := h15
              subst ws9
              dsimp only [mPush]
              refine r_laddZ hX dX4_moveDate_179 ?_
              refine r_lload hX dX4_moveDate_180 rfl ?_
              refine r_ldc2Z (z := 1000000000) hX kc_X4_96 (by decide) dX4_moveDate_182 ?_
              refine r_callS hX (c_X4_rest_x _ _ _ _ (by omega) (by omega) (by omega) (by omega)) ks_X4_102 rfl rfl (Nat.le_of_ble_eq_true rfl) ⟨(Nat.le_of_ble_eq_true rfl), (Nat.le_of_ble_eq_true rfl)⟩ ⟨(Nat.le_of_ble_eq_true rfl), (Nat.le_of_ble_eq_true rfl)⟩ dX4_moveDate_185 (fun _ _ z => False.elim z) (fun v9 ws9 h16 => ?_)
              obtain ⟨rfl, hw9⟩ := h16
              subst ws9
              dsimp only [mPush]
              refine r_aload_n hX dX4_moveDate_188 rfl rfl ?_
              refine r_get hX kf_X4_26 14 rfl rfl dX4_moveDate_189 ?_
              refine r_iload_n hX dX4_moveDate_192 rfl rfl ?_
              refine r_ialdZ hX 20 0 rfl rfl (a0).toNat (by omega) (by omega) (by decide) dX4_moveDate_193 ?_
              refine r_callV hX (z_X4_put_ ad ae cs K S 0 rest hS _ (a0).toNat (by omega) (by omega) _ _ _ _ (by omega) (by omega)) kv_X4_167 14 rfl rfl rfl rfl (Nat.le_of_ble_eq_true rfl) ⟨(Nat.le_of_ble_eq_true rfl), (Nat.le_of_ble_eq_true rfl)⟩ ⟨(Nat.le_of_ble_eq_true rfl), (Nat.le_of_ble_eq_true rfl)⟩ dX4_moveDate_194 (fun _ _ z => False.elim z) (fun v9 ws9 h17 => ?_)
              obtain ⟨rfl, hw9⟩ := h17
              subst ws9
              dsimp only [mPush]
              refine r_iret hX hE dX4_moveDate_197 (Nat.le_of_ble_eq_true rfl) (Nat.le_of_ble_eq_true rfl) ⟨_, rfl, Or.inl ⟨by omega, ?_⟩⟩
              first | rw [show b3 = true by assumption] | rw [show b3 = false by assumption]
              simp only [zSg, cond]
              unfold oMv
              rw [if_neg (by omega), if_neg (by omega)]
              refine oeR (oLoc_c ?_ ?_ (by omega))
              · unfold zSn
                try unfold zSf at *
                repeat' split
                all_goals omega
              · unfold zNn
                split
                all_goals omega
          · refine r_aload_n hX dX4_moveDate_76 rfl rfl ?_
            refine r_iload_n hX dX4_moveDate_77 rfl rfl ?_
            refine r_aload_n hX dX4_moveDate_78 rfl rfl ?_
            refine r_get hX kf_X4_17 14 rfl rfl dX4_moveDate_79 ?_
            refine r_iload_n hX dX4_moveDate_82 rfl rfl ?_
            refine r_ialdZ hX 17 0 rfl rfl (a0).toNat (by omega) (by omega) (by decide) dX4_moveDate_83 ?_
            refine r_i2lZ hX dX4_moveDate_84 (by omega) ?_
            refine r_lload hX dX4_moveDate_85 rfl ?_
            refine r_iload_n hX dX4_moveDate_87 rfl rfl ?_
            refine r_iconstZ hX dX4_moveDate_88 ?_
            refine r_icmp_neZ (tgt := 97) hX dX4_moveDate_89 (by decide) (by omega) (by decide) (fun c18 => ?_) (fun c18 => ?_)
            · refine r_iconstZ hX dX4_moveDate_97 ?_
              refine r_i2lZ hX dX4_moveDate_98 (by decide) ?_
              refine r_lmulZ hX dX4_moveDate_99 ?_
              refine r_laddZ hX dX4_moveDate_100 ?_
              refine r_aload_n hX dX4_moveDate_101 rfl rfl ?_
              refine r_get hX kf_X4_20 14 rfl rfl dX4_moveDate_102 ?_
              refine r_iload_n hX dX4_moveDate_105 rfl rfl ?_
              refine r_ialdZ hX 18 0 rfl rfl (a0).toNat (by omega) (by omega) (by decide) dX4_moveDate_106 ?_
              refine r_i2lZ hX dX4_moveDate_107 (by omega) ?_
              refine r_aload_n hX dX4_moveDate_108 rfl rfl ?_
              refine r_get hX kf_X4_23 14 rfl rfl dX4_moveDate_109 ?_
              refine r_iload_n hX dX4_moveDate_112 rfl rfl ?_
              refine r_ialdZ hX 19 0 rfl rfl (a0).toNat (by omega) (by omega) (by decide) dX4_moveDate_113 ?_
              refine r_aload_n hX dX4_moveDate_114 rfl rfl ?_
              refine r_get hX kf_X4_26 14 rfl rfl dX4_moveDate_115 ?_
              refine r_iload_n hX dX4_moveDate_118 rfl rfl ?_
              refine r_ialdZ hX 20 0 rfl rfl (a0).toNat (by omega) (by omega) (by decide) dX4_moveDate_119 ?_
              refine r_callV hX (z_X4_put_ ad ae cs K S 0 rest hS _ (a0).toNat (by omega) (by omega) _ _ _ _ (by omega) (by omega)) kv_X4_167 14 rfl rfl rfl rfl (Nat.le_of_ble_eq_true rfl) ⟨(Nat.le_of_ble_eq_true rfl), (Nat.le_of_ble_eq_true rfl)⟩ ⟨(Nat.le_of_ble_eq_true rfl), (Nat.le_of_ble_eq_true rfl)⟩ dX4_moveDate_120 (fun _ _ z => False.elim z) (fun v9 ws9 h19 => ?_)
              obtain ⟨rfl, hw9⟩ := h19
              subst ws9
              dsimp only [mPush]
              refine r_iret hX hE dX4_moveDate_123 (Nat.le_of_ble_eq_true rfl) (Nat.le_of_ble_eq_true rfl) ⟨_, rfl, Or.inl ⟨by omega, ?_⟩⟩
              first | rw [show b3 = true by assumption] | rw [show b3 = false by assumption]
              simp only [zSg, cond]
              unfold oMv
              rw [if_neg (by omega), if_neg (by omega)]
              refine oeR (oLoc_c ?_ ?_ (by omega))
              · unfold zSn
                try unfold zSf at *
                repeat' split
                all_goals omega
              · unfold zNn
                split
                all_goals omega
            · refine r_bipushZ hX dX4_moveDate_92 (by decide) ?_
              refine r_goto (tgt := 98) hX dX4_moveDate_94 (by decide) ?_
              refine r_i2lZ hX dX4_moveDate_98 (by decide) ?_
              refine r_lmulZ hX dX4_moveDate_99 ?_
              refine r_laddZ hX dX4_moveDate_100 ?_
              refine r_aload_n hX dX4_moveDate_101 rfl rfl ?_
              refine r_get hX kf_X4_20 14 rfl rfl dX4_moveDate_102 ?_
              refine r_iload_n hX dX4_moveDate_105 rfl rfl ?_
              refine r_ialdZ hX 18 0 rfl rfl (a0).toNat (by omega) (by omega) (by decide) dX4_moveDate_106 ?_
              refine r_i2lZ hX dX4_moveDate_107 (by omega) ?_
              refine r_aload_n hX dX4_moveDate_108 rfl rfl ?_
              refine r_get hX kf_X4_23 14 rfl rfl dX4_moveDate_109 ?_
              refine r_iload_n hX dX4_moveDate_112 rfl rfl ?_
              refine r_ialdZ hX 19 0 rfl rfl (a0).toNat (by omega) (by omega) (by decide) dX4_moveDate_113 ?_
              refine r_aload_n hX dX4_moveDate_114 rfl rfl ?_
              refine r_get hX kf_X4_26 14 rfl rfl dX4_moveDate_115 ?_
              refine r_iload_n hX dX4_moveDate_118 rfl rfl ?_
              refine r_ialdZ hX 20 0 rfl rfl (a0).toNat (by omega) (by omega) (by decide) dX4_moveDate_119 ?_
              refine r_callV hX (z_X4_put_ ad ae cs K S 0 rest hS _ (a0).toNat (by omega) (by omega) _ _ _ _ (by omega) (by omega)) kv_X4_167 14 rfl rfl rfl rfl (Nat.le_of_ble_eq_true rfl) ⟨(Nat.le_of_ble_eq_true rfl), (Nat.le_of_ble_eq_true rfl)⟩ ⟨(Nat.le_of_ble_eq_true rfl), (Nat.le_of_ble_eq_true rfl)⟩ dX4_moveDate_120 (fun _ _ z => False.elim z) (fun v9 ws9 h20 => ?_)
              obtain ⟨rfl, hw9⟩ := h20
              subst ws9
              dsimp only [mPush]
              refine r_iret hX hE dX4_moveDate_123 (Nat.le_of_ble_eq_true rfl) (Nat.le_of_ble_eq_true rfl) ⟨_, rfl, Or.inl ⟨by omega, ?_⟩⟩
              first | rw [show b3 = true by assumption] | rw [show b3 = false by assumption]
              simp only [zSg, cond]
              unfold oMv
              rw [if_neg (by omega), if_neg (by omega)]
              refine oeR (oLoc_c ?_ ?_ (by omega))
              · unfold zSn
                try unfold zSf at *
                repeat' split
                all_goals omega
              · unfold zNn
                split
                all_goals omega
        · refine r_aload_n hX dX4_moveDate_50 rfl rfl ?_
          refine r_iload_n hX dX4_moveDate_51 rfl rfl ?_
          refine r_iload_n hX dX4_moveDate_52 rfl rfl ?_
          refine r_if_neZ (tgt := 65) hX dX4_moveDate_53 (by decide) (by omega) (fun c21 => ?_) (fun c21 => ?_)
          · refine r_lload hX dX4_moveDate_65 rfl ?_
            refine r_callV hX (z_X4_moveMonths ad ae cs K S 0 rest hS _ (a0).toNat (by omega) (by omega) _ (by omega)) kv_X4_185 14 rfl rfl rfl rfl (Nat.le_of_ble_eq_true rfl) ⟨(Nat.le_of_ble_eq_true rfl), (Nat.le_of_ble_eq_true rfl)⟩ ⟨(Nat.le_of_ble_eq_true rfl), (Nat.le_of_ble_eq_true rfl)⟩ dX4_moveDate_67 (fun _ _ z => False.elim z) (fun v9 ws9 h22 => ?_)
            obtain ⟨rfl, hw9⟩ := h22
            subst ws9
            dsimp only [mPush]
            refine r_iret hX hE dX4_moveDate_70 (Nat.le_of_ble_eq_true rfl) (Nat.le_of_ble_eq_true rfl) ⟨_, rfl, Or.inl ⟨by omega, ?_⟩⟩
            first | rw [show b3 = true by assumption] | rw [show b3 = false by assumption]
            simp only [zSg, cond]
            unfold oMv
            first | rw [if_pos (by omega)] | rw [if_neg (by omega), if_pos (by omega)]
            unfold zMs
            exact oeR (oMon_c (by omega))
          · refine r_ldc2Z (z := 12) hX kc_X4_151 (by decide) dX4_moveDate_56 ?_
            refine r_lload hX dX4_moveDate_59 rfl ?_
            refine r_lmulZ hX dX4_moveDate_61 ?_
            refine r_goto (tgt := 67) hX dX4_moveDate_62 (by decide) ?_
            refine r_callV hX (z_X4_moveMonths ad ae cs K S 0 rest hS _ (a0).toNat (by omega) (by omega) _ (by omega)) kv_X4_185 14 rfl rfl rfl rfl (Nat.le_of_ble_eq_true rfl) ⟨(Nat.le_of_ble_eq_true rfl), (Nat.le_of_ble_eq_true rfl)⟩ ⟨(Nat.le_of_ble_eq_true rfl), (Nat.le_of_ble_eq_true rfl)⟩ dX4_moveDate_67 (fun _ _ z => False.elim z) (fun v9 ws9 h23 => ?_)
            obtain ⟨rfl, hw9⟩ := h23
            subst ws9
            dsimp only [mPush]
            refine r_iret hX hE dX4_moveDate_70 (Nat.le_of_ble_eq_true rfl) (Nat.le_of_ble_eq_true rfl) ⟨_, rfl, Or.inl ⟨by omega, ?_⟩⟩
            first | rw [show b3 = true by assumption] | rw [show b3 = false by assumption]
            simp only [zSg, cond]
            unfold oMv
            first | rw [if_pos (by omega)] | rw [if_neg (by omega), if_pos (by omega)]
            unfold zMs
            exact oeR (oMon_c (by omega))
      · have c6 := id c6
        refine r_iload_n hX dX4_moveDate_35 rfl rfl ?_
        refine r_i2lZ hX dX4_moveDate_36 (by omega) ?_
        refine r_lnegZ hX dX4_moveDate_37 ?_
        refine r_goto (tgt := 43) hX dX4_moveDate_38 (by decide) ?_
        refine r_lstore hX dX4_moveDate_43 (by decide) rfl ?_
        refine r_iload_n hX dX4_moveDate_45 rfl rfl ?_
        refine r_iconstZ hX dX4_moveDate_46 ?_
        refine r_icmp_geZ (tgt := 71) hX dX4_moveDate_47 (by decide) (by omega) (by decide) (fun c24 => ?_) (fun c24 => ?_)
        · refine r_iload_n hX dX4_moveDate_71 rfl rfl ?_
          refine r_iconstZ hX dX4_moveDate_72 ?_
          refine r_icmp_geZ (tgt := 124) hX dX4_moveDate_73 (by decide) (by omega) (by decide) (fun c25 => ?_) (fun c25 => ?_)
          · refine r_aload_n hX dX4_moveDate_124 rfl rfl ?_
            refine r_get hX kf_X4_23 14 rfl rfl dX4_moveDate_125 ?_
            refine r_iload_n hX dX4_moveDate_128 rfl rfl ?_
            refine r_ialdZ hX 19 0 rfl rfl (a0).toNat (by omega) (by omega) (by decide) dX4_moveDate_129 ?_
            refine r_i2lZ hX dX4_moveDate_130 (by omega) ?_
            refine r_iload_n hX dX4_moveDate_131 rfl rfl ?_
            refine r_bipushZ hX dX4_moveDate_132 (by decide) ?_
            refine r_icmp_neZ (tgt := 142) hX dX4_moveDate_134 (by decide) (by omega) (by decide) (fun c26 => ?_) (fun c26 => ?_)
            · refine r_lconstZ (v := 0) hX dX4_moveDate_142 rfl ?_
              refine r_laddZ hX dX4_moveDate_143 ?_
              refine r_lstore hX dX4_moveDate_144 (by decide) rfl ?_
              refine r_aload_n hX dX4_moveDate_146 rfl rfl ?_
              refine r_iload_n hX dX4_moveDate_147 rfl rfl ?_
              refine r_aload_n hX dX4_moveDate_148 rfl rfl ?_
              refine r_get hX kf_X4_17 14 rfl rfl dX4_moveDate_149 ?_
              refine r_iload_n hX dX4_moveDate_152 rfl rfl ?_
              refine r_ialdZ hX 17 0 rfl rfl (a0).toNat (by omega) (by omega) (by decide) dX4_moveDate_153 ?_
              refine r_i2lZ hX dX4_moveDate_154 (by omega) ?_
              refine r_aload_n hX dX4_moveDate_155 rfl rfl ?_
              refine r_get hX kf_X4_20 14 rfl rfl dX4_moveDate_156 ?_
              refine r_iload_n hX dX4_moveDate_159 rfl rfl ?_
              refine r_ialdZ hX 18 0 rfl rfl (a0).toNat (by omega) (by omega) (by decide) dX4_moveDate_160 ?_
              refine r_i2lZ hX dX4_moveDate_161 (by omega) ?_
              refine r_lload hX dX4_moveDate_162 rfl ?_
              refine r_iload_n hX dX4_moveDate_164 rfl rfl ?_
              refine r_callS hX (z_X4_secondsOf _ _ _ (by omega)) ks_X4_188 rfl rfl (Nat.le_of_ble_eq_true rfl) ⟨(Nat.le_of_ble_eq_true rfl), (Nat.le_of_ble_eq_true rfl)⟩ ⟨(Nat.le_of_ble_eq_true rfl), (Nat.le_of_ble_eq_true rfl)⟩ dX4_moveDate_165 (fun _ _ z => False.elim z) (fun v9 ws9 h27 => ?_)
              obtain ⟨rfl, hw9⟩ := h27
              subst ws9
              dsimp only [mPush]
              have hsf := zSf_m (u := a1) (b := -a2) (by omega)
              have hsf2 : 0 ≤ zSf a1 ∧ zSf a1 ≤ 3600 := by unfold zSf; (repeat' split) <;> omega
              refine r_i2lZ hX dX4_moveDate_168 (by omega) ?_
              refine r_lmulZ hX dX4_moveDate_169 ?_
              refine r_laddZ hX dX4_moveDate_170 ?_
              refine r_lload hX dX4_moveDate_171 rfl ?_
              refine r_ldc2Z (z := 1000000000) hX kc_X4_96 (by decide) dX4_moveDate_173 ?_
              refine r_callS hX (c_X4_whole_x _ _ _ _ (by omega) (by omega) (by omega) (by omega)) ks_X4_92 rfl rfl (Nat.le_of_ble_eq_true rfl) ⟨(Nat.le_of_ble_eq_true rfl), (Nat.le_of_ble_eq_true rfl)⟩ ⟨(Nat.le_of_ble_eq_true rfl), (Nat.le_of_ble_eq_true rfl)⟩ dX4_moveDate_176 (fun _ _ z => False.elim z) (fun v9 ws9 h28 => ?_)
              obtain ⟨rfl, hw9⟩ := h28
              subst ws9
              dsimp only [mPush]
              refine r_laddZ hX dX4_moveDate_179 ?_
              refine r_lload hX dX4_moveDate_180 rfl ?_
              refine r_ldc2Z (z := 1000000000) hX kc_X4_96 (by decide) dX4_moveDate_182 ?_
              refine r_callS hX (c_X4_rest_x _ _ _ _ (by omega) (by omega) (by omega) (by omega)) ks_X4_102 rfl rfl (Nat.le_of_ble_eq_true rfl) ⟨(Nat.le_of_ble_eq_true rfl), (Nat.le_of_ble_eq_true rfl)⟩ ⟨(Nat.le_of_ble_eq_true rfl), (Nat.le_of_ble_eq_true rfl)⟩ dX4_moveDate_185 (fun _ _ z => False.elim z) (fun v9 ws9 h29 => ?_)
              obtain ⟨rfl, hw9⟩ := h29
              subst ws9
              dsimp only [mPush]
              refine r_aload_n hX dX4_moveDate_188 rfl rfl ?_
              refine r_get hX kf_X4_26 14 rfl rfl dX4_moveDate_189 ?_
              refine r_iload_n hX dX4_moveDate_192 rfl rfl ?_
              refine r_ialdZ hX 20 0 rfl rfl (a0).toNat (by omega) (by omega) (by decide) dX4_moveDate_193 ?_
              refine r_callV hX (z_X4_put_ ad ae cs K S 0 rest hS _ (a0).toNat (by omega) (by omega) _ _ _ _ (by omega) (by omega)) kv_X4_167 14 rfl rfl rfl rfl (Nat.le_of_ble_eq_true rfl) ⟨(Nat.le_of_ble_eq_true rfl), (Nat.le_of_ble_eq_true rfl)⟩ ⟨(Nat.le_of_ble_eq_true rfl), (Nat.le_of_ble_eq_true rfl)⟩ dX4_moveDate_194 (fun _ _ z => False.elim z) (fun v9 ws9 h30 => ?_)
              obtain ⟨rfl, hw9⟩ := h30
              subst ws9
              dsimp only [mPush]
              refine r_iret hX hE dX4_moveDate_197 (Nat.le_of_ble_eq_true rfl) (Nat.le_of_ble_eq_true rfl) ⟨_, rfl, Or.inl ⟨by omega, ?_⟩⟩
              first | rw [show b3 = true by assumption] | rw [show b3 = false by assumption]
              simp only [zSg, cond]
              unfold oMv
              rw [if_neg (by omega), if_neg (by omega)]
              refine oeR (oLoc_c ?_ ?_ (by omega))
              · unfold zSn
                try unfold zSf at *
                repeat' split
                all_goals omega
              · unfold zNn
                split
                all_goals omega
            · refine r_lload hX dX4_moveDate_137 rfl ?_
              refine r_goto (tgt := 143) hX dX4_moveDate_139 (by decide) ?_
              refine r_laddZ hX dX4_moveDate_143 ?_
              refine r_lstore hX dX4_moveDate_144 (by decide) rfl ?_
              refine r_aload_n hX dX4_moveDate_146 rfl rfl ?_
              refine r_iload_n hX dX4_moveDate_147 rfl rfl ?_
              refine r_aload_n hX dX4_moveDate_148 rfl rfl ?_
              refine r_get hX kf_X4_17 14 rfl rfl dX4_moveDate_149 ?_
              refine r_iload_n hX dX4_moveDate_152 rfl rfl ?_
              refine r_ialdZ hX 17 0 rfl rfl (a0).toNat (by omega) (by omega) (by decide) dX4_moveDate_153 ?_
              refine r_i2lZ hX dX4_moveDate_154 (by omega) ?_
              refine r_aload_n hX dX4_moveDate_155 rfl rfl ?_
              refine r_get hX kf_X4_20 14 rfl rfl dX4_moveDate_156 ?_
              refine r_iload_n hX dX4_moveDate_159 rfl rfl ?_
              refine r_ialdZ hX 18 0 rfl rfl (a0).toNat (by omega) (by omega) (by decide) dX4_moveDate_160 ?_
              refine r_i2lZ hX dX4_moveDate_161 (by omega) ?_
              refine r_lload hX dX4_moveDate_162 rfl ?_
              refine r_iload_n hX dX4_moveDate_164 rfl rfl ?_
              refine r_callS hX (z_X4_secondsOf _ _ _ (by omega)) ks_X4_188 rfl rfl (Nat.le_of_ble_eq_true rfl) ⟨(Nat.le_of_ble_eq_true rfl), (Nat.le_of_ble_eq_true rfl)⟩ ⟨(Nat.le_of_ble_eq_true rfl), (Nat.le_of_ble_eq_true rfl)⟩ dX4_moveDate_165 (fun _ _ z => False.elim z) (fun v9 ws9 h31 => ?_)
              obtain ⟨rfl, hw9⟩ := h31
              subst ws9
              dsimp only [mPush]
              have hsf := zSf_m (u := a1) (b := -a2) (by omega)
              have hsf2 : 0 ≤ zSf a1 ∧ zSf a1 ≤ 3600 := by unfold zSf; (repeat' split) <;> omega
              refine r_i2lZ hX dX4_moveDate_168 (by omega) ?_
              refine r_lmulZ hX dX4_moveDate_169 ?_
              refine r_laddZ hX dX4_moveDate_170 ?_
              refine r_lload hX dX4_moveDate_171 rfl ?_
              refine r_ldc2Z (z := 1000000000) hX kc_X4_96 (by decide) dX4_moveDate_173 ?_
              refine r_callS hX (c_X4_whole_x _ _ _ _ (by omega) (by omega) (by omega) (by omega)) ks_X4_92 rfl rfl (Nat.le_of_ble_eq_true rfl) ⟨(Nat.le_of_ble_eq_true rfl), (Nat.le_of_ble_eq_true rfl)⟩ ⟨(Nat.le_of_ble_eq_true rfl), (Nat.le_of_ble_eq_true rfl)⟩ dX4_moveDate_176 (fun _ _ z => False.elim z) (fun v9 ws9 h32 => ?_)
              obtain ⟨rfl, hw9⟩ := h32
              subst ws9
              dsimp only [mPush]
              refine r_laddZ hX dX4_moveDate_179 ?_
              refine r_lload hX dX4_moveDate_180 rfl ?_
              refine r_ldc2Z (z := 1000000000) hX kc_X4_96 (by decide) dX4_moveDate_182 ?_
              refine r_callS hX (c_X4_rest_x _ _ _ _ (by omega) (by omega) (by omega) (by omega)) ks_X4_102 rfl rfl (Nat.le_of_ble_eq_true rfl) ⟨(Nat.le_of_ble_eq_true rfl), (Nat.le_of_ble_eq_true rfl)⟩ ⟨(Nat.le_of_ble_eq_true rfl), (Nat.le_of_ble_eq_true rfl)⟩ dX4_moveDate_185 (fun _ _ z => False.elim z) (fun v9 ws9 h33 => ?_)
              obtain ⟨rfl, hw9⟩ := h33
              subst ws9
              dsimp only [mPush]
              refine r_aload_n hX dX4_moveDate_188 rfl rfl ?_
              refine r_get hX kf_X4_26 14 rfl rfl dX4_moveDate_189 ?_
              refine r_iload_n hX dX4_moveDate_192 rfl rfl ?_
              refine r_ialdZ hX 20 0 rfl rfl (a0).toNat (by omega) (by omega) (by decide) dX4_moveDate_193 ?_
              refine r_callV hX (z_X4_put_ ad ae cs K S 0 rest hS _ (a0).toNat (by omega) (by omega) _ _ _ _ (by omega) (by omega)) kv_X4_167 14 rfl rfl rfl rfl (Nat.le_of_ble_eq_true rfl) ⟨(Nat.le_of_ble_eq_true rfl), (Nat.le_of_ble_eq_true rfl)⟩ ⟨(Nat.le_of_ble_eq_true rfl), (Nat.le_of_ble_eq_true rfl)⟩ dX4_moveDate_194 (fun _ _ z => False.elim z) (fun v9 ws9 h34 => ?_)
              obtain ⟨rfl, hw9⟩ := h34
              subst ws9
              dsimp only [mPush]
              refine r_iret hX hE dX4_moveDate_197 (Nat.le_of_ble_eq_true rfl) (Nat.le_of_ble_eq_true rfl) ⟨_, rfl, Or.inl ⟨by omega, ?_⟩⟩
              first | rw [show b3 = true by assumption] | rw [show b3 = false by assumption]
              simp only [zSg, cond]
              unfold oMv
              rw [if_neg (by omega), if_neg (by omega)]
              refine oeR (oLoc_c ?_ ?_ (by omega))
              · unfold zSn
                try unfold zSf at *
                repeat' split
                all_goals omega
              · unfold zNn
                split
                all_goals omega
          · refine r_aload_n hX dX4_moveDate_76 rfl rfl ?_
            refine r_iload_n hX dX4_moveDate_77 rfl rfl ?_
            refine r_aload_n hX dX4_moveDate_78 rfl rfl ?_
            refine r_get hX kf_X4_17 14 rfl rfl dX4_moveDate_79 ?_
            refine r_iload_n hX dX4_moveDate_82 rfl rfl ?_
            refine r_ialdZ hX 17 0 rfl rfl (a0).toNat (by omega) (by omega) (by decide) dX4_moveDate_83 ?_
            refine r_i2lZ hX dX4_moveDate_84 (by omega) ?_
            refine r_lload hX dX4_moveDate_85 rfl ?_
            refine r_iload_n hX dX4_moveDate_87 rfl rfl ?_
            refine r_iconstZ hX dX4_moveDate_88 ?_
            refine r_icmp_neZ (tgt := 97) hX dX4_moveDate_89 (by decide) (by omega) (by decide) (fun c35 => ?_) (fun c35 => ?_)
            · refine r_iconstZ hX dX4_moveDate_97 ?_
              refine r_i2lZ hX dX4_moveDate_98 (by decide) ?_
              refine r_lmulZ hX dX4_moveDate_99 ?_
              refine r_laddZ hX dX4_moveDate_100 ?_
              refine r_aload_n hX dX4_moveDate_101 rfl rfl ?_
              refine r_get hX kf_X4_20 14 rfl rfl dX4_moveDate_102 ?_
              refine r_iload_n hX dX4_moveDate_105 rfl rfl ?_
              refine r_ialdZ hX 18 0 rfl rfl (a0).toNat (by omega) (by omega) (by decide) dX4_moveDate_106 ?_
              refine r_i2lZ hX dX4_moveDate_107 (by omega) ?_
              refine r_aload_n hX dX4_moveDate_108 rfl rfl ?_
              refine r_get hX kf_X4_23 14 rfl rfl dX4_moveDate_109 ?_
              refine r_iload_n hX dX4_moveDate_112 rfl rfl ?_
              refine r_ialdZ hX 19 0 rfl rfl (a0).toNat (by omega) (by omega) (by decide) dX4_moveDate_113 ?_
              refine r_aload_n hX dX4_moveDate_114 rfl rfl ?_
              refine r_get hX kf_X4_26 14 rfl rfl dX4_moveDate_115 ?_
              refine r_iload_n hX dX4_moveDate_118 rfl rfl ?_
              refine r_ialdZ hX 20 0 rfl rfl (a0).toNat (by omega) (by omega) (by decide) dX4_moveDate_119 ?_
              refine r_callV hX (z_X4_put_ ad ae cs K S 0 rest hS _ (a0).toNat (by omega) (by omega) _ _ _ _ (by omega) (by omega)) kv_X4_167 14 rfl rfl rfl rfl (Nat.le_of_ble_eq_true rfl) ⟨(Nat.le_of_ble_eq_true rfl), (Nat.le_of_ble_eq_true rfl)⟩ ⟨(Nat.le_of_ble_eq_true rfl), (Nat.le_of_ble_eq_true rfl)⟩ dX4_moveDate_120 (fun _ _ z => False.elim z) (fun v9 ws9 h36 => ?_)
              obtain ⟨rfl, hw9⟩ := h36
              subst ws9
              dsimp only [mPush]
              refine r_iret hX hE dX4_moveDate_123 (Nat.le_of_ble_eq_true rfl) (Nat.le_of_ble_eq_true rfl) ⟨_, rfl, Or.inl ⟨by omega, ?_⟩⟩
              first | rw [show b3 = true by assumption] | rw [show b3 = false by assumption]
              simp only [zSg, cond]
              unfold oMv
              rw [if_neg (by omega), if_neg (by omega)]
              refine oeR (oLoc_c ?_ ?_ (by omega))
              · unfold zSn
                try unfold zSf at *
                repeat' split
                all_goals omega
              · unfold zNn
                split
                all_goals omega
            · refine r_bipushZ hX dX4_moveDate_92 (by decide) ?_
              refine r_goto (tgt := 98) hX dX4_moveDate_94 (by decide) ?_
              refine r_i2lZ hX dX4_moveDate_98 (by decide) ?_
              refine r_lmulZ hX dX4_moveDate_99 ?_
              refine r_laddZ hX dX4_moveDate_100 ?_
              refine r_aload_n hX dX4_moveDate_101 rfl rfl ?_
              refine r_get hX kf_X4_20 14 rfl rfl dX4_moveDate_102 ?_
              refine r_iload_n hX dX4_moveDate_105 rfl rfl ?_
              refine r_ialdZ hX 18 0 rfl rfl (a0).toNat (by omega) (by omega) (by decide) dX4_moveDate_106 ?_
              refine r_i2lZ hX dX4_moveDate_107 (by omega) ?_
              refine r_aload_n hX dX4_moveDate_108 rfl rfl ?_
              refine r_get hX kf_X4_23 14 rfl rfl dX4_moveDate_109 ?_
              refine r_iload_n hX dX4_moveDate_112 rfl rfl ?_
              refine r_ialdZ hX 19 0 rfl rfl (a0).toNat (by omega) (by omega) (by decide) dX4_moveDate_113 ?_
              refine r_aload_n hX dX4_moveDate_114 rfl rfl ?_
              refine r_get hX kf_X4_26 14 rfl rfl dX4_moveDate_115 ?_
              refine r_iload_n hX dX4_moveDate_118 rfl rfl ?_
              refine r_ialdZ hX 20 0 rfl rfl (a0).toNat (by omega) (by omega) (by decide) dX4_moveDate_119 ?_
              refine r_callV hX (z_X4_put_ ad ae cs K S 0 rest hS _ (a0).toNat (by omega) (by omega) _ _ _ _ (by omega) (by omega)) kv_X4_167 14 rfl rfl rfl rfl (Nat.le_of_ble_eq_true rfl) ⟨(Nat.le_of_ble_eq_true rfl), (Nat.le_of_ble_eq_true rfl)⟩ ⟨(Nat.le_of_ble_eq_true rfl), (Nat.le_of_ble_eq_true rfl)⟩ dX4_moveDate_120 (fun _ _ z => False.elim z) (fun v9 ws9 h37 => ?_)
              obtain ⟨rfl, hw9⟩ := h37
              subst ws9
              dsimp only [mPush]
              refine r_iret hX hE dX4_moveDate_123 (Nat.le_of_ble_eq_true rfl) (Nat.le_of_ble_eq_true rfl) ⟨_, rfl, Or.inl ⟨by omega, ?_⟩⟩
              first | rw [show b3 = true by assumption] | rw [show b3 = false by assumption]
              simp only [zSg, cond]
              unfold oMv
              rw [if_neg (by omega), if_neg (by omega)]
              refine oeR (oLoc_c ?_ ?_ (by omega))
              · unfold zSn
                try unfold zSf at *
                repeat' split
                all_goals omega
              · unfold zNn
                split
                all_goals omega
        · refine r_aload_n hX dX4_moveDate_50 rfl rfl ?_
          refine r_iload_n hX dX4_moveDate_51 rfl rfl ?_
          refine r_iload_n hX dX4_moveDate_52 rfl rfl ?_
          refine r_if_neZ (tgt := 65) hX dX4_moveDate_53 (by decide) (by omega) (fun c38 => ?_) (fun c38 => ?_)
          · refine r_lload hX dX4_moveDate_65 rfl ?_
            refine r_callV hX (z_X4_moveMonths ad ae cs K S 0 rest hS _ (a0).toNat (by omega) (by omega) _ (by omega)) kv_X4_185 14 rfl rfl rfl rfl (Nat.le_of_ble_eq_true rfl) ⟨(Nat.le_of_ble_eq_true rfl), (Nat.le_of_ble_eq_true rfl)⟩ ⟨(Nat.le_of_ble_eq_true rfl), (Nat.le_of_ble_eq_true rfl)⟩ dX4_moveDate_67 (fun _ _ z => False.elim z) (fun v9 ws9 h39 => ?_)
            obtain ⟨rfl, hw9⟩ := h39
            subst ws9
            dsimp only [mPush]
            refine r_iret hX hE dX4_moveDate_70 (Nat.le_of_ble_eq_true rfl) (Nat.le_of_ble_eq_true rfl) ⟨_, rfl, Or.inl ⟨by omega, ?_⟩⟩
            first | rw [show b3 = true by assumption] | rw [show b3 = false by assumption]
            simp only [zSg, cond]
            unfold oMv
            first | rw [if_pos (by omega)] | rw [if_neg (by omega), if_pos (by omega)]
            unfold zMs
            exact oeR (oMon_c (by omega))
          · refine r_ldc2Z (z := 12) hX kc_X4_151 (by decide) dX4_moveDate_56 ?_
            refine r_lload hX dX4_moveDate_59 rfl ?_
            refine r_lmulZ hX dX4_moveDate_61 ?_
            refine r_goto (tgt := 67) hX dX4_moveDate_62 (by decide) ?_
            refine r_callV hX (z_X4_moveMonths ad ae cs K S 0 rest hS _ (a0).toNat (by omega) (by omega) _ (by omega)) kv_X4_185 14 rfl rfl rfl rfl (Nat.le_of_ble_eq_true rfl) ⟨(Nat.le_of_ble_eq_true rfl), (Nat.le_of_ble_eq_true rfl)⟩ ⟨(Nat.le_of_ble_eq_true rfl), (Nat.le_of_ble_eq_true rfl)⟩ dX4_moveDate_67 (fun _ _ z => False.elim z) (fun v9 ws9 h40 => ?_)
            obtain ⟨rfl, hw9⟩ := h40
            subst ws9
            dsimp only [mPush]
            refine r_iret hX hE dX4_moveDate_70 (Nat.le_of_ble_eq_true rfl) (Nat.le_of_ble_eq_true rfl) ⟨_, rfl, Or.inl ⟨by omega, ?_⟩⟩
            first | rw [show b3 = true by assumption] | rw [show b3 = false by assumption]
            simp only [zSg, cond]
            unfold oMv
            first | rw [if_pos (by omega)] | rw [if_neg (by omega), if_pos (by omega)]
            unfold zMs
            exact oeR (oMon_c (by omega))
    · rcases zst1 c5 with ⟨hx, e0⟩ | ⟨hx, hy, e0⟩
      · rw [e0]
        have hx := of_decide_eq_true hx
        refine r_iconstZ hX dX4_moveDate_28 ?_
        exact r_iret hX hE dX4_moveDate_29 (Nat.le_of_ble_eq_true rfl) (Nat.le_of_ble_eq_true rfl) ⟨_, rfl, Or.inr (Or.inl ⟨by omega, rfl⟩)⟩
      · exact absurd hy (by decide)
  · have c3 := of_decide_eq_false c3
    refine r_iconst (v := b2i true) hX dX4_moveDate_17 (by decide) ?_
    refine r_goto (tgt := 22) hX dX4_moveDate_18 (by decide) ?_
    refine r_callV hX (z_X4_isStopped ad ae cs K S th rest (decide (¬ (0 ≤ a0 ∧ a0 < 4))) true) kv_X4_68 14 rfl rfl rfl rfl (Nat.le_of_ble_eq_true rfl) ⟨(Nat.le_of_ble_eq_true rfl), (Nat.le_of_ble_eq_true rfl)⟩ ⟨(Nat.le_of_ble_eq_true rfl), (Nat.le_of_ble_eq_true rfl)⟩ dX4_moveDate_22 (fun _ _ z => False.elim z) (fun v9 ws9 h41 => ?_)
    obtain ⟨rfl, hw9⟩ := h41
    subst ws9
    dsimp only [mPush]
    refine r_if_eqB (tgt := 30) hX dX4_moveDate_25 (by decide) (fun c42 => ?_) (fun c42 => ?_)
    · exact absurd c42 (by simp)
    · rcases zst1 c42 with ⟨hx, e0⟩ | ⟨hx, hy, e0⟩
      · rw [e0]
        have hx := of_decide_eq_true hx
        refine r_iconstZ hX dX4_moveDate_28 ?_
        exact r_iret hX hE dX4_moveDate_29 (Nat.le_of_ble_eq_true rfl) (Nat.le_of_ble_eq_true rfl) ⟨_, rfl, Or.inr (Or.inl ⟨by omega, rfl⟩)⟩
      · rw [e0]
        have hx := of_decide_eq_false hx
        refine r_iconstZ hX dX4_moveDate_28 ?_
        exact r_iret hX hE dX4_moveDate_29 (Nat.le_of_ble_eq_true rfl) (Nat.le_of_ble_eq_true rfl) ⟨_, rfl, Or.inr (Or.inr ⟨by omega, by omega, rfl⟩)⟩
set_option maxHeartbeats 4000000 in
set_option maxRecDepth 20000 in
theorem z_X4_moveClock (ad ae : Nat → Nat) (cs : ClassId × ClassId × ClassId) (K : mK) (S : mS) (th : Int32) (rest : va_W) (hS : sWF S) (a0 : Int) (h0 : rJ a0) (a1 : Int) (h1 : rJ a1) (a2 : Int) (h2 : rJ a2) (b3 : Bool)  : mCt (mTy cs) yX4_moveClock cX4_moveClock 9 (some .int) ⟨3, 0, 0, 71⟩ [.ref (ae 0), .int (iZ a0), .int (iZ a1), .int (iZ a2), .int (b2i b3)] (mRw ad ae cs K (mJof S th) rest) (fun v ws' => ∃ r : Int32, v = some (.int r) ∧ (((((0 ≤ a0 ∧ a0 < 3)) ∧ (4 ≤ a1 ∧ a1 ≤ 7)) ∧ r = iZ (oClk S a0.toNat (sse S (a0.toNat + 4) + zSn (sna S (a0.toNat + 4)) a1 (zSg a2 b3)) (zNn (sna S (a0.toNat + 4)) a1 (zSg a2 b3)) (sow S (a0.toNat + 4))).1 ∧ ws' = mRw ad ae cs K (mJof (oClk S a0.toNat (sse S (a0.toNat + 4) + zSn (sna S (a0.toNat + 4)) a1 (zSg a2 b3)) (zNn (sna S (a0.toNat + 4)) a1 (zSg a2 b3)) (sow S (a0.toNat + 4))).2 0) rest) ∨ (¬ ((0 ≤ a0 ∧ a0 < 3)) ∧ ws' = mRw ad ae cs K (mJof S 1) rest) ∨ (((0 ≤ a0 ∧ a0 < 3)) ∧ ¬ (4 ≤ a1 ∧ a1 ≤ 7) ∧ ws' = mRw ad ae cs K (mJof S 2) rest))) mNo := by
  refine mCt.of (by decide +kernel) (Nat.le_of_ble_eq_true rfl) (fun X hX hE => ?_)
  replace hX : mOK X RX4 cX4_moveClock 9 ⟨3, 0, 0, 71⟩ [] (mTy cs) := hX
  refine r_aload_n hX dX4_moveClock_0 rfl rfl ?_
  refine r_iload_n hX dX4_moveClock_1 rfl rfl ?_
  refine r_callS hX (z_X4_isNoClock _ _ _ (by omega)) ks_X4_205 rfl rfl (Nat.le_of_ble_eq_true rfl) ⟨(Nat.le_of_ble_eq_true rfl), (Nat.le_of_ble_eq_true rfl)⟩ ⟨(Nat.le_of_ble_eq_true rfl), (Nat.le_of_ble_eq_true rfl)⟩ dX4_moveClock_2 (fun _ _ z => False.elim z) (fun v9 ws9 h1 => ?_)
  obtain ⟨rfl, hw9⟩ := h1
  subst ws9
  dsimp only [mPush]
  refine r_iload_n hX dX4_moveClock_5 rfl rfl ?_
  refine r_i2lZ hX dX4_moveClock_6 (by omega) ?_
  refine r_ldc2Z (z := 4) hX kc_X4_212 (by decide) dX4_moveClock_7 ?_
  refine r_ldc2Z (z := 7) hX kc_X4_183 (by decide) dX4_moveClock_10 ?_
  refine r_callS hX (z_X4_isIn _ _ _ _ _ (by omega) (by omega) (by omega)) ks_X4_38 rfl rfl (Nat.le_of_ble_eq_true rfl) ⟨(Nat.le_of_ble_eq_true rfl), (Nat.le_of_ble_eq_true rfl)⟩ ⟨(Nat.le_of_ble_eq_true rfl), (Nat.le_of_ble_eq_true rfl)⟩ dX4_moveClock_13 (fun _ _ z => False.elim z) (fun v9 ws9 h2 => ?_)
  obtain ⟨rfl, hw9⟩ := h2
  subst ws9
  dsimp only [mPush]
  refine r_if_neB (tgt := 23) hX dX4_moveClock_16 (by decide) (fun c3 => ?_) (fun c3 => ?_)
  · have c3 := of_decide_eq_true c3
    refine r_iconst (v := b2i false) hX dX4_moveClock_23 (by decide) ?_
    refine r_callV hX (z_X4_isStopped ad ae cs K S th rest (decide (¬ (0 ≤ a0 ∧ a0 < 3))) false) kv_X4_68 14 rfl rfl rfl rfl (Nat.le_of_ble_eq_true rfl) ⟨(Nat.le_of_ble_eq_true rfl), (Nat.le_of_ble_eq_true rfl)⟩ ⟨(Nat.le_of_ble_eq_true rfl), (Nat.le_of_ble_eq_true rfl)⟩ dX4_moveClock_24 (fun _ _ z => False.elim z) (fun v9 ws9 h4 => ?_)
    obtain ⟨rfl, hw9⟩ := h4
    subst ws9
    dsimp only [mPush]
    refine r_if_eqB (tgt := 32) hX dX4_moveClock_27 (by decide) (fun c5 => ?_) (fun c5 => ?_)
    · obtain ⟨⟨hx, hy⟩, e0⟩ := zst0 c5
      have hx := of_decide_eq_false hx
      rw [e0]
      have hrk0 := zrg hS (d := a0.toNat + 4) (by omega)
      have hsk0 := hS.2.2.2.2 (a0.toNat + 4) (by omega) (by omega)
      refine r_iload hX dX4_moveClock_32 rfl ?_
      refine r_if_eqB (tgt := 43) hX dX4_moveClock_34 (by decide) (fun c6 => ?_) (fun c6 => ?_)
      · have c6 := id c6
        refine r_iload_n hX dX4_moveClock_43 rfl rfl ?_
        refine r_i2lZ hX dX4_moveClock_44 (by omega) ?_
        refine r_lstore hX dX4_moveClock_45 (by decide) rfl ?_
        refine r_aload_n hX dX4_moveClock_47 rfl rfl ?_
        refine r_get hX kf_X4_23 14 rfl rfl dX4_moveClock_48 ?_
        refine r_iconstZ hX dX4_moveClock_51 ?_
        refine r_iload_n hX dX4_moveClock_52 rfl rfl ?_
        refine r_iaddZ hX dX4_moveClock_53 ?_
        refine r_ialdZ hX 19 0 rfl rfl (a0.toNat + 4) (by omega) (by omega) (by decide) dX4_moveClock_54 ?_
        refine r_i2lZ hX dX4_moveClock_55 (by omega) ?_
        refine r_iload_n hX dX4_moveClock_56 rfl rfl ?_
        refine r_bipushZ hX dX4_moveClock_57 (by decide) ?_
        refine r_icmp_neZ (tgt := 67) hX dX4_moveClock_59 (by decide) (by omega) (by decide) (fun c7 => ?_) (fun c7 => ?_)
        · refine r_lconstZ (v := 0) hX dX4_moveClock_67 rfl ?_
          refine r_laddZ hX dX4_moveClock_68 ?_
          refine r_lstore hX dX4_moveClock_69 (by decide) rfl ?_
          refine r_aload_n hX dX4_moveClock_71 rfl rfl ?_
          refine r_iload_n hX dX4_moveClock_72 rfl rfl ?_
          refine r_aload_n hX dX4_moveClock_73 rfl rfl ?_
          refine r_get hX kf_X4_20 14 rfl rfl dX4_moveClock_74 ?_
          refine r_iconstZ hX dX4_moveClock_77 ?_
          refine r_iload_n hX dX4_moveClock_78 rfl rfl ?_
          refine r_iaddZ hX dX4_moveClock_79 ?_
          refine r_ialdZ hX 18 0 rfl rfl (a0.toNat + 4) (by omega) (by omega) (by decide) dX4_moveClock_80 ?_
          refine r_i2lZ hX dX4_moveClock_81 (by omega) ?_
          refine r_lload hX dX4_moveClock_82 rfl ?_
          refine r_iload_n hX dX4_moveClock_84 rfl rfl ?_
          refine r_callS hX (z_X4_secondsOf _ _ _ (by omega)) ks_X4_188 rfl rfl (Nat.le_of_ble_eq_true rfl) ⟨(Nat.le_of_ble_eq_true rfl), (Nat.le_of_ble_eq_true rfl)⟩ ⟨(Nat.le_of_ble_eq_true rfl), (Nat.le_of_ble_eq_true rfl)⟩ dX4_moveClock_85 (fun _ _ z => False.elim z) (fun v9 ws9 h8 => ?_)
          obtain ⟨rfl, hw9⟩ := h8
          subst ws9
          dsimp only [mPush]
          have hsf := zSf_m (u := a1) (b := a2) (by omega)
          have hsf2 : 0 ≤ zSf a1 ∧ zSf a1 ≤ 3600 := by unfold zSf; (repeat' split) <;> omega
          refine r_i2lZ hX dX4_moveClock_88 (by omega) ?_
          refine r_lmulZ hX dX4_moveClock_89 ?_
          refine r_laddZ hX dX4_moveClock_90 ?_
          refine r_lload hX dX4_moveClock_91 rfl ?_
          refine r_ldc2Z (z := 1000000000) hX kc_X4_96 (by decide) dX4_moveClock_93 ?_
          refine r_callS hX (c_X4_whole_x _ _ _ _ (by omega) (by omega) (by omega) (by omega)) ks_X4_92 rfl rfl (Nat.le_of_ble_eq_true rfl) ⟨(Nat.le_of_ble_eq_true rfl), (Nat.le_of_ble_eq_true rfl)⟩ ⟨(Nat.le_of_ble_eq_true rfl), (Nat.le_of_ble_eq_true rfl)⟩ dX4_moveClock_96 (fun _ _ z => False.elim z) (fun v9 ws9 h9 => ?_)
          obtain ⟨rfl, hw9⟩ := h9
          subst ws9
          dsimp only [mPush]
          refine r_laddZ hX dX4_moveClock_99 ?_
          refine r_lload hX dX4_moveClock_100 rfl ?_
          refine r_ldc2Z (z := 1000000000) hX kc_X4_96 (by decide) dX4_moveClock_102 ?_
          refine r_callS hX (c_X4_rest_x _ _ _ _ (by omega) (by omega) (by omega) (by omega)) ks_X4_102 rfl rfl (Nat.le_of_ble_eq_true rfl) ⟨(Nat.le_of_ble_eq_true rfl), (Nat.le_of_ble_eq_true rfl)⟩ ⟨(Nat.le_of_ble_eq_true rfl), (Nat.le_of_ble_eq_true rfl)⟩ dX4_moveClock_105 (fun _ _ z => False.elim z) (fun v9 ws9 h10 => ?_)
          obtain ⟨rfl, hw9⟩ := h10
          subst ws9
          dsimp only [mPush]
          refine r_aload_n hX dX4_moveClock_108 rfl rfl ?_
          refine r_get hX kf_X4_26 14 rfl rfl dX4_moveClock_109 ?_
          refine r_iconstZ hX dX4_moveClock_112 ?_
          refine r_iload_n hX dX4_moveClock_113 rfl rfl ?_
          refine r_iaddZ hX dX4_moveClock_114 ?_
          refine r_ialdZ hX 20 0 rfl rfl (a0.toNat + 4) (by omega) (by omega) (by decide) dX4_moveClock_115 ?_
          refine r_callV hX (z_X4_turn ad ae cs K S 0 rest hS _ (a0).toNat (by omega) (by omega) _ _ _ (by omega)) kv_X4_208 14 rfl rfl rfl rfl (Nat.le_of_ble_eq_true rfl) ⟨(Nat.le_of_ble_eq_true rfl), (Nat.le_of_ble_eq_true rfl)⟩ ⟨(Nat.le_of_ble_eq_true rfl), (Nat.le_of_ble_eq_true rfl)⟩ dX4_moveClock_116 (fun _ _ z => False.elim z) (fun v9 ws9 h11 => ?_)
          obtain ⟨rfl, hw9⟩ := h11
          subst ws9
          dsimp only [mPush]
          refine r_iret hX hE dX4_moveClock_119 (Nat.le_of_ble_eq_true rfl) (Nat.le_of_ble_eq_true rfl) ⟨_, rfl, Or.inl ⟨by omega, ?_⟩⟩
          first | rw [show b3 = true by assumption] | rw [show b3 = false by assumption]
          simp only [zSg, cond]
          refine oeR (oClk_c ?_ ?_ (by omega))
          · unfold zSn
            try unfold zSf at *
            repeat' split
            all_goals omega
          · unfold zNn
            split
            all_goals omega
        · refine r_lload hX dX4_moveClock_62 rfl ?_
          refine r_goto (tgt := 68) hX dX4_moveClock_64 (by decide) ?_
          refine r_laddZ hX dX4_moveClock_68 ?_
          refine r_lstore hX dX4_moveClock_69 (by decide) rfl ?_
          refine r_aload_n hX dX4_moveClock_71 rfl rfl ?_
          refine r_iload_n hX dX4_moveClock_72 rfl rfl ?_
          refine r_aload_n hX dX4_moveClock_73 rfl rfl ?_
          refine r_get hX kf_X4_20 14 rfl rfl dX4_moveClock_74 ?_
          refine r_iconstZ hX dX4_moveClock_77 ?_
          refine r_iload_n hX dX4_moveClock_78 rfl rfl ?_
          refine r_iaddZ hX dX4_moveClock_79 ?_
          refine r_ialdZ hX 18 0 rfl rfl (a0.toNat + 4) (by omega) (by omega) (by decide) dX4_moveClock_80 ?_
          refine r_i2lZ hX dX4_moveClock_81 (by omega) ?_
          refine r_lload hX dX4_moveClock_82 rfl ?_
          refine r_iload_n hX dX4_moveClock_84 rfl rfl ?_
          refine r_callS hX (z_X4_secondsOf _ _ _ (by omega)) ks_X4_188 rfl rfl (Nat.le_of_ble_eq_true rfl) ⟨(Nat.le_of_ble_eq_true rfl), (Nat.le_of_ble_eq_true rfl)⟩ ⟨(Nat.le_of_ble_eq_true rfl), (Nat.le_of_ble_eq_true rfl)⟩ dX4_moveClock_85 (fun _ _ z => False.elim z) (fun v9 ws9 h12 => ?_)
          obtain ⟨rfl, hw9⟩ := h12
          subst ws9
          dsimp only [mPush]
          have hsf := zSf_m (u := a1) (b := a2) (by omega)
          have hsf2 : 0 ≤ zSf a1 ∧ zSf a1 ≤ 3600 := by unfold zSf; (repeat' split) <;> omega
          refine r_i2lZ hX dX4_moveClock_88 (by omega) ?_
          refine r_lmulZ hX dX4_moveClock_89 ?_
          refine r_laddZ hX dX4_moveClock_90 ?_
          refine r_lload hX dX4_moveClock_91 rfl ?_
          refine r_ldc2Z (z := 1000000000) hX kc_X4_96 (by decide) dX4_moveClock_93 ?_
          refine r_callS hX (c_X4_whole_x _ _ _ _ (by omega) (by omega) (by omega) (by omega)) ks_X4_92 rfl rfl (Nat.le_of_ble_eq_true rfl) ⟨(Nat.le_of_ble_eq_true rfl), (Nat.le_of_ble_eq_true rfl)⟩ ⟨(Nat.le_of_ble_eq_true rfl), (Nat.le_of_ble_eq_true rfl)⟩ dX4_moveClock_96 (fun _ _ z => False.elim z) (fun v9 ws9 h13 => ?_)
          obtain ⟨rfl, hw9⟩ := h13
          subst ws9
          dsimp only [mPush]
          refine r_laddZ hX dX4_moveClock_99 ?_
          refine r_lload hX dX4_moveClock_100 rfl ?_
          refine r_ldc2Z (z := 1000000000) hX kc_X4_96 (by decide) dX4_moveClock_102 ?_
          refine r_callS hX (c_X4_rest_x _ _ _ _ (by omega) (by omega) (by omega) (by omega)) ks_X4_102 rfl rfl (Nat.le_of_ble_eq_true rfl) ⟨(Nat.le_of_ble_eq_true rfl), (Nat.le_of_ble_eq_true rfl)⟩ ⟨(Nat.le_of_ble_eq_true rfl), (Nat.le_of_ble_eq_true rfl)⟩ dX4_moveClock_105 (fun _ _ z => False.elim z) (fun v9 ws9 h14 => ?_)
          obtain ⟨rfl, hw9⟩ := h14
          subst ws9
          dsimp only [mPush]
          refine r_aload_n hX dX4_moveClock_108 rfl rfl ?_
          refine r_get hX kf_X4_26 14 rfl rfl dX4_moveClock_109 ?_
          refine r_iconstZ hX dX4_moveClock_112 ?_
          refine r_iload_n hX dX4_moveClock_113 rfl rfl ?_
          refine r_iaddZ hX dX4_moveClock_114 ?_
          refine r_ialdZ hX 20 0 rfl rfl (a0.toNat + 4) (by omega) (by omega) (by decide) dX4_moveClock_115 ?_
          refine r_callV hX (z_X4_turn ad ae cs K S 0 rest hS _ (a0).toNat (by omega) (by omega) _ _ _ (by omega)) kv_X4_208 14 rfl rfl rfl rfl (Nat.le_of_ble_eq_true rfl) ⟨(Nat.le_of_ble_eq_true rfl), (Nat.le_of_ble_eq_true rfl)⟩ ⟨(Nat.le_of_ble_eq_true rfl), (Nat.le_of_ble_eq_true rfl)⟩ dX4_moveClock_116 (fun _ _ z => False.elim z) (fun v9 ws9 h15 => ?_)
          obtain ⟨rfl, hw9⟩ := h15
          subst ws9
          dsimp only [mPush]
          refine r_iret hX hE dX4_moveClock_119 (Nat.le_of_ble_eq_true rfl) (Nat.le_of_ble_eq_true rfl) ⟨_, rfl, Or.inl ⟨by omega, ?_⟩⟩
          first | rw [show b3 = true by assumption] | rw [show b3 = false by assumption]
          simp only [zSg, cond]
          refine oeR (oClk_c ?_ ?_ (by omega))
          · unfold zSn
            try unfold zSf at *
            repeat' split
            all_goals omega
          · unfold zNn
            split
            all_goals omega
      · have c6 := id c6
        refine r_iload_n hX dX4_moveClock_37 rfl rfl ?_
        refine r_i2lZ hX dX4_moveClock_38 (by omega) ?_
        refine r_lnegZ hX dX4_moveClock_39 ?_
        refine r_goto (tgt := 45) hX dX4_moveClock_40 (by decide) ?_
        refine r_lstore hX dX4_moveClock_45 (by decide) rfl ?_
        refine r_aload_n hX dX4_moveClock_47 rfl rfl ?_
        refine r_get hX kf_X4_23 14 rfl rfl dX4_moveClock_48 ?_
        refine r_iconstZ hX dX4_moveClock_51 ?_
        refine r_iload_n hX dX4_moveClock_52 rfl rfl ?_
        refine r_iaddZ hX dX4_moveClock_53 ?_
        refine r_ialdZ hX 19 0 rfl rfl (a0.toNat + 4) (by omega) (by omega) (by decide) dX4_moveClock_54 ?_
        refine r_i2lZ hX dX4_moveClock_55 (by omega) ?_
        refine r_iload_n hX dX4_moveClock_56 rfl rfl ?_
        refine r_bipushZ hX dX4_moveClock_57 (by decide) ?_
        refine r_icmp_neZ (tgt := 67) hX dX4_moveClock_59 (by decide) (by omega) (by decide) (fun c16 => ?_) (fun c16 => ?_)
        · refine r_lconstZ (v := 0) hX dX4_moveClock_67 rfl ?_
          refine r_laddZ hX dX4_moveClock_68 ?_
          refine r_lstore hX dX4_moveClock_69 (by decide) rfl ?_
          refine r_aload_n hX dX4_moveClock_71 rfl rfl ?_
          refine r_iload_n hX dX4_moveClock_72 rfl rfl ?_
          refine r_aload_n hX dX4_moveClock_73 rfl rfl ?_
          refine r_get hX kf_X4_20 14 rfl rfl dX4_moveClock_74 ?_
          refine r_iconstZ hX dX4_moveClock_77 ?_
          refine r_iload_n hX dX4_moveClock_78 rfl rfl ?_
          refine r_iaddZ hX dX4_moveClock_79 ?_
          refine r_ialdZ hX 18 0 rfl rfl (a0.toNat + 4) (by omega) (by omega) (by decide) dX4_moveClock_80 ?_
          refine r_i2lZ hX dX4_moveClock_81 (by omega) ?_
          refine r_lload hX dX4_moveClock_82 rfl ?_
          refine r_iload_n hX dX4_moveClock_84 rfl rfl ?_
          refine r_callS hX (z_X4_secondsOf _ _ _ (by omega)) ks_X4_188 rfl rfl (Nat.le_of_ble_eq_true rfl) ⟨(Nat.le_of_ble_eq_true rfl), (Nat.le_of_ble_eq_true rfl)⟩ ⟨(Nat.le_of_ble_eq_true rfl), (Nat.le_of_ble_eq_true rfl)⟩ dX4_moveClock_85 (fun _ _ z => False.elim z) (fun v9 ws9 h17 => ?_)
          obtain ⟨rfl, hw9⟩ := h17
          subst ws9
          dsimp only [mPush]
          have hsf := zSf_m (u := a1) (b := -a2) (by omega)
          have hsf2 : 0 ≤ zSf a1 ∧ zSf a1 ≤ 3600 := by unfold zSf; (repeat' split) <;> omega
          refine r_i2lZ hX dX4_moveClock_88 (by omega) ?_
          refine r_lmulZ hX dX4_moveClock_89 ?_
          refine r_laddZ hX dX4_moveClock_90 ?_
          refine r_lload hX dX4_moveClock_91 rfl ?_
          refine r_ldc2Z (z := 1000000000) hX kc_X4_96 (by decide) dX4_moveClock_93 ?_
          refine r_callS hX (c_X4_whole_x _ _ _ _ (by omega) (by omega) (by omega) (by omega)) ks_X4_92 rfl rfl (Nat.le_of_ble_eq_true rfl) ⟨(Nat.le_of_ble_eq_true rfl), (Nat.le_of_ble_eq_true rfl)⟩ ⟨(Nat.le_of_ble_eq_true rfl), (Nat.le_of_ble_eq_true rfl)⟩ dX4_moveClock_96 (fun _ _ z => False.elim z) (fun v9 ws9 h18 => ?_)
          obtain ⟨rfl, hw9⟩ := h18
          subst ws9
          dsimp only [mPush]
          refine r_laddZ hX dX4_moveClock_99 ?_
          refine r_lload hX dX4_moveClock_100 rfl ?_
          refine r_ldc2Z (z := 1000000000) hX kc_X4_96 (by decide) dX4_moveClock_102 ?_
          refine r_callS hX (c_X4_rest_x _ _ _ _ (by omega) (by omega) (by omega) (by omega)) ks_X4_102 rfl rfl (Nat.le_of_ble_eq_true rfl) ⟨(Nat.le_of_ble_eq_true rfl), (Nat.le_of_ble_eq_true rfl)⟩ ⟨(Nat.le_of_ble_eq_true rfl), (Nat.le_of_ble_eq_true rfl)⟩ dX4_moveClock_105 (fun _ _ z => False.elim z) (fun v9 ws9 h19 => ?_)
          obtain ⟨rfl, hw9⟩ := h19
          subst ws9
          dsimp only [mPush]
          refine r_aload_n hX dX4_moveClock_108 rfl rfl ?_
          refine r_get hX kf_X4_26 14 rfl rfl dX4_moveClock_109 ?_
          refine r_iconstZ hX dX4_moveClock_112 ?_
          refine r_iload_n hX dX4_moveClock_113 rfl rfl ?_
          refine r_iaddZ hX dX4_moveClock_114 ?_
          refine r_ialdZ hX 20 0 rfl rfl (a0.toNat + 4) (by omega) (by omega) (by decide) dX4_moveClock_115 ?_
          refine r_callV hX (z_X4_turn ad ae cs K S 0 rest hS _ (a0).toNat (by omega) (by omega) _ _ _ (by omega)) kv_X4_208 14 rfl rfl rfl rfl (Nat.le_of_ble_eq_true rfl) ⟨(Nat.le_of_ble_eq_true rfl), (Nat.le_of_ble_eq_true rfl)⟩ ⟨(Nat.le_of_ble_eq_true rfl), (Nat.le_of_ble_eq_true rfl)⟩ dX4_moveClock_116 (fun _ _ z => False.elim z) (fun v9 ws9 h20 => ?_)
          obtain ⟨rfl, hw9⟩ := h20
          subst ws9
          dsimp only [mPush]
          refine r_iret hX hE dX4_moveClock_119 (Nat.le_of_ble_eq_true rfl) (Nat.le_of_ble_eq_true rfl) ⟨_, rfl, Or.inl ⟨by omega, ?_⟩⟩
          first | rw [show b3 = true by assumption] | rw [show b3 = false by assumption]
          simp only [zSg, cond]
          refine oeR (oClk_c ?_ ?_ (by omega))
          · unfold zSn
            try unfold zSf at *
            repeat' split
            all_goals omega
          · unfold zNn
            split
            all_goals omega
        · refine r_lload hX dX4_moveClock_62 rfl ?_
          refine r_goto (tgt := 68) hX dX4_moveClock_64 (by decide) ?_
          refine r_laddZ hX dX4_moveClock_68 ?_
          refine r_lstore hX dX4_moveClock_69 (by decide) rfl ?_
          refine r_aload_n hX dX4_moveClock_71 rfl rfl ?_
          refine r_iload_n hX dX4_moveClock_72 rfl rfl ?_
          refine r_aload_n hX dX4_moveClock_73 rfl rfl ?_
          refine r_get hX kf_X4_20 14 rfl rfl dX4_moveClock_74 ?_
          refine r_iconstZ hX dX4_moveClock_77 ?_
          refine r_iload_n hX dX4_moveClock_78 rfl rfl ?_
          refine r_iaddZ hX dX4_moveClock_79 ?_
          refine r_ialdZ hX 18 0 rfl rfl (a0.toNat + 4) (by omega) (by omega) (by decide) dX4_moveClock_80 ?_
          refine r_i2lZ hX dX4_moveClock_81 (by omega) ?_
          refine r_lload hX dX4_moveClock_82 rfl ?_
          refine r_iload_n hX dX4_moveClock_84 rfl rfl ?_
          refine r_callS hX (z_X4_secondsOf _ _ _ (by omega)) ks_X4_188 rfl rfl (Nat.le_of_ble_eq_true rfl) ⟨(Nat.le_of_ble_eq_true rfl), (Nat.le_of_ble_eq_true rfl)⟩ ⟨(Nat.le_of_ble_eq_true rfl), (Nat.le_of_ble_eq_true rfl)⟩ dX4_moveClock_85 (fun _ _ z => False.elim z) (fun v9 ws9 h21 => ?_)
          obtain ⟨rfl, hw9⟩ := h21
          subst ws9
          dsimp only [mPush]
          have hsf := zSf_m (u := a1) (b := -a2) (by omega)
          have hsf2 : 0 ≤ zSf a1 ∧ zSf a1 ≤ 3600 := by unfold zSf; (repeat' split) <;> omega
          refine r_i2lZ hX dX4_moveClock_88 (by omega) ?_
          refine r_lmulZ hX dX4_moveClock_89 ?_
          refine r_laddZ hX dX4_moveClock_90 ?_
          refine r_lload hX dX4_moveClock_91 rfl ?_
          refine r_ldc2Z (z := 1000000000) hX kc_X4_96 (by decide) dX4_moveClock_93 ?_
          refine r_callS hX (c_X4_whole_x _ _ _ _ (by omega) (by omega) (by omega) (by omega)) ks_X4_92 rfl rfl (Nat.le_of_ble_eq_true rfl) ⟨(Nat.le_of_ble_eq_true rfl), (Nat.le_of_ble_eq_true rfl)⟩ ⟨(Nat.le_of_ble_eq_true rfl), (Nat.le_of_ble_eq_true rfl)⟩ dX4_moveClock_96 (fun _ _ z => False.elim z) (fun v9 ws9 h22 => ?_)
          obtain ⟨rfl, hw9⟩ := h22
          subst ws9
          dsimp only [mPush]
          refine r_laddZ hX dX4_moveClock_99 ?_
          refine r_lload hX dX4_moveClock_100 rfl ?_
          refine r_ldc2Z (z := 1000000000) hX kc_X4_96 (by decide) dX4_moveClock_102 ?_
          refine r_callS hX (c_X4_rest_x _ _ _ _ (by omega) (by omega) (by omega) (by omega)) ks_X4_102 rfl rfl (Nat.le_of_ble_eq_true rfl) ⟨(Nat.le_of_ble_eq_true rfl), (Nat.le_of_ble_eq_true rfl)⟩ ⟨(Nat.le_of_ble_eq_true rfl), (Nat.le_of_ble_eq_true rfl)⟩ dX4_moveClock_105 (fun _ _ z => False.elim z) (fun v9 ws9 h23 => ?_)
          obtain ⟨rfl, hw9⟩ := h23
          subst ws9
          dsimp only [mPush]
          refine r_aload_n hX dX4_moveClock_108 rfl rfl ?_
          refine r_get hX kf_X4_26 14 rfl rfl dX4_moveClock_109 ?_
          refine r_iconstZ hX dX4_moveClock_112 ?_
          refine r_iload_n hX dX4_moveClock_113 rfl rfl ?_
          refine r_iaddZ hX dX4_moveClock_114 ?_
          refine r_ialdZ hX 20 0 rfl rfl (a0.toNat + 4) (by omega) (by omega) (by decide) dX4_moveClock_115 ?_
          refine r_callV hX (z_X4_turn ad ae cs K S 0 rest hS _ (a0).toNat (by omega) (by omega) _ _ _ (by omega)) kv_X4_208 14 rfl rfl rfl rfl (Nat.le_of_ble_eq_true rfl) ⟨(Nat.le_of_ble_eq_true rfl), (Nat.le_of_ble_eq_true rfl)⟩ ⟨(Nat.le_of_ble_eq_true rfl), (Nat.le_of_ble_eq_true rfl)⟩ dX4_moveClock_116 (fun _ _ z => False.elim z) (fun v9 ws9 h24 => ?_)
          obtain ⟨rfl, hw9⟩ := h24
          subst ws9
          dsimp only [mPush]
          refine r_iret hX hE dX4_moveClock_119 (Nat.le_of_ble_eq_true rfl) (Nat.le_of_ble_eq_true rfl) ⟨_, rfl, Or.inl ⟨by omega, ?_⟩⟩
          first | rw [show b3 = true by assumption] | rw [show b3 = false by assumption]
          simp only [zSg, cond]
          refine oeR (oClk_c ?_ ?_ (by omega))
          · unfold zSn
            try unfold zSf at *
            repeat' split
            all_goals omega
          · unfold zNn
            split
            all_goals omega
    · rcases zst1 c5 with ⟨hx, e0⟩ | ⟨hx, hy, e0⟩
      · rw [e0]
        have hx := of_decide_eq_true hx
        refine r_iconstZ hX dX4_moveClock_30 ?_
        exact r_iret hX hE dX4_moveClock_31 (Nat.le_of_ble_eq_true rfl) (Nat.le_of_ble_eq_true rfl) ⟨_, rfl, Or.inr (Or.inl ⟨by omega, rfl⟩)⟩
      · exact absurd hy (by decide)
  · have c3 := of_decide_eq_false c3
    refine r_iconst (v := b2i true) hX dX4_moveClock_19 (by decide) ?_
    refine r_goto (tgt := 24) hX dX4_moveClock_20 (by decide) ?_
    refine r_callV hX (z_X4_isStopped ad ae cs K S th rest (decide (¬ (0 ≤ a0 ∧ a0 < 3))) true) kv_X4_68 14 rfl rfl rfl rfl (Nat.le_of_ble_eq_true rfl) ⟨(Nat.le_of_ble_eq_true rfl), (Nat.le_of_ble_eq_true rfl)⟩ ⟨(Nat.le_of_ble_eq_true rfl), (Nat.le_of_ble_eq_true rfl)⟩ dX4_moveClock_24 (fun _ _ z => False.elim z) (fun v9 ws9 h25 => ?_)
    obtain ⟨rfl, hw9⟩ := h25
    subst ws9
    dsimp only [mPush]
    refine r_if_eqB (tgt := 32) hX dX4_moveClock_27 (by decide) (fun c26 => ?_) (fun c26 => ?_)
    · exact absurd c26 (by simp)
    · rcases zst1 c26 with ⟨hx, e0⟩ | ⟨hx, hy, e0⟩
      · rw [e0]
        have hx := of_decide_eq_true hx
        refine r_iconstZ hX dX4_moveClock_30 ?_
        exact r_iret hX hE dX4_moveClock_31 (Nat.le_of_ble_eq_true rfl) (Nat.le_of_ble_eq_true rfl) ⟨_, rfl, Or.inr (Or.inl ⟨by omega, rfl⟩)⟩
      · rw [e0]
        have hx := of_decide_eq_false hx
        refine r_iconstZ hX dX4_moveClock_30 ?_
        exact r_iret hX hE dX4_moveClock_31 (Nat.le_of_ble_eq_true rfl) (Nat.le_of_ble_eq_true rfl) ⟨_, rfl, Or.inr (Or.inr ⟨by omega, by omega, rfl⟩)⟩

