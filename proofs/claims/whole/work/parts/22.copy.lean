
theorem sub_ti {a b : Nat} (ha : a < 2 ^ 30) (hb : b < 2 ^ 31) : (nI a - nI b).toInt = (a : Int) - b := by
  rw [Int32.toInt_sub, nI_toInt (by omega), nI_toInt (by omega)]
  exact Int.bmod_eq_of_le (by omega) (by omega)
theorem le_sub {z f k : Nat} (hz : z < 2 ^ 30) (hf : f < 2 ^ 31) (hk : k < 2 ^ 31) : nI k ≤ nI z - nI f ↔ k + f ≤ z := by
  rw [Int32.le_iff_toInt_le, sub_ti hz hf, nI_toInt hk]; omega
theorem sub_lt {z f k : Nat} (hz : z < 2 ^ 30) (hf : f < 2 ^ 31) (hk : k < 2 ^ 31) : nI z - nI k < nI f ↔ z < k + f := by
  rw [Int32.lt_iff_toInt_lt, sub_ti hz hk, nI_toInt hf]; omega
theorem cpy_s {f g : Nat → Int64} {sp dp k : Nat} : vp_updL (va_cpy f g sp dp k) (dp + k) (f (sp + k)) = va_cpy f g sp dp (k + 1) := by
  funext j
  rw [updL_at]
  unfold va_cpy
  by_cases e : j = dp + k
  · rw [if_pos e, if_pos (by omega), show sp + (j - dp) = sp + k by omega]
  · rw [if_neg e]
    by_cases e2 : dp ≤ j ∧ j < dp + k
    · rw [if_pos e2, if_pos (by omega)]
    · rw [if_neg e2, if_neg (by omega)]
theorem cpy_0 {f g : Nat → Int64} {sp dp : Nat} : va_cpy f g sp dp 0 = g := by
  funext j; unfold va_cpy; rw [if_neg (by omega)]

theorem c_hasRange_t {h : Hp} {q z f k : Nat} (hq : q < 4) (e : h.1 59 q = nI z) (hz : z ≤ 40) (hk : k + f ≤ z) : Gd mX3_hasRange 0 [.ref 56, .int (nI q), .int (nI f), .int (nI k)] [] h (some (.int (nI 1)), h) := by
  refine gd_ild2 dX3_hasRange_0 ?_
  refine gd_if_lt_f 24 dX3_hasRange_1 (by decide) (by exact nI_pos (by omega)) ?_
  refine gd_ild3 dX3_hasRange_4 ?_
  refine gd_if_lt_f 24 dX3_hasRange_5 (by decide) (by exact nI_pos (by omega)) ?_
  refine gd_ild3 dX3_hasRange_8 ?_
  refine gd_ald0 dX3_hasRange_9 (by decide) ?_
  refine gd_getR (r := 59) dX3_hasRange_10 fl_3_19 rfl rfl rfl (by decide) ?_
  refine gd_ild1 dX3_hasRange_13 ?_
  refine gd_iald (n := 4) dX3_hasRange_14 rfl (by decide) (by repeat' (first | with_reducible rfl | apply ni_add | apply ni_mul)) (by omega) ?_
  rw [e]
  refine gd_ild2 dX3_hasRange_15 ?_
  refine gd_isub dX3_hasRange_16 ?_
  refine gd_icmp_gt_f 24 dX3_hasRange_17 (by decide) (Int32.not_lt.mpr ((le_sub (by omega) (by omega) (by omega)).mpr hk)) ?_
  refine gd_ic1 dX3_hasRange_20 ?_
  refine gd_goto 25 dX3_hasRange_21 (by decide) ?_
  refine gd_iret dX3_hasRange_25 rfl (by first | rfl | decide | exact nar_bi _ | assumption) ?_
  rfl
theorem c_hasRange_f {h : Hp} {q z : Nat} {f k : Int32} (hq : q < 4) (e : h.1 59 q = nI z) (hk : ¬ (0 ≤ f ∧ 0 ≤ k ∧ k ≤ nI z - f)) : Gd mX3_hasRange 0 [.ref 56, .int (nI q), .int f, .int k] [] h (some (.int (nI 0)), h) := by
  refine gd_ild2 dX3_hasRange_0 ?_
  refine gd_if_lt 24 dX3_hasRange_1 (by decide) (fun c1 => ?_) (fun c1 => ?_)
  · refine gd_ic0 dX3_hasRange_24 ?_
    refine gd_iret dX3_hasRange_25 rfl (by first | rfl | decide | exact nar_bi _ | assumption) ?_
    rfl
  · refine gd_ild3 dX3_hasRange_4 ?_
    refine gd_if_lt 24 dX3_hasRange_5 (by decide) (fun c5 => ?_) (fun c5 => ?_)
    · refine gd_ic0 dX3_hasRange_24 ?_
      refine gd_iret dX3_hasRange_25 rfl (by first | rfl | decide | exact nar_bi _ | assumption) ?_
      rfl
    · refine gd_ild3 dX3_hasRange_8 ?_
      refine gd_ald0 dX3_hasRange_9 (by decide) ?_
      refine gd_getR (r := 59) dX3_hasRange_10 fl_3_19 rfl rfl rfl (by decide) ?_
      refine gd_ild1 dX3_hasRange_13 ?_
      refine gd_iald (n := 4) dX3_hasRange_14 rfl (by decide) (by repeat' (first | with_reducible rfl | apply ni_add | apply ni_mul)) (by omega) ?_
      rw [e]
      refine gd_ild2 dX3_hasRange_15 ?_
      refine gd_isub dX3_hasRange_16 ?_
      refine gd_icmp_gt 24 dX3_hasRange_17 (by decide) (fun c17 => ?_) (fun c17 => ?_)
      · refine gd_ic0 dX3_hasRange_24 ?_
        refine gd_iret dX3_hasRange_25 rfl (by first | rfl | decide | exact nar_bi _ | assumption) ?_
        rfl
      · refine gd_ic1 dX3_hasRange_20 ?_
        refine gd_goto 25 dX3_hasRange_21 (by decide) ?_
        refine gd_iret dX3_hasRange_25 rfl (by first | rfl | decide | exact nar_bi _ | assumption) ?_
        exact absurd ⟨Int32.not_lt.mp c1, Int32.not_lt.mp c5, Int32.not_lt.mp c17⟩ hk
theorem c_move {q r f g k : Nat} (hq : q < 4) (hr : r < 4) (hf : k + f ≤ 40) (hg : k + g ≤ 40) (h : Hp) : Gd mX3_move 0 [.ref 56, .int (nI q), .int (nI f), .int (nI r), .int (nI g), .int (nI k)] [] h (none, sL h 57 (va_cpy (h.2 57) (h.2 57) (40 * q + f) (40 * r + g) k)) := by
  refine gd_ald0 dX3_move_0 (by decide) ?_
  refine gd_getR (r := 57) dX3_move_1 fl_3_9 rfl rfl rfl (by decide) ?_
  refine gd_ild1 dX3_move_4 ?_
  refine gd_bipush (v := nI 40) dX3_move_5 (by decide) ?_
  refine gd_imul dX3_move_7 ?_
  refine gd_ild2 dX3_move_8 ?_
  refine gd_iadd dX3_move_9 ?_
  rw [show nI q * nI 40 + nI f = nI (40 * q + f) by rw [pk_mul, nI_add, Nat.mul_comm]]
  refine gd_ald0 dX3_move_10 (by decide) ?_
  refine gd_getR (r := 57) dX3_move_11 fl_3_9 rfl rfl rfl (by decide) ?_
  refine gd_ild3 dX3_move_14 ?_
  refine gd_bipush (v := nI 40) dX3_move_15 (by decide) ?_
  refine gd_imul dX3_move_17 ?_
  refine gd_ild4 dX3_move_18 ?_
  refine gd_iadd dX3_move_20 ?_
  rw [show nI r * nI 40 + nI g = nI (40 * r + g) by rw [pk_mul, nI_add, Nat.mul_comm]]
  refine gd_ild5 dX3_move_21 ?_
  refine gd_acL (n0 := 160) (n1 := 160) dX3_move_23 ac_3_36 (Nat.le_of_ble_eq_true rfl) (Nat.le_of_ble_eq_true rfl) (Nat.le_of_ble_eq_true rfl) rfl rfl (by first | exact nI_pos (by omega) | (rw [nI_clamp (by omega), nI_clamp (by omega)]; omega)) (by first | exact nI_pos (by omega) | (rw [nI_clamp (by omega), nI_clamp (by omega)]; omega)) (by first | exact nI_pos (by omega) | (rw [nI_clamp (by omega), nI_clamp (by omega)]; omega)) (by first | exact nI_pos (by omega) | (rw [nI_clamp (by omega), nI_clamp (by omega)]; omega)) (by first | exact nI_pos (by omega) | (rw [nI_clamp (by omega), nI_clamp (by omega)]; omega)) ?_
  refine gd_vret dX3_move_26 rfl ?_
  rw [nI_clamp (by omega), nI_clamp (by omega), nI_clamp (by omega)]
theorem cpy_cpy {f g : Nat → Int64} {sp dp k n : Nat} (hk : k ≤ n) : va_cpy (va_cpy f g sp 0 n) f 0 dp k = va_cpy f f sp dp k := by
  funext j
  unfold va_cpy
  by_cases e : dp ≤ j ∧ j < dp + k
  · rw [if_pos e, if_pos e, if_pos (by omega), show sp + (0 + (j - dp) - 0) = sp + (j - dp) by omega]
  · rw [if_neg e, if_neg e]
theorem lp_copy2 {q r f g k : Nat} (hq : q < 4) (hr : r < 4) (hf : k + f ≤ 40) (hg : k + g ≤ 40) (h : Hp) : Gd mX9_copy 153 [.ref 72, .int (nI q), .int (nI f), .int (nI r), .int (nI g), .int (nI k), .int (nI 0)] [] (sL h 93 (va_cpy (h.2 92) (h.2 93) (40 * q + f) 0 k)) (some (.int (nI k)), sL (sL h 93 (va_cpy (h.2 92) (h.2 93) (40 * q + f) 0 k)) 92 (va_cpy (h.2 92) (h.2 92) (40 * q + f) (40 * r + g) k)) := by
  have key := loopG (P := fun j => Gd mX9_copy 153 [.ref 72, .int (nI q), .int (nI f), .int (nI r), .int (nI g), .int (nI k), .int (nI j)] [] (sL (sL h 93 (va_cpy (h.2 92) (h.2 93) (40 * q + f) 0 k)) 92 (va_cpy (va_cpy (h.2 92) (h.2 93) (40 * q + f) 0 k) (h.2 92) 0 (40 * r + g) j)) (some (.int (nI k)), sL (sL h 93 (va_cpy (h.2 92) (h.2 93) (40 * q + f) 0 k)) 92 (va_cpy (h.2 92) (h.2 92) (40 * q + f) (40 * r + g) k))) (n := k) ?_ ?_ 0 (by omega)
  · rw [cpy_0] at key
    refine gd_eq rfl ?_
    rw [show sL h 93 (va_cpy (h.2 92) (h.2 93) (40 * q + f) 0 k) = sL (sL h 93 (va_cpy (h.2 92) (h.2 93) (40 * q + f) 0 k)) 92 (h.2 92) from (sL_id (sL h 93 (va_cpy (h.2 92) (h.2 93) (40 * q + f) 0 k)) 92).symm]
    exact key
  · refine gd_ild6 dX9_copy_153 ?_
    refine gd_ild5 dX9_copy_155 ?_
    refine gd_icmp_ge_t 188 dX9_copy_157 (by decide) (by exact nI_le (by omega) (by omega)) ?_
    refine gd_ild5 dX9_copy_188 ?_
    refine gd_iret dX9_copy_190 rfl rfl ?_
    rw [cpy_cpy (Nat.le_refl _)]
  · intro j hj ih
    refine gd_ild6 dX9_copy_153 ?_
    refine gd_ild5 dX9_copy_155 ?_
    refine gd_icmp_ge_f 188 dX9_copy_157 (by decide) (by exact nI_ge (by omega) (by omega)) ?_
    refine gd_ald0 dX9_copy_160 (by decide) ?_
    refine gd_getR (r := 92) dX9_copy_161 fl_9_69 rfl rfl rfl (by decide) ?_
    refine gd_bipush (v := nI 40) dX9_copy_164 (by decide) ?_
    refine gd_ild3 dX9_copy_166 ?_
    refine gd_imul dX9_copy_167 ?_
    refine gd_ild4 dX9_copy_168 ?_
    refine gd_iadd dX9_copy_170 ?_
    refine gd_ild6 dX9_copy_171 ?_
    refine gd_iadd dX9_copy_173 ?_
    refine gd_ald0 dX9_copy_174 (by decide) ?_
    refine gd_getR (r := 93) dX9_copy_175 fl_9_72 rfl rfl rfl (by decide) ?_
    refine gd_ild6 dX9_copy_178 ?_
    refine gd_lald (n := 40) dX9_copy_180 rfl (by decide) (by repeat' (first | with_reducible rfl | apply ni_add | apply ni_mul)) (by omega) ?_
    refine gd_last (n := 160) dX9_copy_181 rfl (by decide) (by repeat' (first | with_reducible rfl | apply ni_add | apply ni_mul)) (by omega) ?_
    refine gd_iinc6 (b := nI 1) dX9_copy_182 (by decide) rfl ?_
    rw [nI_add]
    refine gd_goto 153 dX9_copy_185 (by decide) ?_
    rw [sL_s, sL_sL]
    rw [show (sL (sL h 93 (va_cpy (h.2 92) (h.2 93) (40 * q + f) 0 k)) 92 (va_cpy (va_cpy (h.2 92) (h.2 93) (40 * q + f) 0 k) (h.2 92) 0 (40 * r + g) j)).2 93 j = (va_cpy (h.2 92) (h.2 93) (40 * q + f) 0 k) (0 + j) by rw [Nat.zero_add]; rfl, cpy_s]
    exact ih
theorem lp_copy1 {q r f g k : Nat} (hq : q < 4) (hr : r < 4) (hf : k + f ≤ 40) (hg : k + g ≤ 40) (h : Hp) : Gd mX9_copy 116 [.ref 72, .int (nI q), .int (nI f), .int (nI r), .int (nI g), .int (nI k), .int (nI 0)] [] h (some (.int (nI k)), sL (sL h 93 (va_cpy (h.2 92) (h.2 93) (40 * q + f) 0 k)) 92 (va_cpy (h.2 92) (h.2 92) (40 * q + f) (40 * r + g) k)) := by
  have key := loopG (P := fun j => Gd mX9_copy 116 [.ref 72, .int (nI q), .int (nI f), .int (nI r), .int (nI g), .int (nI k), .int (nI j)] [] (sL h 93 (va_cpy (h.2 92) (h.2 93) (40 * q + f) 0 j)) (some (.int (nI k)), sL (sL h 93 (va_cpy (h.2 92) (h.2 93) (40 * q + f) 0 k)) 92 (va_cpy (h.2 92) (h.2 92) (40 * q + f) (40 * r + g) k))) (n := k) ?_ ?_ 0 (by omega)
  · rw [cpy_0, sL_id] at key
    exact key
  · refine gd_ild6 dX9_copy_116 ?_
    refine gd_ild5 dX9_copy_118 ?_
    refine gd_icmp_ge_t 150 dX9_copy_120 (by decide) (by exact nI_le (by omega) (by omega)) ?_
    refine gd_ic0 dX9_copy_150 ?_
    refine gd_ist6 dX9_copy_151 rfl ?_
    exact lp_copy2 hq hr hf hg h
  · intro j hj ih
    refine gd_ild6 dX9_copy_116 ?_
    refine gd_ild5 dX9_copy_118 ?_
    refine gd_icmp_ge_f 150 dX9_copy_120 (by decide) (by exact nI_ge (by omega) (by omega)) ?_
    refine gd_ald0 dX9_copy_123 (by decide) ?_
    refine gd_getR (r := 93) dX9_copy_124 fl_9_72 rfl rfl rfl (by decide) ?_
    refine gd_ild6 dX9_copy_127 ?_
    refine gd_ald0 dX9_copy_129 (by decide) ?_
    refine gd_getR (r := 92) dX9_copy_130 fl_9_69 rfl rfl rfl (by decide) ?_
    refine gd_bipush (v := nI 40) dX9_copy_133 (by decide) ?_
    refine gd_ild1 dX9_copy_135 ?_
    refine gd_imul dX9_copy_136 ?_
    refine gd_ild2 dX9_copy_137 ?_
    refine gd_iadd dX9_copy_138 ?_
    refine gd_ild6 dX9_copy_139 ?_
    refine gd_iadd dX9_copy_141 ?_
    refine gd_lald (n := 160) dX9_copy_142 rfl (by decide) (by repeat' (first | with_reducible rfl | apply ni_add | apply ni_mul)) (by omega) ?_
    refine gd_last (n := 40) dX9_copy_143 rfl (by decide) (by repeat' (first | with_reducible rfl | apply ni_add | apply ni_mul)) (by omega) ?_
    refine gd_iinc6 (b := nI 1) dX9_copy_144 (by decide) rfl ?_
    rw [nI_add]
    refine gd_goto 116 dX9_copy_147 (by decide) ?_
    rw [sL_s, sL_sL]
    rw [show (sL h 93 (va_cpy (h.2 92) (h.2 93) (40 * q + f) 0 j)).2 92 (40 * q + f + j) = h.2 92 (40 * q + f + j) from rfl]
    rw [show vp_updL (va_cpy (h.2 92) (h.2 93) (40 * q + f) 0 j) j (h.2 92 (40 * q + f + j)) = va_cpy (h.2 92) (h.2 93) (40 * q + f) 0 (j + 1) by rw [← cpy_s, Nat.zero_add]]
    exact ih
theorem SH.v2 {h : Hp} (s : SH h) {q : Nat} (hq : q < 4) : ∃ v, v < 100 ∧ h.1 90 q = nI v := by
  rcases s.v q hq with e | e | e | e
  · exact ⟨0, by decide, e⟩
  · exact ⟨8, by decide, e⟩
  · exact ⟨16, by decide, e⟩
  · exact ⟨64, by decide, e⟩
set_option maxHeartbeats 1000000 in
theorem p_copy {h : Hp} (i : Inv h) (a b c d e : Int32) : Pas mX8_copy mX9_copy [.ref 0, .int a, .int b, .int c, .int d, .int e] [.ref 72, .int a, .int b, .int c, .int d, .int e, .null] h := by
  rcases rng a (4) (by decide) with ⟨q, hq, rfl⟩ | ha
  · rcases rng c (4) (by decide) with ⟨r, hr, rfl⟩ | hc
    · have e91 := (i.s.n q hq).1
      have le91 := (i.s.n q hq).2
      have e59 : h.1 59 q = nI (tn (h.1 91 q)) := (i.s.z q hq).trans e91
      have f91 := (i.s.n r hr).1
      have lf91 := (i.s.n r hr).2
      have f59 : h.1 59 r = nI (tn (h.1 91 r)) := (i.s.z r hr).trans f91
      obtain ⟨v, hv, e90⟩ := i.s.v2 hq
      obtain ⟨u, hu, f90⟩ := i.s.v2 hr
      have e58 : h.1 58 q = nI v := (i.s.w q hq).trans e90
      have f58 : h.1 58 r = nI u := (i.s.w r hr).trans f90
      by_cases v0 : v = 0
      · subst v0
        refine Pas.find (h1 := h) (h2 := hf (h) 5) (v := -1000000006) (w := (-1000000000 : Int32) - nI 6) 5 i (by decide) (by decide) (by decide) (Same.rf _) (Same.rf _) ?_ ?_
        · refine gd_ild1 dX8_copy_0 ?_
          refine gd_ic4 dX8_copy_1 ?_
          refine gd_cS2i dX8_copy_2 ct_8_48 ⟨Nat.le_of_ble_eq_true rfl, Nat.le_of_ble_eq_true rfl⟩ (Nat.le_of_ble_eq_true rfl) (Nat.le_of_ble_eq_true rfl) (c_isBelow_t hq (by decide) _) ?_
          refine gd_if_eq_f 16 dX8_copy_5 (by decide) (by decide) ?_
          refine gd_ild3 dX8_copy_8 ?_
          refine gd_ic4 dX8_copy_9 ?_
          refine gd_cS2i dX8_copy_10 ct_8_48 ⟨Nat.le_of_ble_eq_true rfl, Nat.le_of_ble_eq_true rfl⟩ (Nat.le_of_ble_eq_true rfl) (Nat.le_of_ble_eq_true rfl) (c_isBelow_t hr (by decide) _) ?_
          refine gd_if_ne_t 23 dX8_copy_13 (by decide) (by decide) ?_
          refine gd_ald0 dX8_copy_23 (by decide) ?_
          refine gd_getR (r := 56) dX8_copy_24 fl_8_33 rfl rfl rfl (by decide) ?_
          refine gd_ild1 dX8_copy_27 ?_
          refine gd_cV1i dX8_copy_28 ct_8_82 rc_56 ⟨Nat.le_of_ble_eq_true rfl, Nat.le_of_ble_eq_true rfl⟩ (Nat.le_of_ble_eq_true rfl) (Nat.le_of_ble_eq_true rfl) (c_isMissing1 hq e58) ?_
          refine gd_if_ne_t 45 dX8_copy_31 (by decide) (by decide) ?_
          refine gd_ald0 dX8_copy_45 (by decide) ?_
          refine gd_ldc dX8_copy_46 ld_8_85 ?_
          refine gd_cV1i dX8_copy_48 ct_8_53 rc_0 ⟨Nat.le_of_ble_eq_true rfl, Nat.le_of_ble_eq_true rfl⟩ (Nat.le_of_ble_eq_true rfl) (Nat.le_of_ble_eq_true rfl) (c_f5 _) ?_
          refine gd_iret dX8_copy_51 rfl rfl ?_
          rfl
        · refine gd_ild1 dX9_copy_0 ?_
          refine gd_cS1i dX9_copy_1 ct_9_104 ⟨Nat.le_of_ble_eq_true rfl, Nat.le_of_ble_eq_true rfl⟩ (Nat.le_of_ble_eq_true rfl) (Nat.le_of_ble_eq_true rfl) (m_isSheet_t hq _) ?_
          refine gd_if_eq_f 14 dX9_copy_4 (by decide) (by decide) ?_
          refine gd_ild3 dX9_copy_7 ?_
          refine gd_cS1i dX9_copy_8 ct_9_104 ⟨Nat.le_of_ble_eq_true rfl, Nat.le_of_ble_eq_true rfl⟩ (Nat.le_of_ble_eq_true rfl) (Nat.le_of_ble_eq_true rfl) (m_isSheet_t hr _) ?_
          refine gd_if_ne_t 20 dX9_copy_11 (by decide) (by decide) ?_
          refine gd_ald0 dX9_copy_20 (by decide) ?_
          refine gd_getR (r := 90) dX9_copy_21 fl_9_63 rfl rfl rfl (by decide) ?_
          refine gd_ild1 dX9_copy_24 ?_
          refine gd_iald (n := 4) dX9_copy_25 rfl (by decide) (by repeat' (first | with_reducible rfl | apply ni_add | apply ni_mul)) (by omega) ?_
          rw [show (hf h 5).1 90 q = nI 0 from e90]
          refine gd_if_eq_t 38 dX9_copy_26 (by decide) (by decide) ?_
          refine gd_ald0 dX9_copy_38 (by decide) ?_
          refine gd_bipush (v := nI 6) dX9_copy_39 (by decide) ?_
          refine gd_cV1i dX9_copy_41 ct_9_97 rc_72 ⟨Nat.le_of_ble_eq_true rfl, Nat.le_of_ble_eq_true rfl⟩ (Nat.le_of_ble_eq_true rfl) (Nat.le_of_ble_eq_true rfl) (m_f5 _) ?_
          refine gd_iret dX9_copy_44 rfl rfl ?_
          rfl
      · by_cases u0 : u = 0
        · subst u0
          refine Pas.find (h1 := h) (h2 := hf (h) 5) (v := -1000000006) (w := (-1000000000 : Int32) - nI 6) 5 i (by decide) (by decide) (by decide) (Same.rf _) (Same.rf _) ?_ ?_
          · refine gd_ild1 dX8_copy_0 ?_
            refine gd_ic4 dX8_copy_1 ?_
            refine gd_cS2i dX8_copy_2 ct_8_48 ⟨Nat.le_of_ble_eq_true rfl, Nat.le_of_ble_eq_true rfl⟩ (Nat.le_of_ble_eq_true rfl) (Nat.le_of_ble_eq_true rfl) (c_isBelow_t hq (by decide) _) ?_
            refine gd_if_eq_f 16 dX8_copy_5 (by decide) (by decide) ?_
            refine gd_ild3 dX8_copy_8 ?_
            refine gd_ic4 dX8_copy_9 ?_
            refine gd_cS2i dX8_copy_10 ct_8_48 ⟨Nat.le_of_ble_eq_true rfl, Nat.le_of_ble_eq_true rfl⟩ (Nat.le_of_ble_eq_true rfl) (Nat.le_of_ble_eq_true rfl) (c_isBelow_t hr (by decide) _) ?_
            refine gd_if_ne_t 23 dX8_copy_13 (by decide) (by decide) ?_
            refine gd_ald0 dX8_copy_23 (by decide) ?_
            refine gd_getR (r := 56) dX8_copy_24 fl_8_33 rfl rfl rfl (by decide) ?_
            refine gd_ild1 dX8_copy_27 ?_
            refine gd_cV1i dX8_copy_28 ct_8_82 rc_56 ⟨Nat.le_of_ble_eq_true rfl, Nat.le_of_ble_eq_true rfl⟩ (Nat.le_of_ble_eq_true rfl) (Nat.le_of_ble_eq_true rfl) (c_isMissing0 hq e58 (by omega) (by omega)) ?_
            refine gd_if_ne_f 45 dX8_copy_31 (by decide) (by decide) ?_
            refine gd_ald0 dX8_copy_34 (by decide) ?_
            refine gd_getR (r := 56) dX8_copy_35 fl_8_33 rfl rfl rfl (by decide) ?_
            refine gd_ild3 dX8_copy_38 ?_
            refine gd_cV1i dX8_copy_39 ct_8_82 rc_56 ⟨Nat.le_of_ble_eq_true rfl, Nat.le_of_ble_eq_true rfl⟩ (Nat.le_of_ble_eq_true rfl) (Nat.le_of_ble_eq_true rfl) (c_isMissing1 hr f58) ?_
            refine gd_if_eq_f 52 dX8_copy_42 (by decide) (by decide) ?_
            refine gd_ald0 dX8_copy_45 (by decide) ?_
            refine gd_ldc dX8_copy_46 ld_8_85 ?_
            refine gd_cV1i dX8_copy_48 ct_8_53 rc_0 ⟨Nat.le_of_ble_eq_true rfl, Nat.le_of_ble_eq_true rfl⟩ (Nat.le_of_ble_eq_true rfl) (Nat.le_of_ble_eq_true rfl) (c_f5 _) ?_
            refine gd_iret dX8_copy_51 rfl rfl ?_
            rfl
          · refine gd_ild1 dX9_copy_0 ?_
            refine gd_cS1i dX9_copy_1 ct_9_104 ⟨Nat.le_of_ble_eq_true rfl, Nat.le_of_ble_eq_true rfl⟩ (Nat.le_of_ble_eq_true rfl) (Nat.le_of_ble_eq_true rfl) (m_isSheet_t hq _) ?_
            refine gd_if_eq_f 14 dX9_copy_4 (by decide) (by decide) ?_
            refine gd_ild3 dX9_copy_7 ?_
            refine gd_cS1i dX9_copy_8 ct_9_104 ⟨Nat.le_of_ble_eq_true rfl, Nat.le_of_ble_eq_true rfl⟩ (Nat.le_of_ble_eq_true rfl) (Nat.le_of_ble_eq_true rfl) (m_isSheet_t hr _) ?_
            refine gd_if_ne_t 20 dX9_copy_11 (by decide) (by decide) ?_
            refine gd_ald0 dX9_copy_20 (by decide) ?_
            refine gd_getR (r := 90) dX9_copy_21 fl_9_63 rfl rfl rfl (by decide) ?_
            refine gd_ild1 dX9_copy_24 ?_
            refine gd_iald (n := 4) dX9_copy_25 rfl (by decide) (by repeat' (first | with_reducible rfl | apply ni_add | apply ni_mul)) (by omega) ?_
            rw [show (hf h 5).1 90 q = nI v from e90]
            refine gd_if_eq_f 38 dX9_copy_26 (by decide) (by exact nI_ne0 (by omega) (by omega)) ?_
            refine gd_ald0 dX9_copy_29 (by decide) ?_
            refine gd_getR (r := 90) dX9_copy_30 fl_9_63 rfl rfl rfl (by decide) ?_
            refine gd_ild3 dX9_copy_33 ?_
            refine gd_iald (n := 4) dX9_copy_34 rfl (by decide) (by repeat' (first | with_reducible rfl | apply ni_add | apply ni_mul)) (by omega) ?_
            rw [show (hf h 5).1 90 r = nI 0 from f90]
            refine gd_if_ne_f 45 dX9_copy_35 (by decide) (by decide) ?_
            refine gd_ald0 dX9_copy_38 (by decide) ?_
            refine gd_bipush (v := nI 6) dX9_copy_39 (by decide) ?_
            refine gd_cV1i dX9_copy_41 ct_9_97 rc_72 ⟨Nat.le_of_ble_eq_true rfl, Nat.le_of_ble_eq_true rfl⟩ (Nat.le_of_ble_eq_true rfl) (Nat.le_of_ble_eq_true rfl) (m_f5 _) ?_
            refine gd_iret dX9_copy_44 rfl rfl ?_
            rfl
        · by_cases e90w : h.1 90 q = h.1 90 r
          · have e58w : h.1 58 q = h.1 58 r := by rw [i.s.w q hq, i.s.w r hr, e90w]
            by_cases hno : ∃ f g k : Nat, b = nI f ∧ d = nI g ∧ e = nI k ∧ k + f ≤ tn (h.1 91 q) ∧ k + g ≤ tn (h.1 91 r)
            · obtain ⟨f, g, k, rfl, rfl, rfl, hf1, hg1⟩ := hno
              refine ⟨.int (nI k), sL h 57 (va_cpy (h.2 57) (h.2 57) (40 * q + f) (40 * r + g) k), sL (sL (sL h 57 (va_cpy (h.2 57) (h.2 57) (40 * q + f) (40 * r + g) k)) 93 (va_cpy (h.2 92) (h.2 93) (40 * q + f) 0 k)) 92 (va_cpy (h.2 92) (h.2 92) (40 * q + f) (40 * r + g) k), ?_, ?_, ?_, rfl, rfl⟩
              · refine gd_ild1 dX8_copy_0 ?_
                refine gd_ic4 dX8_copy_1 ?_
                refine gd_cS2i dX8_copy_2 ct_8_48 ⟨Nat.le_of_ble_eq_true rfl, Nat.le_of_ble_eq_true rfl⟩ (Nat.le_of_ble_eq_true rfl) (Nat.le_of_ble_eq_true rfl) (c_isBelow_t hq (by decide) _) ?_
                refine gd_if_eq_f 16 dX8_copy_5 (by decide) (by decide) ?_
                refine gd_ild3 dX8_copy_8 ?_
                refine gd_ic4 dX8_copy_9 ?_
                refine gd_cS2i dX8_copy_10 ct_8_48 ⟨Nat.le_of_ble_eq_true rfl, Nat.le_of_ble_eq_true rfl⟩ (Nat.le_of_ble_eq_true rfl) (Nat.le_of_ble_eq_true rfl) (c_isBelow_t hr (by decide) _) ?_
                refine gd_if_ne_t 23 dX8_copy_13 (by decide) (by decide) ?_
                refine gd_ald0 dX8_copy_23 (by decide) ?_
                refine gd_getR (r := 56) dX8_copy_24 fl_8_33 rfl rfl rfl (by decide) ?_
                refine gd_ild1 dX8_copy_27 ?_
                refine gd_cV1i dX8_copy_28 ct_8_82 rc_56 ⟨Nat.le_of_ble_eq_true rfl, Nat.le_of_ble_eq_true rfl⟩ (Nat.le_of_ble_eq_true rfl) (Nat.le_of_ble_eq_true rfl) (c_isMissing0 hq e58 (by omega) (by omega)) ?_
                refine gd_if_ne_f 45 dX8_copy_31 (by decide) (by decide) ?_
                refine gd_ald0 dX8_copy_34 (by decide) ?_
                refine gd_getR (r := 56) dX8_copy_35 fl_8_33 rfl rfl rfl (by decide) ?_
                refine gd_ild3 dX8_copy_38 ?_
                refine gd_cV1i dX8_copy_39 ct_8_82 rc_56 ⟨Nat.le_of_ble_eq_true rfl, Nat.le_of_ble_eq_true rfl⟩ (Nat.le_of_ble_eq_true rfl) (Nat.le_of_ble_eq_true rfl) (c_isMissing0 hr f58 (by omega) (by omega)) ?_
                refine gd_if_eq_t 52 dX8_copy_42 (by decide) (by decide) ?_
                refine gd_ald0 dX8_copy_52 (by decide) ?_
                refine gd_getR (r := 56) dX8_copy_53 fl_8_33 rfl rfl rfl (by decide) ?_
                refine gd_getR (r := 58) dX8_copy_56 fl_8_306 rfl rfl rfl (by decide) ?_
                refine gd_ild1 dX8_copy_59 ?_
                refine gd_iald (n := 4) dX8_copy_60 rfl (by decide) (by repeat' (first | with_reducible rfl | apply ni_add | apply ni_mul)) (by omega) ?_
                refine gd_ald0 dX8_copy_61 (by decide) ?_
                refine gd_getR (r := 56) dX8_copy_62 fl_8_33 rfl rfl rfl (by decide) ?_
                refine gd_getR (r := 58) dX8_copy_65 fl_8_306 rfl rfl rfl (by decide) ?_
                refine gd_ild3 dX8_copy_68 ?_
                refine gd_iald (n := 4) dX8_copy_69 rfl (by decide) (by repeat' (first | with_reducible rfl | apply ni_add | apply ni_mul)) (by omega) ?_
                refine gd_icmp_eq_t 80 dX8_copy_70 (by decide) (e58w) ?_
                refine gd_ald0 dX8_copy_80 (by decide) ?_
                refine gd_getR (r := 56) dX8_copy_81 fl_8_33 rfl rfl rfl (by decide) ?_
                refine gd_ild1 dX8_copy_84 ?_
                refine gd_ild2 dX8_copy_85 ?_
                refine gd_ild5 dX8_copy_86 ?_
                refine gd_cV3i dX8_copy_88 ct_8_309 rc_56 ⟨Nat.le_of_ble_eq_true rfl, Nat.le_of_ble_eq_true rfl⟩ (Nat.le_of_ble_eq_true rfl) (Nat.le_of_ble_eq_true rfl) (c_hasRange_t hq e59 (by omega) (by omega)) ?_
                refine gd_if_eq_f 109 dX8_copy_91 (by decide) (by decide) ?_
                refine gd_ald0 dX8_copy_94 (by decide) ?_
                refine gd_getR (r := 56) dX8_copy_95 fl_8_33 rfl rfl rfl (by decide) ?_
                refine gd_ild3 dX8_copy_98 ?_
                refine gd_ild4 dX8_copy_99 ?_
                refine gd_ild5 dX8_copy_101 ?_
                refine gd_cV3i dX8_copy_103 ct_8_309 rc_56 ⟨Nat.le_of_ble_eq_true rfl, Nat.le_of_ble_eq_true rfl⟩ (Nat.le_of_ble_eq_true rfl) (Nat.le_of_ble_eq_true rfl) (c_hasRange_t hr f59 (by omega) (by omega)) ?_
                refine gd_if_ne_t 116 dX8_copy_106 (by decide) (by decide) ?_
                refine gd_ald0 dX8_copy_116 (by decide) ?_
                refine gd_getR (r := 56) dX8_copy_117 fl_8_33 rfl rfl rfl (by decide) ?_
                refine gd_ild1 dX8_copy_120 ?_
                refine gd_ild2 dX8_copy_121 ?_
                refine gd_ild3 dX8_copy_122 ?_
                refine gd_ild4 dX8_copy_123 ?_
                refine gd_ild5 dX8_copy_125 ?_
                refine gd_cV5v dX8_copy_127 ct_8_313 rc_56 ⟨Nat.le_of_ble_eq_true rfl, Nat.le_of_ble_eq_true rfl⟩ (Nat.le_of_ble_eq_true rfl) (Nat.le_of_ble_eq_true rfl) (c_move hq hr (by omega) (by omega) _) ?_
                refine gd_ild5 dX8_copy_130 ?_
                refine gd_iret dX8_copy_132 rfl rfl ?_
                rfl
              · refine gd_ild1 dX9_copy_0 ?_
                refine gd_cS1i dX9_copy_1 ct_9_104 ⟨Nat.le_of_ble_eq_true rfl, Nat.le_of_ble_eq_true rfl⟩ (Nat.le_of_ble_eq_true rfl) (Nat.le_of_ble_eq_true rfl) (m_isSheet_t hq _) ?_
                refine gd_if_eq_f 14 dX9_copy_4 (by decide) (by decide) ?_
                refine gd_ild3 dX9_copy_7 ?_
                refine gd_cS1i dX9_copy_8 ct_9_104 ⟨Nat.le_of_ble_eq_true rfl, Nat.le_of_ble_eq_true rfl⟩ (Nat.le_of_ble_eq_true rfl) (Nat.le_of_ble_eq_true rfl) (m_isSheet_t hr _) ?_
                refine gd_if_ne_t 20 dX9_copy_11 (by decide) (by decide) ?_
                refine gd_ald0 dX9_copy_20 (by decide) ?_
                refine gd_getR (r := 90) dX9_copy_21 fl_9_63 rfl rfl rfl (by decide) ?_
                refine gd_ild1 dX9_copy_24 ?_
                refine gd_iald (n := 4) dX9_copy_25 rfl (by decide) (by repeat' (first | with_reducible rfl | apply ni_add | apply ni_mul)) (by omega) ?_
                rw [show (sL h 57 (va_cpy (h.2 57) (h.2 57) (40 * q + f) (40 * r + g) k)).1 90 q = nI v from e90]
                refine gd_if_eq_f 38 dX9_copy_26 (by decide) (by exact nI_ne0 (by omega) (by omega)) ?_
                refine gd_ald0 dX9_copy_29 (by decide) ?_
                refine gd_getR (r := 90) dX9_copy_30 fl_9_63 rfl rfl rfl (by decide) ?_
                refine gd_ild3 dX9_copy_33 ?_
                refine gd_iald (n := 4) dX9_copy_34 rfl (by decide) (by repeat' (first | with_reducible rfl | apply ni_add | apply ni_mul)) (by omega) ?_
                rw [show (sL h 57 (va_cpy (h.2 57) (h.2 57) (40 * q + f) (40 * r + g) k)).1 90 r = nI u from f90]
                refine gd_if_ne_t 45 dX9_copy_35 (by decide) (by exact nI_ne0 (by omega) (by omega)) ?_
                refine gd_ald0 dX9_copy_45 (by decide) ?_
                refine gd_getR (r := 90) dX9_copy_46 fl_9_63 rfl rfl rfl (by decide) ?_
                refine gd_ild1 dX9_copy_49 ?_
                refine gd_iald (n := 4) dX9_copy_50 rfl (by decide) (by repeat' (first | with_reducible rfl | apply ni_add | apply ni_mul)) (by omega) ?_
                refine gd_ald0 dX9_copy_51 (by decide) ?_
                refine gd_getR (r := 90) dX9_copy_52 fl_9_63 rfl rfl rfl (by decide) ?_
                refine gd_ild3 dX9_copy_55 ?_
                refine gd_iald (n := 4) dX9_copy_56 rfl (by decide) (by repeat' (first | with_reducible rfl | apply ni_add | apply ni_mul)) (by omega) ?_
                refine gd_icmp_eq_t 66 dX9_copy_57 (by decide) (e90w) ?_
                refine gd_ild2 dX9_copy_66 ?_
                refine gd_if_lt_f 107 dX9_copy_67 (by decide) (by exact nI_pos (by omega)) ?_
                refine gd_ild4 dX9_copy_70 ?_
                refine gd_if_lt_f 107 dX9_copy_72 (by decide) (by exact nI_pos (by omega)) ?_
                refine gd_ild5 dX9_copy_75 ?_
                refine gd_if_lt_f 107 dX9_copy_77 (by decide) (by exact nI_pos (by omega)) ?_
                refine gd_ild2 dX9_copy_80 ?_
                refine gd_ald0 dX9_copy_81 (by decide) ?_
                refine gd_getR (r := 91) dX9_copy_82 fl_9_66 rfl rfl rfl (by decide) ?_
                refine gd_ild1 dX9_copy_85 ?_
                refine gd_iald (n := 4) dX9_copy_86 rfl (by decide) (by repeat' (first | with_reducible rfl | apply ni_add | apply ni_mul)) (by omega) ?_
                rw [show (sL h 57 (va_cpy (h.2 57) (h.2 57) (40 * q + f) (40 * r + g) k)).1 91 q = nI (tn (h.1 91 q)) from e91]
                refine gd_ild5 dX9_copy_87 ?_
                refine gd_isub dX9_copy_89 ?_
                refine gd_icmp_gt_f 107 dX9_copy_90 (by decide) (by rw [sub_lt (by omega) (by omega) (by omega)]; omega) ?_
                refine gd_ild4 dX9_copy_93 ?_
                refine gd_ald0 dX9_copy_95 (by decide) ?_
                refine gd_getR (r := 91) dX9_copy_96 fl_9_66 rfl rfl rfl (by decide) ?_
                refine gd_ild3 dX9_copy_99 ?_
                refine gd_iald (n := 4) dX9_copy_100 rfl (by decide) (by repeat' (first | with_reducible rfl | apply ni_add | apply ni_mul)) (by omega) ?_
                rw [show (sL h 57 (va_cpy (h.2 57) (h.2 57) (40 * q + f) (40 * r + g) k)).1 91 r = nI (tn (h.1 91 r)) from f91]
                refine gd_ild5 dX9_copy_101 ?_
                refine gd_isub dX9_copy_103 ?_
                refine gd_icmp_le_t 113 dX9_copy_104 (by decide) ((le_sub (by omega) (by omega) (by omega)).mpr (by omega)) ?_
                refine gd_ic0 dX9_copy_113 ?_
                refine gd_ist6 dX9_copy_114 rfl ?_
                exact lp_copy1 hq hr (by omega) (by omega) _
              · refine inv_rest i (fun k hk => rfl) (Or.inl ⟨rfl, rfl⟩) ⟨i.p.n, i.p.b⟩ ⟨i.s.w, i.s.z, i.s.n, i.s.v, ?_⟩ rfl
                intro p hp
                show va_cpy (h.2 57) (h.2 57) _ _ _ p = va_cpy (h.2 92) (h.2 92) _ _ _ p
                unfold va_cpy
                split
                · rw [i.s.x _ (by omega)]
                · exact i.s.x p hp
            · refine Pas.find (h1 := h) (h2 := hf (h) 0) (v := -1000000001) (w := (-1000000000 : Int32) - nI 1) 0 i (by decide) (by decide) (by decide) (Same.rf _) (Same.rf _) ?_ ?_
              · by_cases h1 : 0 ≤ b ∧ 0 ≤ e ∧ e ≤ nI (tn (h.1 91 q)) - b
                · have h2 : ¬ (0 ≤ d ∧ 0 ≤ e ∧ e ≤ nI (tn (h.1 91 r)) - d) := by
                    intro h2
                    obtain ⟨f, _, rfl⟩ := nI_of (Int32.not_lt.mpr h1.1)
                    obtain ⟨g, _, rfl⟩ := nI_of (Int32.not_lt.mpr h2.1)
                    obtain ⟨k, _, rfl⟩ := nI_of (Int32.not_lt.mpr h2.2.1)
                    rw [le_sub (by omega) (by omega) (by omega)] at h1 h2
                    exact hno ⟨f, g, k, rfl, rfl, rfl, by omega, by omega⟩
                  obtain ⟨f, hf1, rfl⟩ := nI_of (Int32.not_lt.mpr h1.1)
                  obtain ⟨k, hk1, rfl⟩ := nI_of (Int32.not_lt.mpr h1.2.1)
                  rw [le_sub (by omega) (by omega) (by omega)] at h1
                  refine gd_ild1 dX8_copy_0 ?_
                  refine gd_ic4 dX8_copy_1 ?_
                  refine gd_cS2i dX8_copy_2 ct_8_48 ⟨Nat.le_of_ble_eq_true rfl, Nat.le_of_ble_eq_true rfl⟩ (Nat.le_of_ble_eq_true rfl) (Nat.le_of_ble_eq_true rfl) (c_isBelow_t hq (by decide) _) ?_
                  refine gd_if_eq_f 16 dX8_copy_5 (by decide) (by decide) ?_
                  refine gd_ild3 dX8_copy_8 ?_
                  refine gd_ic4 dX8_copy_9 ?_
                  refine gd_cS2i dX8_copy_10 ct_8_48 ⟨Nat.le_of_ble_eq_true rfl, Nat.le_of_ble_eq_true rfl⟩ (Nat.le_of_ble_eq_true rfl) (Nat.le_of_ble_eq_true rfl) (c_isBelow_t hr (by decide) _) ?_
                  refine gd_if_ne_t 23 dX8_copy_13 (by decide) (by decide) ?_
                  refine gd_ald0 dX8_copy_23 (by decide) ?_
                  refine gd_getR (r := 56) dX8_copy_24 fl_8_33 rfl rfl rfl (by decide) ?_
                  refine gd_ild1 dX8_copy_27 ?_
                  refine gd_cV1i dX8_copy_28 ct_8_82 rc_56 ⟨Nat.le_of_ble_eq_true rfl, Nat.le_of_ble_eq_true rfl⟩ (Nat.le_of_ble_eq_true rfl) (Nat.le_of_ble_eq_true rfl) (c_isMissing0 hq e58 (by omega) (by omega)) ?_
                  refine gd_if_ne_f 45 dX8_copy_31 (by decide) (by decide) ?_
                  refine gd_ald0 dX8_copy_34 (by decide) ?_
                  refine gd_getR (r := 56) dX8_copy_35 fl_8_33 rfl rfl rfl (by decide) ?_
                  refine gd_ild3 dX8_copy_38 ?_
                  refine gd_cV1i dX8_copy_39 ct_8_82 rc_56 ⟨Nat.le_of_ble_eq_true rfl, Nat.le_of_ble_eq_true rfl⟩ (Nat.le_of_ble_eq_true rfl) (Nat.le_of_ble_eq_true rfl) (c_isMissing0 hr f58 (by omega) (by omega)) ?_
                  refine gd_if_eq_t 52 dX8_copy_42 (by decide) (by decide) ?_
                  refine gd_ald0 dX8_copy_52 (by decide) ?_
                  refine gd_getR (r := 56) dX8_copy_53 fl_8_33 rfl rfl rfl (by decide) ?_
                  refine gd_getR (r := 58) dX8_copy_56 fl_8_306 rfl rfl rfl (by decide) ?_
                  refine gd_ild1 dX8_copy_59 ?_
                  refine gd_iald (n := 4) dX8_copy_60 rfl (by decide) (by repeat' (first | with_reducible rfl | apply ni_add | apply ni_mul)) (by omega) ?_
                  refine gd_ald0 dX8_copy_61 (by decide) ?_
                  refine gd_getR (r := 56) dX8_copy_62 fl_8_33 rfl rfl rfl (by decide) ?_
                  refine gd_getR (r := 58) dX8_copy_65 fl_8_306 rfl rfl rfl (by decide) ?_
                  refine gd_ild3 dX8_copy_68 ?_
                  refine gd_iald (n := 4) dX8_copy_69 rfl (by decide) (by repeat' (first | with_reducible rfl | apply ni_add | apply ni_mul)) (by omega) ?_
                  refine gd_icmp_eq_t 80 dX8_copy_70 (by decide) (e58w) ?_
                  refine gd_ald0 dX8_copy_80 (by decide) ?_
                  refine gd_getR (r := 56) dX8_copy_81 fl_8_33 rfl rfl rfl (by decide) ?_
                  refine gd_ild1 dX8_copy_84 ?_
                  refine gd_ild2 dX8_copy_85 ?_
                  refine gd_ild5 dX8_copy_86 ?_
                  refine gd_cV3i dX8_copy_88 ct_8_309 rc_56 ⟨Nat.le_of_ble_eq_true rfl, Nat.le_of_ble_eq_true rfl⟩ (Nat.le_of_ble_eq_true rfl) (Nat.le_of_ble_eq_true rfl) (c_hasRange_t hq e59 (by omega) (by omega)) ?_
                  refine gd_if_eq_f 109 dX8_copy_91 (by decide) (by decide) ?_
                  refine gd_ald0 dX8_copy_94 (by decide) ?_
                  refine gd_getR (r := 56) dX8_copy_95 fl_8_33 rfl rfl rfl (by decide) ?_
                  refine gd_ild3 dX8_copy_98 ?_
                  refine gd_ild4 dX8_copy_99 ?_
                  refine gd_ild5 dX8_copy_101 ?_
                  refine gd_cV3i dX8_copy_103 ct_8_309 rc_56 ⟨Nat.le_of_ble_eq_true rfl, Nat.le_of_ble_eq_true rfl⟩ (Nat.le_of_ble_eq_true rfl) (Nat.le_of_ble_eq_true rfl) (c_hasRange_f hr f59 h2) ?_
                  refine gd_if_ne_f 116 dX8_copy_106 (by decide) (by decide) ?_
                  refine gd_ald0 dX8_copy_109 (by decide) ?_
                  refine gd_ldc dX8_copy_110 ld_8_52 ?_
                  refine gd_cV1i dX8_copy_112 ct_8_53 rc_0 ⟨Nat.le_of_ble_eq_true rfl, Nat.le_of_ble_eq_true rfl⟩ (Nat.le_of_ble_eq_true rfl) (Nat.le_of_ble_eq_true rfl) (c_f0 _) ?_
                  refine gd_iret dX8_copy_115 rfl rfl ?_
                  rfl
                · refine gd_ild1 dX8_copy_0 ?_
                  refine gd_ic4 dX8_copy_1 ?_
                  refine gd_cS2i dX8_copy_2 ct_8_48 ⟨Nat.le_of_ble_eq_true rfl, Nat.le_of_ble_eq_true rfl⟩ (Nat.le_of_ble_eq_true rfl) (Nat.le_of_ble_eq_true rfl) (c_isBelow_t hq (by decide) _) ?_
                  refine gd_if_eq_f 16 dX8_copy_5 (by decide) (by decide) ?_
                  refine gd_ild3 dX8_copy_8 ?_
                  refine gd_ic4 dX8_copy_9 ?_
                  refine gd_cS2i dX8_copy_10 ct_8_48 ⟨Nat.le_of_ble_eq_true rfl, Nat.le_of_ble_eq_true rfl⟩ (Nat.le_of_ble_eq_true rfl) (Nat.le_of_ble_eq_true rfl) (c_isBelow_t hr (by decide) _) ?_
                  refine gd_if_ne_t 23 dX8_copy_13 (by decide) (by decide) ?_
                  refine gd_ald0 dX8_copy_23 (by decide) ?_
                  refine gd_getR (r := 56) dX8_copy_24 fl_8_33 rfl rfl rfl (by decide) ?_
                  refine gd_ild1 dX8_copy_27 ?_
                  refine gd_cV1i dX8_copy_28 ct_8_82 rc_56 ⟨Nat.le_of_ble_eq_true rfl, Nat.le_of_ble_eq_true rfl⟩ (Nat.le_of_ble_eq_true rfl) (Nat.le_of_ble_eq_true rfl) (c_isMissing0 hq e58 (by omega) (by omega)) ?_
                  refine gd_if_ne_f 45 dX8_copy_31 (by decide) (by decide) ?_
                  refine gd_ald0 dX8_copy_34 (by decide) ?_
                  refine gd_getR (r := 56) dX8_copy_35 fl_8_33 rfl rfl rfl (by decide) ?_
                  refine gd_ild3 dX8_copy_38 ?_
                  refine gd_cV1i dX8_copy_39 ct_8_82 rc_56 ⟨Nat.le_of_ble_eq_true rfl, Nat.le_of_ble_eq_true rfl⟩ (Nat.le_of_ble_eq_true rfl) (Nat.le_of_ble_eq_true rfl) (c_isMissing0 hr f58 (by omega) (by omega)) ?_
                  refine gd_if_eq_t 52 dX8_copy_42 (by decide) (by decide) ?_
                  refine gd_ald0 dX8_copy_52 (by decide) ?_
                  refine gd_getR (r := 56) dX8_copy_53 fl_8_33 rfl rfl rfl (by decide) ?_
                  refine gd_getR (r := 58) dX8_copy_56 fl_8_306 rfl rfl rfl (by decide) ?_
                  refine gd_ild1 dX8_copy_59 ?_
                  refine gd_iald (n := 4) dX8_copy_60 rfl (by decide) (by repeat' (first | with_reducible rfl | apply ni_add | apply ni_mul)) (by omega) ?_
                  refine gd_ald0 dX8_copy_61 (by decide) ?_
                  refine gd_getR (r := 56) dX8_copy_62 fl_8_33 rfl rfl rfl (by decide) ?_
                  refine gd_getR (r := 58) dX8_copy_65 fl_8_306 rfl rfl rfl (by decide) ?_
                  refine gd_ild3 dX8_copy_68 ?_
                  refine gd_iald (n := 4) dX8_copy_69 rfl (by decide) (by repeat' (first | with_reducible rfl | apply ni_add | apply ni_mul)) (by omega) ?_
                  refine gd_icmp_eq_t 80 dX8_copy_70 (by decide) (e58w) ?_
                  refine gd_ald0 dX8_copy_80 (by decide) ?_
                  refine gd_getR (r := 56) dX8_copy_81 fl_8_33 rfl rfl rfl (by decide) ?_
                  refine gd_ild1 dX8_copy_84 ?_
                  refine gd_ild2 dX8_copy_85 ?_
                  refine gd_ild5 dX8_copy_86 ?_
                  refine gd_cV3i dX8_copy_88 ct_8_309 rc_56 ⟨Nat.le_of_ble_eq_true rfl, Nat.le_of_ble_eq_true rfl⟩ (Nat.le_of_ble_eq_true rfl) (Nat.le_of_ble_eq_true rfl) (c_hasRange_f hq e59 h1) ?_
                  refine gd_if_eq_t 109 dX8_copy_91 (by decide) (by decide) ?_
                  refine gd_ald0 dX8_copy_109 (by decide) ?_
                  refine gd_ldc dX8_copy_110 ld_8_52 ?_
                  refine gd_cV1i dX8_copy_112 ct_8_53 rc_0 ⟨Nat.le_of_ble_eq_true rfl, Nat.le_of_ble_eq_true rfl⟩ (Nat.le_of_ble_eq_true rfl) (Nat.le_of_ble_eq_true rfl) (c_f0 _) ?_
                  refine gd_iret dX8_copy_115 rfl rfl ?_
                  rfl
              · refine gd_ild1 dX9_copy_0 ?_
                refine gd_cS1i dX9_copy_1 ct_9_104 ⟨Nat.le_of_ble_eq_true rfl, Nat.le_of_ble_eq_true rfl⟩ (Nat.le_of_ble_eq_true rfl) (Nat.le_of_ble_eq_true rfl) (m_isSheet_t hq _) ?_
                refine gd_if_eq_f 14 dX9_copy_4 (by decide) (by decide) ?_
                refine gd_ild3 dX9_copy_7 ?_
                refine gd_cS1i dX9_copy_8 ct_9_104 ⟨Nat.le_of_ble_eq_true rfl, Nat.le_of_ble_eq_true rfl⟩ (Nat.le_of_ble_eq_true rfl) (Nat.le_of_ble_eq_true rfl) (m_isSheet_t hr _) ?_
                refine gd_if_ne_t 20 dX9_copy_11 (by decide) (by decide) ?_
                refine gd_ald0 dX9_copy_20 (by decide) ?_
                refine gd_getR (r := 90) dX9_copy_21 fl_9_63 rfl rfl rfl (by decide) ?_
                refine gd_ild1 dX9_copy_24 ?_
                refine gd_iald (n := 4) dX9_copy_25 rfl (by decide) (by repeat' (first | with_reducible rfl | apply ni_add | apply ni_mul)) (by omega) ?_
                rw [show (hf h 0).1 90 q = nI v from e90]
                refine gd_if_eq_f 38 dX9_copy_26 (by decide) (by exact nI_ne0 (by omega) (by omega)) ?_
                refine gd_ald0 dX9_copy_29 (by decide) ?_
                refine gd_getR (r := 90) dX9_copy_30 fl_9_63 rfl rfl rfl (by decide) ?_
                refine gd_ild3 dX9_copy_33 ?_
                refine gd_iald (n := 4) dX9_copy_34 rfl (by decide) (by repeat' (first | with_reducible rfl | apply ni_add | apply ni_mul)) (by omega) ?_
                rw [show (hf h 0).1 90 r = nI u from f90]
                refine gd_if_ne_t 45 dX9_copy_35 (by decide) (by exact nI_ne0 (by omega) (by omega)) ?_
                refine gd_ald0 dX9_copy_45 (by decide) ?_
                refine gd_getR (r := 90) dX9_copy_46 fl_9_63 rfl rfl rfl (by decide) ?_
                refine gd_ild1 dX9_copy_49 ?_
                refine gd_iald (n := 4) dX9_copy_50 rfl (by decide) (by repeat' (first | with_reducible rfl | apply ni_add | apply ni_mul)) (by omega) ?_
                refine gd_ald0 dX9_copy_51 (by decide) ?_
                refine gd_getR (r := 90) dX9_copy_52 fl_9_63 rfl rfl rfl (by decide) ?_
                refine gd_ild3 dX9_copy_55 ?_
                refine gd_iald (n := 4) dX9_copy_56 rfl (by decide) (by repeat' (first | with_reducible rfl | apply ni_add | apply ni_mul)) (by omega) ?_
                refine gd_icmp_eq_t 66 dX9_copy_57 (by decide) (e90w) ?_
                refine gd_ild2 dX9_copy_66 ?_
                refine gd_if_lt 107 dX9_copy_67 (by decide) (fun c67 => ?_) (fun c67 => ?_)
                · refine gd_ald0 dX9_copy_107 (by decide) ?_
                  refine gd_ic1 dX9_copy_108 ?_
                  refine gd_cV1i dX9_copy_109 ct_9_97 rc_72 ⟨Nat.le_of_ble_eq_true rfl, Nat.le_of_ble_eq_true rfl⟩ (Nat.le_of_ble_eq_true rfl) (Nat.le_of_ble_eq_true rfl) (m_f0 _) ?_
                  refine gd_iret dX9_copy_112 rfl rfl ?_
                  rfl
                · refine gd_ild4 dX9_copy_70 ?_
                  refine gd_if_lt 107 dX9_copy_72 (by decide) (fun c72 => ?_) (fun c72 => ?_)
                  · refine gd_ald0 dX9_copy_107 (by decide) ?_
                    refine gd_ic1 dX9_copy_108 ?_
                    refine gd_cV1i dX9_copy_109 ct_9_97 rc_72 ⟨Nat.le_of_ble_eq_true rfl, Nat.le_of_ble_eq_true rfl⟩ (Nat.le_of_ble_eq_true rfl) (Nat.le_of_ble_eq_true rfl) (m_f0 _) ?_
                    refine gd_iret dX9_copy_112 rfl rfl ?_
                    rfl
                  · refine gd_ild5 dX9_copy_75 ?_
                    refine gd_if_lt 107 dX9_copy_77 (by decide) (fun c77 => ?_) (fun c77 => ?_)
                    · refine gd_ald0 dX9_copy_107 (by decide) ?_
                      refine gd_ic1 dX9_copy_108 ?_
                      refine gd_cV1i dX9_copy_109 ct_9_97 rc_72 ⟨Nat.le_of_ble_eq_true rfl, Nat.le_of_ble_eq_true rfl⟩ (Nat.le_of_ble_eq_true rfl) (Nat.le_of_ble_eq_true rfl) (m_f0 _) ?_
                      refine gd_iret dX9_copy_112 rfl rfl ?_
                      rfl
                    · refine gd_ild2 dX9_copy_80 ?_
                      refine gd_ald0 dX9_copy_81 (by decide) ?_
                      refine gd_getR (r := 91) dX9_copy_82 fl_9_66 rfl rfl rfl (by decide) ?_
                      refine gd_ild1 dX9_copy_85 ?_
                      refine gd_iald (n := 4) dX9_copy_86 rfl (by decide) (by repeat' (first | with_reducible rfl | apply ni_add | apply ni_mul)) (by omega) ?_
                      rw [show (hf h 0).1 91 q = nI (tn (h.1 91 q)) from e91]
                      refine gd_ild5 dX9_copy_87 ?_
                      refine gd_isub dX9_copy_89 ?_
                      refine gd_icmp_gt 107 dX9_copy_90 (by decide) (fun c90 => ?_) (fun c90 => ?_)
                      · refine gd_ald0 dX9_copy_107 (by decide) ?_
                        refine gd_ic1 dX9_copy_108 ?_
                        refine gd_cV1i dX9_copy_109 ct_9_97 rc_72 ⟨Nat.le_of_ble_eq_true rfl, Nat.le_of_ble_eq_true rfl⟩ (Nat.le_of_ble_eq_true rfl) (Nat.le_of_ble_eq_true rfl) (m_f0 _) ?_
                        refine gd_iret dX9_copy_112 rfl rfl ?_
                        rfl
                      · refine gd_ild4 dX9_copy_93 ?_
                        refine gd_ald0 dX9_copy_95 (by decide) ?_
                        refine gd_getR (r := 91) dX9_copy_96 fl_9_66 rfl rfl rfl (by decide) ?_
                        refine gd_ild3 dX9_copy_99 ?_
                        refine gd_iald (n := 4) dX9_copy_100 rfl (by decide) (by repeat' (first | with_reducible rfl | apply ni_add | apply ni_mul)) (by omega) ?_
                        rw [show (hf h 0).1 91 r = nI (tn (h.1 91 r)) from f91]
                        refine gd_ild5 dX9_copy_101 ?_
                        refine gd_isub dX9_copy_103 ?_
                        refine gd_icmp_le 113 dX9_copy_104 (by decide) (fun c104 => ?_) (fun c104 => ?_)
                        · exfalso
                          obtain ⟨f, _, rfl⟩ := nI_of c67
                          obtain ⟨g, _, rfl⟩ := nI_of c72
                          obtain ⟨k, _, rfl⟩ := nI_of c77
                          rw [sub_lt (by omega) (by omega) (by omega)] at c90
                          rw [le_sub (by omega) (by omega) (by omega)] at c104
                          exact hno ⟨f, g, k, rfl, rfl, rfl, by omega, by omega⟩
                        · refine gd_ald0 dX9_copy_107 (by decide) ?_
                          refine gd_ic1 dX9_copy_108 ?_
                          refine gd_cV1i dX9_copy_109 ct_9_97 rc_72 ⟨Nat.le_of_ble_eq_true rfl, Nat.le_of_ble_eq_true rfl⟩ (Nat.le_of_ble_eq_true rfl) (Nat.le_of_ble_eq_true rfl) (m_f0 _) ?_
                          refine gd_iret dX9_copy_112 rfl rfl ?_
                          rfl
          · have e58w : ¬ h.1 58 q = h.1 58 r := by rw [i.s.w q hq, i.s.w r hr]; exact e90w
            refine Pas.find (h1 := h) (h2 := hf (h) 2) (v := -1000000003) (w := (-1000000000 : Int32) - nI 3) 2 i (by decide) (by decide) (by decide) (Same.rf _) (Same.rf _) ?_ ?_
            · refine gd_ild1 dX8_copy_0 ?_
              refine gd_ic4 dX8_copy_1 ?_
              refine gd_cS2i dX8_copy_2 ct_8_48 ⟨Nat.le_of_ble_eq_true rfl, Nat.le_of_ble_eq_true rfl⟩ (Nat.le_of_ble_eq_true rfl) (Nat.le_of_ble_eq_true rfl) (c_isBelow_t hq (by decide) _) ?_
              refine gd_if_eq_f 16 dX8_copy_5 (by decide) (by decide) ?_
              refine gd_ild3 dX8_copy_8 ?_
              refine gd_ic4 dX8_copy_9 ?_
              refine gd_cS2i dX8_copy_10 ct_8_48 ⟨Nat.le_of_ble_eq_true rfl, Nat.le_of_ble_eq_true rfl⟩ (Nat.le_of_ble_eq_true rfl) (Nat.le_of_ble_eq_true rfl) (c_isBelow_t hr (by decide) _) ?_
              refine gd_if_ne_t 23 dX8_copy_13 (by decide) (by decide) ?_
              refine gd_ald0 dX8_copy_23 (by decide) ?_
              refine gd_getR (r := 56) dX8_copy_24 fl_8_33 rfl rfl rfl (by decide) ?_
              refine gd_ild1 dX8_copy_27 ?_
              refine gd_cV1i dX8_copy_28 ct_8_82 rc_56 ⟨Nat.le_of_ble_eq_true rfl, Nat.le_of_ble_eq_true rfl⟩ (Nat.le_of_ble_eq_true rfl) (Nat.le_of_ble_eq_true rfl) (c_isMissing0 hq e58 (by omega) (by omega)) ?_
              refine gd_if_ne_f 45 dX8_copy_31 (by decide) (by decide) ?_
              refine gd_ald0 dX8_copy_34 (by decide) ?_
              refine gd_getR (r := 56) dX8_copy_35 fl_8_33 rfl rfl rfl (by decide) ?_
              refine gd_ild3 dX8_copy_38 ?_
              refine gd_cV1i dX8_copy_39 ct_8_82 rc_56 ⟨Nat.le_of_ble_eq_true rfl, Nat.le_of_ble_eq_true rfl⟩ (Nat.le_of_ble_eq_true rfl) (Nat.le_of_ble_eq_true rfl) (c_isMissing0 hr f58 (by omega) (by omega)) ?_
              refine gd_if_eq_t 52 dX8_copy_42 (by decide) (by decide) ?_
              refine gd_ald0 dX8_copy_52 (by decide) ?_
              refine gd_getR (r := 56) dX8_copy_53 fl_8_33 rfl rfl rfl (by decide) ?_
              refine gd_getR (r := 58) dX8_copy_56 fl_8_306 rfl rfl rfl (by decide) ?_
              refine gd_ild1 dX8_copy_59 ?_
              refine gd_iald (n := 4) dX8_copy_60 rfl (by decide) (by repeat' (first | with_reducible rfl | apply ni_add | apply ni_mul)) (by omega) ?_
              refine gd_ald0 dX8_copy_61 (by decide) ?_
              refine gd_getR (r := 56) dX8_copy_62 fl_8_33 rfl rfl rfl (by decide) ?_
              refine gd_getR (r := 58) dX8_copy_65 fl_8_306 rfl rfl rfl (by decide) ?_
              refine gd_ild3 dX8_copy_68 ?_
              refine gd_iald (n := 4) dX8_copy_69 rfl (by decide) (by repeat' (first | with_reducible rfl | apply ni_add | apply ni_mul)) (by omega) ?_
              refine gd_icmp_eq_f 80 dX8_copy_70 (by decide) (e58w) ?_
              refine gd_ald0 dX8_copy_73 (by decide) ?_
              refine gd_ldc dX8_copy_74 ld_8_148 ?_
              refine gd_cV1i dX8_copy_76 ct_8_53 rc_0 ⟨Nat.le_of_ble_eq_true rfl, Nat.le_of_ble_eq_true rfl⟩ (Nat.le_of_ble_eq_true rfl) (Nat.le_of_ble_eq_true rfl) (c_f2 _) ?_
              refine gd_iret dX8_copy_79 rfl rfl ?_
              rfl
            · refine gd_ild1 dX9_copy_0 ?_
              refine gd_cS1i dX9_copy_1 ct_9_104 ⟨Nat.le_of_ble_eq_true rfl, Nat.le_of_ble_eq_true rfl⟩ (Nat.le_of_ble_eq_true rfl) (Nat.le_of_ble_eq_true rfl) (m_isSheet_t hq _) ?_
              refine gd_if_eq_f 14 dX9_copy_4 (by decide) (by decide) ?_
              refine gd_ild3 dX9_copy_7 ?_
              refine gd_cS1i dX9_copy_8 ct_9_104 ⟨Nat.le_of_ble_eq_true rfl, Nat.le_of_ble_eq_true rfl⟩ (Nat.le_of_ble_eq_true rfl) (Nat.le_of_ble_eq_true rfl) (m_isSheet_t hr _) ?_
              refine gd_if_ne_t 20 dX9_copy_11 (by decide) (by decide) ?_
              refine gd_ald0 dX9_copy_20 (by decide) ?_
              refine gd_getR (r := 90) dX9_copy_21 fl_9_63 rfl rfl rfl (by decide) ?_
              refine gd_ild1 dX9_copy_24 ?_
              refine gd_iald (n := 4) dX9_copy_25 rfl (by decide) (by repeat' (first | with_reducible rfl | apply ni_add | apply ni_mul)) (by omega) ?_
              rw [show (hf h 2).1 90 q = nI v from e90]
              refine gd_if_eq_f 38 dX9_copy_26 (by decide) (by exact nI_ne0 (by omega) (by omega)) ?_
              refine gd_ald0 dX9_copy_29 (by decide) ?_
              refine gd_getR (r := 90) dX9_copy_30 fl_9_63 rfl rfl rfl (by decide) ?_
              refine gd_ild3 dX9_copy_33 ?_
              refine gd_iald (n := 4) dX9_copy_34 rfl (by decide) (by repeat' (first | with_reducible rfl | apply ni_add | apply ni_mul)) (by omega) ?_
              rw [show (hf h 2).1 90 r = nI u from f90]
              refine gd_if_ne_t 45 dX9_copy_35 (by decide) (by exact nI_ne0 (by omega) (by omega)) ?_
              refine gd_ald0 dX9_copy_45 (by decide) ?_
              refine gd_getR (r := 90) dX9_copy_46 fl_9_63 rfl rfl rfl (by decide) ?_
              refine gd_ild1 dX9_copy_49 ?_
              refine gd_iald (n := 4) dX9_copy_50 rfl (by decide) (by repeat' (first | with_reducible rfl | apply ni_add | apply ni_mul)) (by omega) ?_
              refine gd_ald0 dX9_copy_51 (by decide) ?_
              refine gd_getR (r := 90) dX9_copy_52 fl_9_63 rfl rfl rfl (by decide) ?_
              refine gd_ild3 dX9_copy_55 ?_
              refine gd_iald (n := 4) dX9_copy_56 rfl (by decide) (by repeat' (first | with_reducible rfl | apply ni_add | apply ni_mul)) (by omega) ?_
              refine gd_icmp_eq_f 66 dX9_copy_57 (by decide) (e90w) ?_
              refine gd_ald0 dX9_copy_60 (by decide) ?_
              refine gd_ic3 dX9_copy_61 ?_
              refine gd_cV1i dX9_copy_62 ct_9_97 rc_72 ⟨Nat.le_of_ble_eq_true rfl, Nat.le_of_ble_eq_true rfl⟩ (Nat.le_of_ble_eq_true rfl) (Nat.le_of_ble_eq_true rfl) (m_f2 _) ?_
              refine gd_iret dX9_copy_65 rfl rfl ?_
              rfl
    · refine Pas.find (h1 := h) (h2 := hf (h) 0) (v := -1000000001) (w := (-1000000000 : Int32) - nI 1) 0 i (by decide) (by decide) (by decide) (Same.rf _) (Same.rf _) ?_ ?_
      · refine gd_ild1 dX8_copy_0 ?_
        refine gd_ic4 dX8_copy_1 ?_
        refine gd_cS2i dX8_copy_2 ct_8_48 ⟨Nat.le_of_ble_eq_true rfl, Nat.le_of_ble_eq_true rfl⟩ (Nat.le_of_ble_eq_true rfl) (Nat.le_of_ble_eq_true rfl) (c_isBelow_t hq (by decide) _) ?_
        refine gd_if_eq_f 16 dX8_copy_5 (by decide) (by decide) ?_
        refine gd_ild3 dX8_copy_8 ?_
        refine gd_ic4 dX8_copy_9 ?_
        refine gd_cS2i dX8_copy_10 ct_8_48 ⟨Nat.le_of_ble_eq_true rfl, Nat.le_of_ble_eq_true rfl⟩ (Nat.le_of_ble_eq_true rfl) (Nat.le_of_ble_eq_true rfl) (c_isBelow_f hc _) ?_
        refine gd_if_ne_f 23 dX8_copy_13 (by decide) (by decide) ?_
        refine gd_ald0 dX8_copy_16 (by decide) ?_
        refine gd_ldc dX8_copy_17 ld_8_52 ?_
        refine gd_cV1i dX8_copy_19 ct_8_53 rc_0 ⟨Nat.le_of_ble_eq_true rfl, Nat.le_of_ble_eq_true rfl⟩ (Nat.le_of_ble_eq_true rfl) (Nat.le_of_ble_eq_true rfl) (c_f0 _) ?_
        refine gd_iret dX8_copy_22 rfl rfl ?_
        rfl
      · refine gd_ild1 dX9_copy_0 ?_
        refine gd_cS1i dX9_copy_1 ct_9_104 ⟨Nat.le_of_ble_eq_true rfl, Nat.le_of_ble_eq_true rfl⟩ (Nat.le_of_ble_eq_true rfl) (Nat.le_of_ble_eq_true rfl) (m_isSheet_t hq _) ?_
        refine gd_if_eq_f 14 dX9_copy_4 (by decide) (by decide) ?_
        refine gd_ild3 dX9_copy_7 ?_
        refine gd_cS1i dX9_copy_8 ct_9_104 ⟨Nat.le_of_ble_eq_true rfl, Nat.le_of_ble_eq_true rfl⟩ (Nat.le_of_ble_eq_true rfl) (Nat.le_of_ble_eq_true rfl) (m_isSheet_f hc _) ?_
        refine gd_if_ne_f 20 dX9_copy_11 (by decide) (by decide) ?_
        refine gd_ald0 dX9_copy_14 (by decide) ?_
        refine gd_ic1 dX9_copy_15 ?_
        refine gd_cV1i dX9_copy_16 ct_9_97 rc_72 ⟨Nat.le_of_ble_eq_true rfl, Nat.le_of_ble_eq_true rfl⟩ (Nat.le_of_ble_eq_true rfl) (Nat.le_of_ble_eq_true rfl) (m_f0 _) ?_
        refine gd_iret dX9_copy_19 rfl rfl ?_
        rfl
  · refine Pas.find (h1 := h) (h2 := hf (h) 0) (v := -1000000001) (w := (-1000000000 : Int32) - nI 1) 0 i (by decide) (by decide) (by decide) (Same.rf _) (Same.rf _) ?_ ?_
    · refine gd_ild1 dX8_copy_0 ?_
      refine gd_ic4 dX8_copy_1 ?_
      refine gd_cS2i dX8_copy_2 ct_8_48 ⟨Nat.le_of_ble_eq_true rfl, Nat.le_of_ble_eq_true rfl⟩ (Nat.le_of_ble_eq_true rfl) (Nat.le_of_ble_eq_true rfl) (c_isBelow_f ha _) ?_
      refine gd_if_eq_t 16 dX8_copy_5 (by decide) (by decide) ?_
      refine gd_ald0 dX8_copy_16 (by decide) ?_
      refine gd_ldc dX8_copy_17 ld_8_52 ?_
      refine gd_cV1i dX8_copy_19 ct_8_53 rc_0 ⟨Nat.le_of_ble_eq_true rfl, Nat.le_of_ble_eq_true rfl⟩ (Nat.le_of_ble_eq_true rfl) (Nat.le_of_ble_eq_true rfl) (c_f0 _) ?_
      refine gd_iret dX8_copy_22 rfl rfl ?_
      rfl
    · refine gd_ild1 dX9_copy_0 ?_
      refine gd_cS1i dX9_copy_1 ct_9_104 ⟨Nat.le_of_ble_eq_true rfl, Nat.le_of_ble_eq_true rfl⟩ (Nat.le_of_ble_eq_true rfl) (Nat.le_of_ble_eq_true rfl) (m_isSheet_f ha _) ?_
      refine gd_if_eq_t 14 dX9_copy_4 (by decide) (by decide) ?_
      refine gd_ald0 dX9_copy_14 (by decide) ?_
      refine gd_ic1 dX9_copy_15 ?_
      refine gd_cV1i dX9_copy_16 ct_9_97 rc_72 ⟨Nat.le_of_ble_eq_true rfl, Nat.le_of_ble_eq_true rfl⟩ (Nat.le_of_ble_eq_true rfl) (Nat.le_of_ble_eq_true rfl) (m_f0 _) ?_
      refine gd_iret dX9_copy_19 rfl rfl ?_
      rfl
