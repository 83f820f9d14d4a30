
/-! ===== one rule, read by both ===== -/
def FrK (r : Nat) (K K' : Nat → Int32) : Prop := ∀ j, j ≠ r → K' j = K j
def FrR (r : Nat) (R R' : Nat → Int32) : Prop := ∀ j, (j < r ∨ r + 4 ≤ j) → R' j = R j
def RuF (b : Nat → Nat) (N e e' : Nat) : Prop := e' ≤ N ∧
  (∀ (h : Hp) (K L G : Nat → Int32) (r : Nat), TPB h b N → r < 6 → ∃ K' L' G', Gd mX5_readRule 0 [.ref 51, .int (nI r)] [] (hR h b N e K L G) (some (.int (nI 0)), hR h b N e' K' L' G') ∧ FrK r K K' ∧ FrK r L L' ∧ FrK r G G') ∧
  (∀ (h : Hp) (R : Nat → Int32) (x k : Nat), MPB h b N → h.1 74 2 = nI x → x < 8 → k < 6 → ∃ R', Gd mX9_wantRule 0 [.ref 72, .int (nI k), .null, .null, .null, .null, .null] [] (hW h b N e (-1) R) (none, hW h b N e' (nI (tkS b N e')) R') ∧ FrR (4 * (6 * x + k)) R R')
def RuO (b : Nat → Nat) (N e w a u v e' : Nat) : Prop := e' ≤ N ∧ RulOK (nI w) (nI a) (nI u) (nI v) ∧
  (∀ (h : Hp) (K L G : Nat → Int32) (r : Nat), TPB h b N → r < 6 → ∃ K' L' G', Gd mX5_readRule 0 [.ref 51, .int (nI r)] [] (hR h b N e K L G) (some (.int (nI 1)), hR h b N e' K' L' G') ∧ (FrK r K K' ∧ FrK r L L' ∧ FrK r G G') ∧ K' r = keyI (nI w) (nI a) ∧ L' r = nI u ∧ G' r = nI v) ∧
  (∀ (h : Hp) (R : Nat → Int32) (x k : Nat), MPB h b N → h.1 74 2 = nI x → x < 8 → k < 6 → ∃ R', Gd mX9_wantRule 0 [.ref 72, .int (nI k), .null, .null, .null, .null, .null] [] (hW h b N e (-1) R) (none, hW h b N e' (-1) R') ∧ FrR (4 * (6 * x + k)) R R' ∧ R' (4 * (6 * x + k)) = nI w ∧ R' (4 * (6 * x + k) + 1) = nI a ∧ R' (4 * (6 * x + k) + 2) = nI u ∧ R' (4 * (6 * x + k) + 3) = nI v)
def up4 (R : Nat → Int32) (r : Nat) (w a u v : Int32) : Nat → Int32 := upd (upd (upd (upd R r w) (r + 1) a) (r + 2) u) (r + 3) v
theorem up4_fr (R : Nat → Int32) (r : Nat) (w a u v : Int32) : FrR r R (up4 R r w a u v) := by
  intro j hj
  unfold up4
  rw [upd_at, if_neg (by omega), upd_at, if_neg (by omega), upd_at, if_neg (by omega), upd_at, if_neg (by omega)]
theorem up4_0 (R : Nat → Int32) (r : Nat) (w a u v : Int32) : up4 R r w a u v r = w := by
  unfold up4
  rw [upd_at, if_neg (by omega), upd_at, if_neg (by omega), upd_at, if_neg (by omega), upd_at, if_pos rfl]
theorem up4_1 (R : Nat → Int32) (r : Nat) (w a u v : Int32) : up4 R r w a u v (r + 1) = a := by
  unfold up4
  rw [upd_at, if_neg (by omega), upd_at, if_neg (by omega), upd_at, if_pos rfl]
theorem up4_2 (R : Nat → Int32) (r : Nat) (w a u v : Int32) : up4 R r w a u v (r + 2) = u := by
  unfold up4
  rw [upd_at, if_neg (by omega), upd_at, if_pos rfl]
theorem up4_3 (R : Nat → Int32) (r : Nat) (w a u v : Int32) : up4 R r w a u v (r + 3) = v := by
  unfold up4
  rw [upd_at, if_pos rfl]

theorem FrR_rf (r : Nat) (R : Nat → Int32) : FrR r R R := fun _ _ => rfl
set_option maxHeartbeats 1000000 in
theorem ru_N {b : Nat → Nat} {N e : Nat} (hN : N ≤ 120) (he : e ≤ N) (nw : ¬ isNm b N e ch0 4) (nr : ¬ isNm b N e ch2 6) (nf : ¬ isNm b N e ch4 5) (ng : ¬ isNm b N e ch5 6) : RuF b N e e := by
  refine ⟨he, fun h K L G r t hr => ?_, fun h R x k t hx hx8 hk => ?_⟩
  · apply Exists.intro
    apply Exists.intro
    apply Exists.intro
    refine ⟨?_, ?_, ?_, ?_⟩
    · refine gd_ald0 dX5_readRule_0 (by decide) ?_
      refine gd_ldcS (j := 0) (by decide) rfl rfl dX5_readRule_1 ?_
      refine gd_cV1i dX5_readRule_3 ct_5_53 rc_51 ⟨Nat.le_of_ble_eq_true rfl, Nat.le_of_ble_eq_true rfl⟩ (Nat.le_of_ble_eq_true rfl) (Nat.le_of_ble_eq_true rfl) (cR_nm0_f t he nw) ?_
      refine gd_if_eq_t 44 dX5_readRule_6 (by decide) (by decide) ?_
      refine gd_ald0 dX5_readRule_44 (by decide) ?_
      refine gd_ldcS (j := 2) (by decide) rfl rfl dX5_readRule_45 ?_
      refine gd_cV1i dX5_readRule_47 ct_5_53 rc_51 ⟨Nat.le_of_ble_eq_true rfl, Nat.le_of_ble_eq_true rfl⟩ (Nat.le_of_ble_eq_true rfl) (Nat.le_of_ble_eq_true rfl) (cR_nm2_f t he nr) ?_
      refine gd_if_eq_t 89 dX5_readRule_50 (by decide) (by decide) ?_
      refine gd_ald0 dX5_readRule_89 (by decide) ?_
      refine gd_ldcS (j := 4) (by decide) rfl rfl dX5_readRule_90 ?_
      refine gd_cV1i dX5_readRule_92 ct_5_53 rc_51 ⟨Nat.le_of_ble_eq_true rfl, Nat.le_of_ble_eq_true rfl⟩ (Nat.le_of_ble_eq_true rfl) (Nat.le_of_ble_eq_true rfl) (cR_nm4_f t he nf) ?_
      refine gd_if_eq_t 114 dX5_readRule_95 (by decide) (by decide) ?_
      refine gd_ald0 dX5_readRule_114 (by decide) ?_
      refine gd_ldcS (j := 5) (by decide) rfl rfl dX5_readRule_115 ?_
      refine gd_cV1i dX5_readRule_117 ct_5_53 rc_51 ⟨Nat.le_of_ble_eq_true rfl, Nat.le_of_ble_eq_true rfl⟩ (Nat.le_of_ble_eq_true rfl) (Nat.le_of_ble_eq_true rfl) (cR_nm5_f t he ng) ?_
      refine gd_if_eq_t 159 dX5_readRule_120 (by decide) (by decide) ?_
      refine gd_ic0 dX5_readRule_159 ?_
      refine gd_iret dX5_readRule_160 rfl (by first | rfl | decide | exact nar_bi _ | assumption) ?_
      rfl
    · intro j hj; first | rfl | simp only [upd_at, if_neg hj]
    · intro j hj; first | rfl | simp only [upd_at, if_neg hj]
    · intro j hj; first | rfl | simp only [upd_at, if_neg hj]
  · apply Exists.intro
    refine ⟨?_, ?_⟩
    · refine gd_ic4 dX9_wantRule_0 ?_
      refine gd_bipush (v := nI 6) dX9_wantRule_1 (by decide) ?_
      refine gd_ald0 dX9_wantRule_3 (by decide) ?_
      refine gd_getR (r := 74) dX9_wantRule_4 fl_9_13 rfl rfl rfl (by decide) ?_
      refine gd_ic2 dX9_wantRule_7 ?_
      refine gd_iald (n := 5) dX9_wantRule_8 rfl (by decide) (by repeat' (first | with_reducible rfl | apply ni_add | apply ni_mul)) (by omega) ?_
      rw [show (hW h b N e (-1) R).1 74 2 = nI x from hx]
      refine gd_imul dX9_wantRule_9 ?_
      refine gd_ild1 dX9_wantRule_10 ?_
      refine gd_iadd dX9_wantRule_11 ?_
      refine gd_imul dX9_wantRule_12 ?_
      rw [pk_mul, nI_add, pk_mul]
      refine gd_ist2 dX9_wantRule_13 rfl ?_
      refine gd_ald0 dX9_wantRule_14 (by decide) ?_
      refine gd_ldc2 dX9_wantRule_15 l2_9_185 ?_
      refine gd_cV1i dX9_wantRule_18 ct_9_187 rc_72 ⟨Nat.le_of_ble_eq_true rfl, Nat.le_of_ble_eq_true rfl⟩ (Nat.le_of_ble_eq_true rfl) (Nat.le_of_ble_eq_true rfl) (mW_nm0_f t he nw) ?_
      refine gd_if_eq_t 28 dX9_wantRule_21 (by decide) (by decide) ?_
      refine gd_ald0 dX9_wantRule_28 (by decide) ?_
      refine gd_ldc2 dX9_wantRule_29 l2_9_191 ?_
      refine gd_cV1i dX9_wantRule_32 ct_9_187 rc_72 ⟨Nat.le_of_ble_eq_true rfl, Nat.le_of_ble_eq_true rfl⟩ (Nat.le_of_ble_eq_true rfl) (Nat.le_of_ble_eq_true rfl) (mW_nm2_f t he nr) ?_
      refine gd_if_eq_t 42 dX9_wantRule_35 (by decide) (by decide) ?_
      refine gd_ald0 dX9_wantRule_42 (by decide) ?_
      refine gd_ldc2 dX9_wantRule_43 l2_9_193 ?_
      refine gd_cV1i dX9_wantRule_46 ct_9_187 rc_72 ⟨Nat.le_of_ble_eq_true rfl, Nat.le_of_ble_eq_true rfl⟩ (Nat.le_of_ble_eq_true rfl) (Nat.le_of_ble_eq_true rfl) (mW_nm4_f t he nf) ?_
      refine gd_if_eq_t 56 dX9_wantRule_49 (by decide) (by decide) ?_
      refine gd_ald0 dX9_wantRule_56 (by decide) ?_
      refine gd_ldc2 dX9_wantRule_57 l2_9_195 ?_
      refine gd_cV1i dX9_wantRule_60 ct_9_187 rc_72 ⟨Nat.le_of_ble_eq_true rfl, Nat.le_of_ble_eq_true rfl⟩ (Nat.le_of_ble_eq_true rfl) (Nat.le_of_ble_eq_true rfl) (mW_nm5_f t he ng) ?_
      refine gd_if_eq_t 70 dX9_wantRule_63 (by decide) (by decide) ?_
      refine gd_icm1 dX9_wantRule_70 ?_
      refine gd_ist3 dX9_wantRule_71 rfl ?_
      refine gd_ald0 dX9_wantRule_72 (by decide) ?_
      refine gd_ild3 dX9_wantRule_73 ?_
      refine gd_if_lt_t 87 dX9_wantRule_74 (by decide) (by decide) ?_
      refine gd_ic0 dX9_wantRule_87 ?_
      refine gd_cV1v dX9_wantRule_88 ct_9_181 rc_72 ⟨Nat.le_of_ble_eq_true rfl, Nat.le_of_ble_eq_true rfl⟩ (Nat.le_of_ble_eq_true rfl) (Nat.le_of_ble_eq_true rfl) (mW_want_f t he) ?_
      refine gd_ald0 dX9_wantRule_91 (by decide) ?_
      refine gd_getI dX9_wantRule_92 fl_9_175 rfl rfl ?_
      rw [hW_19]
      refine gd_if_lt_f 99 dX9_wantRule_95 (by decide) (nI_pos (by have := mS_le t he; omega)) ?_
      refine gd_vret dX9_wantRule_98 rfl ?_
      rfl
    · exact FrR_rf _ _
set_option maxHeartbeats 1000000 in
theorem ru_W1 {b : Nat → Nat} {N e : Nat} (hN : N ≤ 120) (he : e ≤ N) (nw : isNm b N e ch0 4) (a1 : ¬ nOk b N (tkX b N e) 0 15) : RuF b N e (tkX b N e) := by
  refine ⟨(tkX_ok hN he).2.1, fun h K L G r t hr => ?_, fun h R x k t hx hx8 hk => ?_⟩
  · apply Exists.intro
    apply Exists.intro
    apply Exists.intro
    refine ⟨?_, ?_, ?_, ?_⟩
    · refine gd_ald0 dX5_readRule_0 (by decide) ?_
      refine gd_ldcS (j := 0) (by decide) rfl rfl dX5_readRule_1 ?_
      refine gd_cV1i dX5_readRule_3 ct_5_53 rc_51 ⟨Nat.le_of_ble_eq_true rfl, Nat.le_of_ble_eq_true rfl⟩ (Nat.le_of_ble_eq_true rfl) (Nat.le_of_ble_eq_true rfl) (cR_nm0_t t he nw) ?_
      refine gd_if_eq_f 44 dX5_readRule_6 (by decide) (by decide) ?_
      refine gd_ald0 dX5_readRule_9 (by decide) ?_
      refine gd_ild1 dX5_readRule_10 ?_
      refine gd_bipush (v := nI 8) dX5_readRule_11 (by decide) ?_
      refine gd_bipush (v := nI 15) dX5_readRule_13 (by decide) ?_
      refine gd_cV3i dX5_readRule_15 ct_5_57 rc_51 ⟨Nat.le_of_ble_eq_true rfl, Nat.le_of_ble_eq_true rfl⟩ (Nat.le_of_ble_eq_true rfl) (Nat.le_of_ble_eq_true rfl) (cR_abt_f t (tX_le t he) hr (by decide) a1) ?_
      refine gd_if_eq_t 42 dX5_readRule_18 (by decide) (by decide) ?_
      refine gd_ic0 dX5_readRule_42 ?_
      refine gd_iret dX5_readRule_43 rfl (by first | rfl | decide | exact nar_bi _ | assumption) ?_
      rfl
    · intro j hj; first | rfl | simp only [upd_at, if_neg hj]
    · intro j hj; first | rfl | simp only [upd_at, if_neg hj]
    · intro j hj; first | rfl | simp only [upd_at, if_neg hj]
  · apply Exists.intro
    refine ⟨?_, ?_⟩
    · refine gd_ic4 dX9_wantRule_0 ?_
      refine gd_bipush (v := nI 6) dX9_wantRule_1 (by decide) ?_
      refine gd_ald0 dX9_wantRule_3 (by decide) ?_
      refine gd_getR (r := 74) dX9_wantRule_4 fl_9_13 rfl rfl rfl (by decide) ?_
      refine gd_ic2 dX9_wantRule_7 ?_
      refine gd_iald (n := 5) dX9_wantRule_8 rfl (by decide) (by repeat' (first | with_reducible rfl | apply ni_add | apply ni_mul)) (by omega) ?_
      rw [show (hW h b N e (-1) R).1 74 2 = nI x from hx]
      refine gd_imul dX9_wantRule_9 ?_
      refine gd_ild1 dX9_wantRule_10 ?_
      refine gd_iadd dX9_wantRule_11 ?_
      refine gd_imul dX9_wantRule_12 ?_
      rw [pk_mul, nI_add, pk_mul]
      refine gd_ist2 dX9_wantRule_13 rfl ?_
      refine gd_ald0 dX9_wantRule_14 (by decide) ?_
      refine gd_ldc2 dX9_wantRule_15 l2_9_185 ?_
      refine gd_cV1i dX9_wantRule_18 ct_9_187 rc_72 ⟨Nat.le_of_ble_eq_true rfl, Nat.le_of_ble_eq_true rfl⟩ (Nat.le_of_ble_eq_true rfl) (Nat.le_of_ble_eq_true rfl) (mW_nm0_t t he nw) ?_
      refine gd_if_eq_f 28 dX9_wantRule_21 (by decide) (by decide) ?_
      refine gd_ic0 dX9_wantRule_24 ?_
      refine gd_goto 71 dX9_wantRule_25 (by decide) ?_
      refine gd_ist3 dX9_wantRule_71 rfl ?_
      refine gd_ald0 dX9_wantRule_72 (by decide) ?_
      refine gd_ild3 dX9_wantRule_73 ?_
      refine gd_if_lt_f 87 dX9_wantRule_74 (by decide) (by decide) ?_
      refine gd_ild1 dX9_wantRule_77 ?_
      refine gd_bipush (v := nI 6) dX9_wantRule_78 (by decide) ?_
      refine gd_icmp_ge_f 87 dX9_wantRule_80 (by decide) (by exact nI_ge (by omega) (by omega)) ?_
      refine gd_ic1 dX9_wantRule_83 ?_
      refine gd_goto 88 dX9_wantRule_84 (by decide) ?_
      refine gd_cV1v dX9_wantRule_88 ct_9_181 rc_72 ⟨Nat.le_of_ble_eq_true rfl, Nat.le_of_ble_eq_true rfl⟩ (Nat.le_of_ble_eq_true rfl) (Nat.le_of_ble_eq_true rfl) (mW_want_n t he) ?_
      refine gd_ald0 dX9_wantRule_91 (by decide) ?_
      refine gd_getI dX9_wantRule_92 fl_9_175 rfl rfl ?_
      rw [hW_19]
      refine gd_if_lt_t 99 dX9_wantRule_95 (by decide) (by decide) ?_
      refine gd_ild3 dX9_wantRule_99 ?_
      refine gd_ic2 dX9_wantRule_100 ?_
      refine gd_icmp_ne_t 108 dX9_wantRule_101 (by decide) (by decide) ?_
      refine gd_ald0 dX9_wantRule_108 (by decide) ?_
      refine gd_ic0 dX9_wantRule_109 ?_
      refine gd_ild3 dX9_wantRule_110 ?_
      refine gd_if_ne_f 119 dX9_wantRule_111 (by decide) (by decide) ?_
      refine gd_bipush (v := nI 15) dX9_wantRule_114 (by decide) ?_
      refine gd_goto 129 dX9_wantRule_116 (by decide) ?_
      refine gd_cV2i dX9_wantRule_129 ct_9_197 rc_72 ⟨Nat.le_of_ble_eq_true rfl, Nat.le_of_ble_eq_true rfl⟩ (Nat.le_of_ble_eq_true rfl) (Nat.le_of_ble_eq_true rfl) (mW_num_f t (mX_le t he) (by decide) (by decide) a1) ?_
      refine gd_ist4 dX9_wantRule_132 rfl ?_
      refine gd_ild3 dX9_wantRule_134 ?_
      refine gd_ic2 dX9_wantRule_135 ?_
      refine gd_icmp_eq_f 160 dX9_wantRule_136 (by decide) (by decide) ?_
      refine gd_ald0 dX9_wantRule_139 (by decide) ?_
      refine gd_ald0 dX9_wantRule_140 (by decide) ?_
      refine gd_ild3 dX9_wantRule_141 ?_
      refine gd_if_ne_f 151 dX9_wantRule_142 (by decide) (by decide) ?_
      refine gd_ldc2 dX9_wantRule_145 l2_9_200 ?_
      refine gd_goto 154 dX9_wantRule_148 (by decide) ?_
      refine gd_cV1i dX9_wantRule_154 ct_9_187 rc_72 ⟨Nat.le_of_ble_eq_true rfl, Nat.le_of_ble_eq_true rfl⟩ (Nat.le_of_ble_eq_true rfl) (Nat.le_of_ble_eq_true rfl) (m_isName (hW_mt t (mX_le t he)) _) ?_
      refine gd_cV1v dX9_wantRule_157 ct_9_181 rc_72 ⟨Nat.le_of_ble_eq_true rfl, Nat.le_of_ble_eq_true rfl⟩ (Nat.le_of_ble_eq_true rfl) (Nat.le_of_ble_eq_true rfl) (mW_want_d (mS_le t (mX_le t he)) _) ?_
      refine gd_ald0 dX9_wantRule_160 (by decide) ?_
      refine gd_ild3 dX9_wantRule_161 ?_
      refine gd_ic2 dX9_wantRule_162 ?_
      refine gd_icmp_ne_t 170 dX9_wantRule_163 (by decide) (by decide) ?_
      refine gd_ic0 dX9_wantRule_170 ?_
      refine gd_ild3 dX9_wantRule_171 ?_
      refine gd_if_ne_f 180 dX9_wantRule_172 (by decide) (by decide) ?_
      refine gd_bipush (v := nI 11) dX9_wantRule_175 (by decide) ?_
      refine gd_goto 202 dX9_wantRule_177 (by decide) ?_
      refine gd_cV2i dX9_wantRule_202 ct_9_197 rc_72 ⟨Nat.le_of_ble_eq_true rfl, Nat.le_of_ble_eq_true rfl⟩ (Nat.le_of_ble_eq_true rfl) (Nat.le_of_ble_eq_true rfl) (mW_num_d (mS_le t (mX_le t he)) _ _) ?_
      refine gd_ist5 dX9_wantRule_205 rfl ?_
      refine gd_ild5 dX9_wantRule_207 ?_
      refine gd_ist6 dX9_wantRule_209 rfl ?_
      refine gd_ild3 dX9_wantRule_211 ?_
      refine gd_if_ne_f 245 dX9_wantRule_212 (by decide) (by decide) ?_
      refine gd_ald0 dX9_wantRule_215 (by decide) ?_
      refine gd_getI dX9_wantRule_216 fl_9_175 rfl rfl ?_
      rw [hW_19]
      refine gd_if_ge_t 245 dX9_wantRule_219 (by decide) (nI_pos' (by have := mS_le t (mX_le t he); omega)) ?_
      refine gd_ald0 dX9_wantRule_245 (by decide) ?_
      refine gd_getR (r := 80) dX9_wantRule_246 fl_9_31 rfl rfl rfl (by decide) ?_
      refine gd_ild2 dX9_wantRule_249 ?_
      refine gd_ild3 dX9_wantRule_250 ?_
      refine gd_iast (n := 192) dX9_wantRule_251 rfl (by decide) (by repeat' (first | with_reducible rfl | apply ni_add | apply ni_mul)) (by omega) ?_
      rw [hW_r, hW_80]
      refine gd_ald0 dX9_wantRule_252 (by decide) ?_
      refine gd_getR (r := 80) dX9_wantRule_253 fl_9_31 rfl rfl rfl (by decide) ?_
      refine gd_ild2 dX9_wantRule_256 ?_
      refine gd_ic1 dX9_wantRule_257 ?_
      refine gd_iadd dX9_wantRule_258 ?_
      refine gd_ild4 dX9_wantRule_259 ?_
      refine gd_iast (n := 192) dX9_wantRule_261 rfl (by decide) (by repeat' (first | with_reducible rfl | apply ni_add | apply ni_mul)) (by omega) ?_
      rw [hW_r, hW_80]
      refine gd_ald0 dX9_wantRule_262 (by decide) ?_
      refine gd_getR (r := 80) dX9_wantRule_263 fl_9_31 rfl rfl rfl (by decide) ?_
      refine gd_ild2 dX9_wantRule_266 ?_
      refine gd_ic2 dX9_wantRule_267 ?_
      refine gd_iadd dX9_wantRule_268 ?_
      refine gd_ild5 dX9_wantRule_269 ?_
      refine gd_iast (n := 192) dX9_wantRule_271 rfl (by decide) (by repeat' (first | with_reducible rfl | apply ni_add | apply ni_mul)) (by omega) ?_
      rw [hW_r, hW_80]
      refine gd_ald0 dX9_wantRule_272 (by decide) ?_
      refine gd_getR (r := 80) dX9_wantRule_273 fl_9_31 rfl rfl rfl (by decide) ?_
      refine gd_ild2 dX9_wantRule_276 ?_
      refine gd_ic3 dX9_wantRule_277 ?_
      refine gd_iadd dX9_wantRule_278 ?_
      refine gd_ild6 dX9_wantRule_279 ?_
      refine gd_iast (n := 192) dX9_wantRule_281 rfl (by decide) (by repeat' (first | with_reducible rfl | apply ni_add | apply ni_mul)) (by omega) ?_
      rw [hW_r, hW_80]
      refine gd_vret dX9_wantRule_282 rfl ?_
      rfl
    · exact up4_fr _ _ _ _ _ _
set_option maxHeartbeats 1000000 in
theorem ru_W2 {b : Nat → Nat} {N e : Nat} (hN : N ≤ 120) (he : e ≤ N) (nw : isNm b N e ch0 4) (a1 : nOk b N (tkX b N e) 0 15) (a2 : ¬ isNm b N (tkX b N (tkX b N e)) ch1 2) : RuF b N e (tkX b N (tkX b N e)) := by
  refine ⟨(tkX_ok hN (tkX_ok hN he).2.1).2.1, fun h K L G r t hr => ?_, fun h R x k t hx hx8 hk => ?_⟩
  · apply Exists.intro
    apply Exists.intro
    apply Exists.intro
    refine ⟨?_, ?_, ?_, ?_⟩
    · refine gd_ald0 dX5_readRule_0 (by decide) ?_
      refine gd_ldcS (j := 0) (by decide) rfl rfl dX5_readRule_1 ?_
      refine gd_cV1i dX5_readRule_3 ct_5_53 rc_51 ⟨Nat.le_of_ble_eq_true rfl, Nat.le_of_ble_eq_true rfl⟩ (Nat.le_of_ble_eq_true rfl) (Nat.le_of_ble_eq_true rfl) (cR_nm0_t t he nw) ?_
      refine gd_if_eq_f 44 dX5_readRule_6 (by decide) (by decide) ?_
      refine gd_ald0 dX5_readRule_9 (by decide) ?_
      refine gd_ild1 dX5_readRule_10 ?_
      refine gd_bipush (v := nI 8) dX5_readRule_11 (by decide) ?_
      refine gd_bipush (v := nI 15) dX5_readRule_13 (by decide) ?_
      refine gd_cV3i dX5_readRule_15 ct_5_57 rc_51 ⟨Nat.le_of_ble_eq_true rfl, Nat.le_of_ble_eq_true rfl⟩ (Nat.le_of_ble_eq_true rfl) (Nat.le_of_ble_eq_true rfl) (cR_abt_t t (tX_le t he) hr (by decide) a1) ?_
      refine gd_if_eq_f 42 dX5_readRule_18 (by decide) (by decide) ?_
      refine gd_ald0 dX5_readRule_21 (by decide) ?_
      refine gd_ldcS (j := 1) (by decide) rfl rfl dX5_readRule_22 ?_
      refine gd_cV1i dX5_readRule_24 ct_5_53 rc_51 ⟨Nat.le_of_ble_eq_true rfl, Nat.le_of_ble_eq_true rfl⟩ (Nat.le_of_ble_eq_true rfl) (Nat.le_of_ble_eq_true rfl) (cR_nm1_f t (tX_le t (tX_le t he)) a2) ?_
      refine gd_if_eq_t 42 dX5_readRule_27 (by decide) (by decide) ?_
      refine gd_ic0 dX5_readRule_42 ?_
      refine gd_iret dX5_readRule_43 rfl (by first | rfl | decide | exact nar_bi _ | assumption) ?_
      rfl
    · intro j hj; first | rfl | simp only [upd_at, if_neg hj]
    · intro j hj; first | rfl | simp only [upd_at, if_neg hj]
    · intro j hj; first | rfl | simp only [upd_at, if_neg hj]
  · apply Exists.intro
    refine ⟨?_, ?_⟩
    · refine gd_ic4 dX9_wantRule_0 ?_
      refine gd_bipush (v := nI 6) dX9_wantRule_1 (by decide) ?_
      refine gd_ald0 dX9_wantRule_3 (by decide) ?_
      refine gd_getR (r := 74) dX9_wantRule_4 fl_9_13 rfl rfl rfl (by decide) ?_
      refine gd_ic2 dX9_wantRule_7 ?_
      refine gd_iald (n := 5) dX9_wantRule_8 rfl (by decide) (by repeat' (first | with_reducible rfl | apply ni_add | apply ni_mul)) (by omega) ?_
      rw [show (hW h b N e (-1) R).1 74 2 = nI x from hx]
      refine gd_imul dX9_wantRule_9 ?_
      refine gd_ild1 dX9_wantRule_10 ?_
      refine gd_iadd dX9_wantRule_11 ?_
      refine gd_imul dX9_wantRule_12 ?_
      rw [pk_mul, nI_add, pk_mul]
      refine gd_ist2 dX9_wantRule_13 rfl ?_
      refine gd_ald0 dX9_wantRule_14 (by decide) ?_
      refine gd_ldc2 dX9_wantRule_15 l2_9_185 ?_
      refine gd_cV1i dX9_wantRule_18 ct_9_187 rc_72 ⟨Nat.le_of_ble_eq_true rfl, Nat.le_of_ble_eq_true rfl⟩ (Nat.le_of_ble_eq_true rfl) (Nat.le_of_ble_eq_true rfl) (mW_nm0_t t he nw) ?_
      refine gd_if_eq_f 28 dX9_wantRule_21 (by decide) (by decide) ?_
      refine gd_ic0 dX9_wantRule_24 ?_
      refine gd_goto 71 dX9_wantRule_25 (by decide) ?_
      refine gd_ist3 dX9_wantRule_71 rfl ?_
      refine gd_ald0 dX9_wantRule_72 (by decide) ?_
      refine gd_ild3 dX9_wantRule_73 ?_
      refine gd_if_lt_f 87 dX9_wantRule_74 (by decide) (by decide) ?_
      refine gd_ild1 dX9_wantRule_77 ?_
      refine gd_bipush (v := nI 6) dX9_wantRule_78 (by decide) ?_
      refine gd_icmp_ge_f 87 dX9_wantRule_80 (by decide) (by exact nI_ge (by omega) (by omega)) ?_
      refine gd_ic1 dX9_wantRule_83 ?_
      refine gd_goto 88 dX9_wantRule_84 (by decide) ?_
      refine gd_cV1v dX9_wantRule_88 ct_9_181 rc_72 ⟨Nat.le_of_ble_eq_true rfl, Nat.le_of_ble_eq_true rfl⟩ (Nat.le_of_ble_eq_true rfl) (Nat.le_of_ble_eq_true rfl) (mW_want_n t he) ?_
      refine gd_ald0 dX9_wantRule_91 (by decide) ?_
      refine gd_getI dX9_wantRule_92 fl_9_175 rfl rfl ?_
      rw [hW_19]
      refine gd_if_lt_t 99 dX9_wantRule_95 (by decide) (by decide) ?_
      refine gd_ild3 dX9_wantRule_99 ?_
      refine gd_ic2 dX9_wantRule_100 ?_
      refine gd_icmp_ne_t 108 dX9_wantRule_101 (by decide) (by decide) ?_
      refine gd_ald0 dX9_wantRule_108 (by decide) ?_
      refine gd_ic0 dX9_wantRule_109 ?_
      refine gd_ild3 dX9_wantRule_110 ?_
      refine gd_if_ne_f 119 dX9_wantRule_111 (by decide) (by decide) ?_
      refine gd_bipush (v := nI 15) dX9_wantRule_114 (by decide) ?_
      refine gd_goto 129 dX9_wantRule_116 (by decide) ?_
      refine gd_cV2i dX9_wantRule_129 ct_9_197 rc_72 ⟨Nat.le_of_ble_eq_true rfl, Nat.le_of_ble_eq_true rfl⟩ (Nat.le_of_ble_eq_true rfl) (Nat.le_of_ble_eq_true rfl) (mW_num_t t (mX_le t he) (by decide) a1) ?_
      refine gd_ist4 dX9_wantRule_132 rfl ?_
      refine gd_ild3 dX9_wantRule_134 ?_
      refine gd_ic2 dX9_wantRule_135 ?_
      refine gd_icmp_eq_f 160 dX9_wantRule_136 (by decide) (by decide) ?_
      refine gd_ald0 dX9_wantRule_139 (by decide) ?_
      refine gd_ald0 dX9_wantRule_140 (by decide) ?_
      refine gd_ild3 dX9_wantRule_141 ?_
      refine gd_if_ne_f 151 dX9_wantRule_142 (by decide) (by decide) ?_
      refine gd_ldc2 dX9_wantRule_145 l2_9_200 ?_
      refine gd_goto 154 dX9_wantRule_148 (by decide) ?_
      refine gd_cV1i dX9_wantRule_154 ct_9_187 rc_72 ⟨Nat.le_of_ble_eq_true rfl, Nat.le_of_ble_eq_true rfl⟩ (Nat.le_of_ble_eq_true rfl) (Nat.le_of_ble_eq_true rfl) (mW_nm1_f t (mX_le t (mX_le t he)) a2) ?_
      refine gd_cV1v dX9_wantRule_157 ct_9_181 rc_72 ⟨Nat.le_of_ble_eq_true rfl, Nat.le_of_ble_eq_true rfl⟩ (Nat.le_of_ble_eq_true rfl) (Nat.le_of_ble_eq_true rfl) (mW_want_f t (mX_le t (mX_le t he))) ?_
      refine gd_ald0 dX9_wantRule_160 (by decide) ?_
      refine gd_ild3 dX9_wantRule_161 ?_
      refine gd_ic2 dX9_wantRule_162 ?_
      refine gd_icmp_ne_t 170 dX9_wantRule_163 (by decide) (by decide) ?_
      refine gd_ic0 dX9_wantRule_170 ?_
      refine gd_ild3 dX9_wantRule_171 ?_
      refine gd_if_ne_f 180 dX9_wantRule_172 (by decide) (by decide) ?_
      refine gd_bipush (v := nI 11) dX9_wantRule_175 (by decide) ?_
      refine gd_goto 202 dX9_wantRule_177 (by decide) ?_
      refine gd_cV2i dX9_wantRule_202 ct_9_197 rc_72 ⟨Nat.le_of_ble_eq_true rfl, Nat.le_of_ble_eq_true rfl⟩ (Nat.le_of_ble_eq_true rfl) (Nat.le_of_ble_eq_true rfl) (mW_num_d (mS_le t (mX_le t (mX_le t he))) _ _) ?_
      refine gd_ist5 dX9_wantRule_205 rfl ?_
      refine gd_ild5 dX9_wantRule_207 ?_
      refine gd_ist6 dX9_wantRule_209 rfl ?_
      refine gd_ild3 dX9_wantRule_211 ?_
      refine gd_if_ne_f 245 dX9_wantRule_212 (by decide) (by decide) ?_
      refine gd_ald0 dX9_wantRule_215 (by decide) ?_
      refine gd_getI dX9_wantRule_216 fl_9_175 rfl rfl ?_
      rw [hW_19]
      refine gd_if_ge_t 245 dX9_wantRule_219 (by decide) (nI_pos' (by have := mS_le t (mX_le t (mX_le t he)); omega)) ?_
      refine gd_ald0 dX9_wantRule_245 (by decide) ?_
      refine gd_getR (r := 80) dX9_wantRule_246 fl_9_31 rfl rfl rfl (by decide) ?_
      refine gd_ild2 dX9_wantRule_249 ?_
      refine gd_ild3 dX9_wantRule_250 ?_
      refine gd_iast (n := 192) dX9_wantRule_251 rfl (by decide) (by repeat' (first | with_reducible rfl | apply ni_add | apply ni_mul)) (by omega) ?_
      rw [hW_r, hW_80]
      refine gd_ald0 dX9_wantRule_252 (by decide) ?_
      refine gd_getR (r := 80) dX9_wantRule_253 fl_9_31 rfl rfl rfl (by decide) ?_
      refine gd_ild2 dX9_wantRule_256 ?_
      refine gd_ic1 dX9_wantRule_257 ?_
      refine gd_iadd dX9_wantRule_258 ?_
      refine gd_ild4 dX9_wantRule_259 ?_
      refine gd_iast (n := 192) dX9_wantRule_261 rfl (by decide) (by repeat' (first | with_reducible rfl | apply ni_add | apply ni_mul)) (by omega) ?_
      rw [hW_r, hW_80]
      refine gd_ald0 dX9_wantRule_262 (by decide) ?_
      refine gd_getR (r := 80) dX9_wantRule_263 fl_9_31 rfl rfl rfl (by decide) ?_
      refine gd_ild2 dX9_wantRule_266 ?_
      refine gd_ic2 dX9_wantRule_267 ?_
      refine gd_iadd dX9_wantRule_268 ?_
      refine gd_ild5 dX9_wantRule_269 ?_
      refine gd_iast (n := 192) dX9_wantRule_271 rfl (by decide) (by repeat' (first | with_reducible rfl | apply ni_add | apply ni_mul)) (by omega) ?_
      rw [hW_r, hW_80]
      refine gd_ald0 dX9_wantRule_272 (by decide) ?_
      refine gd_getR (r := 80) dX9_wantRule_273 fl_9_31 rfl rfl rfl (by decide) ?_
      refine gd_ild2 dX9_wantRule_276 ?_
      refine gd_ic3 dX9_wantRule_277 ?_
      refine gd_iadd dX9_wantRule_278 ?_
      refine gd_ild6 dX9_wantRule_279 ?_
      refine gd_iast (n := 192) dX9_wantRule_281 rfl (by decide) (by repeat' (first | with_reducible rfl | apply ni_add | apply ni_mul)) (by omega) ?_
      rw [hW_r, hW_80]
      refine gd_vret dX9_wantRule_282 rfl ?_
      rfl
    · exact up4_fr _ _ _ _ _ _
set_option maxHeartbeats 1000000 in
theorem ru_W3 {b : Nat → Nat} {N e : Nat} (hN : N ≤ 120) (he : e ≤ N) (nw : isNm b N e ch0 4) (a1 : nOk b N (tkX b N e) 0 15) (a2 : isNm b N (tkX b N (tkX b N e)) ch1 2) (a3 : ¬ nOk b N (tkX b N (tkX b N (tkX b N e))) 0 11) : RuF b N e (tkX b N (tkX b N (tkX b N e))) := by
  refine ⟨(tkX_ok hN (tkX_ok hN (tkX_ok hN he).2.1).2.1).2.1, fun h K L G r t hr => ?_, fun h R x k t hx hx8 hk => ?_⟩
  · apply Exists.intro
    apply Exists.intro
    apply Exists.intro
    refine ⟨?_, ?_, ?_, ?_⟩
    · refine gd_ald0 dX5_readRule_0 (by decide) ?_
      refine gd_ldcS (j := 0) (by decide) rfl rfl dX5_readRule_1 ?_
      refine gd_cV1i dX5_readRule_3 ct_5_53 rc_51 ⟨Nat.le_of_ble_eq_true rfl, Nat.le_of_ble_eq_true rfl⟩ (Nat.le_of_ble_eq_true rfl) (Nat.le_of_ble_eq_true rfl) (cR_nm0_t t he nw) ?_
      refine gd_if_eq_f 44 dX5_readRule_6 (by decide) (by decide) ?_
      refine gd_ald0 dX5_readRule_9 (by decide) ?_
      refine gd_ild1 dX5_readRule_10 ?_
      refine gd_bipush (v := nI 8) dX5_readRule_11 (by decide) ?_
      refine gd_bipush (v := nI 15) dX5_readRule_13 (by decide) ?_
      refine gd_cV3i dX5_readRule_15 ct_5_57 rc_51 ⟨Nat.le_of_ble_eq_true rfl, Nat.le_of_ble_eq_true rfl⟩ (Nat.le_of_ble_eq_true rfl) (Nat.le_of_ble_eq_true rfl) (cR_abt_t t (tX_le t he) hr (by decide) a1) ?_
      refine gd_if_eq_f 42 dX5_readRule_18 (by decide) (by decide) ?_
      refine gd_ald0 dX5_readRule_21 (by decide) ?_
      refine gd_ldcS (j := 1) (by decide) rfl rfl dX5_readRule_22 ?_
      refine gd_cV1i dX5_readRule_24 ct_5_53 rc_51 ⟨Nat.le_of_ble_eq_true rfl, Nat.le_of_ble_eq_true rfl⟩ (Nat.le_of_ble_eq_true rfl) (Nat.le_of_ble_eq_true rfl) (cR_nm1_t t (tX_le t (tX_le t he)) a2) ?_
      refine gd_if_eq_f 42 dX5_readRule_27 (by decide) (by decide) ?_
      refine gd_ald0 dX5_readRule_30 (by decide) ?_
      refine gd_ild1 dX5_readRule_31 ?_
      refine gd_cV1i dX5_readRule_32 ct_5_63 rc_51 ⟨Nat.le_of_ble_eq_true rfl, Nat.le_of_ble_eq_true rfl⟩ (Nat.le_of_ble_eq_true rfl) (Nat.le_of_ble_eq_true rfl) (cR_stp1 t (tX_le t (tX_le t (tX_le t he))) hr a3) ?_
      refine gd_if_eq_t 42 dX5_readRule_35 (by decide) (by decide) ?_
      refine gd_ic0 dX5_readRule_42 ?_
      refine gd_iret dX5_readRule_43 rfl (by first | rfl | decide | exact nar_bi _ | assumption) ?_
      rfl
    · intro j hj; first | rfl | simp only [upd_at, if_neg hj]
    · intro j hj; first | rfl | simp only [upd_at, if_neg hj]
    · intro j hj; first | rfl | simp only [upd_at, if_neg hj]
  · apply Exists.intro
    refine ⟨?_, ?_⟩
    · refine gd_ic4 dX9_wantRule_0 ?_
      refine gd_bipush (v := nI 6) dX9_wantRule_1 (by decide) ?_
      refine gd_ald0 dX9_wantRule_3 (by decide) ?_
      refine gd_getR (r := 74) dX9_wantRule_4 fl_9_13 rfl rfl rfl (by decide) ?_
      refine gd_ic2 dX9_wantRule_7 ?_
      refine gd_iald (n := 5) dX9_wantRule_8 rfl (by decide) (by repeat' (first | with_reducible rfl | apply ni_add | apply ni_mul)) (by omega) ?_
      rw [show (hW h b N e (-1) R).1 74 2 = nI x from hx]
      refine gd_imul dX9_wantRule_9 ?_
      refine gd_ild1 dX9_wantRule_10 ?_
      refine gd_iadd dX9_wantRule_11 ?_
      refine gd_imul dX9_wantRule_12 ?_
      rw [pk_mul, nI_add, pk_mul]
      refine gd_ist2 dX9_wantRule_13 rfl ?_
      refine gd_ald0 dX9_wantRule_14 (by decide) ?_
      refine gd_ldc2 dX9_wantRule_15 l2_9_185 ?_
      refine gd_cV1i dX9_wantRule_18 ct_9_187 rc_72 ⟨Nat.le_of_ble_eq_true rfl, Nat.le_of_ble_eq_true rfl⟩ (Nat.le_of_ble_eq_true rfl) (Nat.le_of_ble_eq_true rfl) (mW_nm0_t t he nw) ?_
      refine gd_if_eq_f 28 dX9_wantRule_21 (by decide) (by decide) ?_
      refine gd_ic0 dX9_wantRule_24 ?_
      refine gd_goto 71 dX9_wantRule_25 (by decide) ?_
      refine gd_ist3 dX9_wantRule_71 rfl ?_
      refine gd_ald0 dX9_wantRule_72 (by decide) ?_
      refine gd_ild3 dX9_wantRule_73 ?_
      refine gd_if_lt_f 87 dX9_wantRule_74 (by decide) (by decide) ?_
      refine gd_ild1 dX9_wantRule_77 ?_
      refine gd_bipush (v := nI 6) dX9_wantRule_78 (by decide) ?_
      refine gd_icmp_ge_f 87 dX9_wantRule_80 (by decide) (by exact nI_ge (by omega) (by omega)) ?_
      refine gd_ic1 dX9_wantRule_83 ?_
      refine gd_goto 88 dX9_wantRule_84 (by decide) ?_
      refine gd_cV1v dX9_wantRule_88 ct_9_181 rc_72 ⟨Nat.le_of_ble_eq_true rfl, Nat.le_of_ble_eq_true rfl⟩ (Nat.le_of_ble_eq_true rfl) (Nat.le_of_ble_eq_true rfl) (mW_want_n t he) ?_
      refine gd_ald0 dX9_wantRule_91 (by decide) ?_
      refine gd_getI dX9_wantRule_92 fl_9_175 rfl rfl ?_
      rw [hW_19]
      refine gd_if_lt_t 99 dX9_wantRule_95 (by decide) (by decide) ?_
      refine gd_ild3 dX9_wantRule_99 ?_
      refine gd_ic2 dX9_wantRule_100 ?_
      refine gd_icmp_ne_t 108 dX9_wantRule_101 (by decide) (by decide) ?_
      refine gd_ald0 dX9_wantRule_108 (by decide) ?_
      refine gd_ic0 dX9_wantRule_109 ?_
      refine gd_ild3 dX9_wantRule_110 ?_
      refine gd_if_ne_f 119 dX9_wantRule_111 (by decide) (by decide) ?_
      refine gd_bipush (v := nI 15) dX9_wantRule_114 (by decide) ?_
      refine gd_goto 129 dX9_wantRule_116 (by decide) ?_
      refine gd_cV2i dX9_wantRule_129 ct_9_197 rc_72 ⟨Nat.le_of_ble_eq_true rfl, Nat.le_of_ble_eq_true rfl⟩ (Nat.le_of_ble_eq_true rfl) (Nat.le_of_ble_eq_true rfl) (mW_num_t t (mX_le t he) (by decide) a1) ?_
      refine gd_ist4 dX9_wantRule_132 rfl ?_
      refine gd_ild3 dX9_wantRule_134 ?_
      refine gd_ic2 dX9_wantRule_135 ?_
      refine gd_icmp_eq_f 160 dX9_wantRule_136 (by decide) (by decide) ?_
      refine gd_ald0 dX9_wantRule_139 (by decide) ?_
      refine gd_ald0 dX9_wantRule_140 (by decide) ?_
      refine gd_ild3 dX9_wantRule_141 ?_
      refine gd_if_ne_f 151 dX9_wantRule_142 (by decide) (by decide) ?_
      refine gd_ldc2 dX9_wantRule_145 l2_9_200 ?_
      refine gd_goto 154 dX9_wantRule_148 (by decide) ?_
      refine gd_cV1i dX9_wantRule_154 ct_9_187 rc_72 ⟨Nat.le_of_ble_eq_true rfl, Nat.le_of_ble_eq_true rfl⟩ (Nat.le_of_ble_eq_true rfl) (Nat.le_of_ble_eq_true rfl) (mW_nm1_t t (mX_le t (mX_le t he)) a2) ?_
      refine gd_cV1v dX9_wantRule_157 ct_9_181 rc_72 ⟨Nat.le_of_ble_eq_true rfl, Nat.le_of_ble_eq_true rfl⟩ (Nat.le_of_ble_eq_true rfl) (Nat.le_of_ble_eq_true rfl) (mW_want_n t (mX_le t (mX_le t he))) ?_
      refine gd_ald0 dX9_wantRule_160 (by decide) ?_
      refine gd_ild3 dX9_wantRule_161 ?_
      refine gd_ic2 dX9_wantRule_162 ?_
      refine gd_icmp_ne_t 170 dX9_wantRule_163 (by decide) (by decide) ?_
      refine gd_ic0 dX9_wantRule_170 ?_
      refine gd_ild3 dX9_wantRule_171 ?_
      refine gd_if_ne_f 180 dX9_wantRule_172 (by decide) (by decide) ?_
      refine gd_bipush (v := nI 11) dX9_wantRule_175 (by decide) ?_
      refine gd_goto 202 dX9_wantRule_177 (by decide) ?_
      refine gd_cV2i dX9_wantRule_202 ct_9_197 rc_72 ⟨Nat.le_of_ble_eq_true rfl, Nat.le_of_ble_eq_true rfl⟩ (Nat.le_of_ble_eq_true rfl) (Nat.le_of_ble_eq_true rfl) (mW_num_f t (mX_le t (mX_le t (mX_le t he))) (by decide) (by decide) a3) ?_
      refine gd_ist5 dX9_wantRule_205 rfl ?_
      refine gd_ild5 dX9_wantRule_207 ?_
      refine gd_ist6 dX9_wantRule_209 rfl ?_
      refine gd_ild3 dX9_wantRule_211 ?_
      refine gd_if_ne_f 245 dX9_wantRule_212 (by decide) (by decide) ?_
      refine gd_ald0 dX9_wantRule_215 (by decide) ?_
      refine gd_getI dX9_wantRule_216 fl_9_175 rfl rfl ?_
      rw [hW_19]
      refine gd_if_ge_t 245 dX9_wantRule_219 (by decide) (nI_pos' (by have := mS_le t (mX_le t (mX_le t (mX_le t he))); omega)) ?_
      refine gd_ald0 dX9_wantRule_245 (by decide) ?_
      refine gd_getR (r := 80) dX9_wantRule_246 fl_9_31 rfl rfl rfl (by decide) ?_
      refine gd_ild2 dX9_wantRule_249 ?_
      refine gd_ild3 dX9_wantRule_250 ?_
      refine gd_iast (n := 192) dX9_wantRule_251 rfl (by decide) (by repeat' (first | with_reducible rfl | apply ni_add | apply ni_mul)) (by omega) ?_
      rw [hW_r, hW_80]
      refine gd_ald0 dX9_wantRule_252 (by decide) ?_
      refine gd_getR (r := 80) dX9_wantRule_253 fl_9_31 rfl rfl rfl (by decide) ?_
      refine gd_ild2 dX9_wantRule_256 ?_
      refine gd_ic1 dX9_wantRule_257 ?_
      refine gd_iadd dX9_wantRule_258 ?_
      refine gd_ild4 dX9_wantRule_259 ?_
      refine gd_iast (n := 192) dX9_wantRule_261 rfl (by decide) (by repeat' (first | with_reducible rfl | apply ni_add | apply ni_mul)) (by omega) ?_
      rw [hW_r, hW_80]
      refine gd_ald0 dX9_wantRule_262 (by decide) ?_
      refine gd_getR (r := 80) dX9_wantRule_263 fl_9_31 rfl rfl rfl (by decide) ?_
      refine gd_ild2 dX9_wantRule_266 ?_
      refine gd_ic2 dX9_wantRule_267 ?_
      refine gd_iadd dX9_wantRule_268 ?_
      refine gd_ild5 dX9_wantRule_269 ?_
      refine gd_iast (n := 192) dX9_wantRule_271 rfl (by decide) (by repeat' (first | with_reducible rfl | apply ni_add | apply ni_mul)) (by omega) ?_
      rw [hW_r, hW_80]
      refine gd_ald0 dX9_wantRule_272 (by decide) ?_
      refine gd_getR (r := 80) dX9_wantRule_273 fl_9_31 rfl rfl rfl (by decide) ?_
      refine gd_ild2 dX9_wantRule_276 ?_
      refine gd_ic3 dX9_wantRule_277 ?_
      refine gd_iadd dX9_wantRule_278 ?_
      refine gd_ild6 dX9_wantRule_279 ?_
      refine gd_iast (n := 192) dX9_wantRule_281 rfl (by decide) (by repeat' (first | with_reducible rfl | apply ni_add | apply ni_mul)) (by omega) ?_
      rw [hW_r, hW_80]
      refine gd_vret dX9_wantRule_282 rfl ?_
      rfl
    · exact up4_fr _ _ _ _ _ _
set_option maxHeartbeats 1000000 in
theorem ru_W4 {b : Nat → Nat} {N e : Nat} (hN : N ≤ 120) (he : e ≤ N) (nw : isNm b N e ch0 4) (a1 : nOk b N (tkX b N e) 0 15) (a2 : isNm b N (tkX b N (tkX b N e)) ch1 2) (a3 : nOk b N (tkX b N (tkX b N (tkX b N e))) 0 11) (a4 : ¬ sgn b N (tkX b N (tkX b N (tkX b N (tkX b N e)))) 45) : RuO b N e 0 (tkV b N (tkX b N e)) (tkV b N (tkX b N (tkX b N (tkX b N e)))) (tkV b N (tkX b N (tkX b N (tkX b N e)))) (tkX b N (tkX b N (tkX b N (tkX b N e)))) := by
  refine ⟨(tkX_ok hN (tkX_ok hN (tkX_ok hN (tkX_ok hN he).2.1).2.1).2.1).2.1, ⟨0, (tkV b N (tkX b N e)), (tkV b N (tkX b N (tkX b N (tkX b N e)))), (tkV b N (tkX b N (tkX b N (tkX b N e)))), rfl, rfl, rfl, rfl, Nat.le_refl _, Or.inl ⟨rfl, Nat.lt_succ_of_le a1.2.2, a3.2.2⟩⟩, fun h K L G r t hr => ?_, fun h R x k t hx hx8 hk => ?_⟩
  · apply Exists.intro
    apply Exists.intro
    apply Exists.intro
    refine ⟨?_, ⟨?_, ?_, ?_⟩, ?_, ?_, ?_⟩
    · refine gd_ald0 dX5_readRule_0 (by decide) ?_
      refine gd_ldcS (j := 0) (by decide) rfl rfl dX5_readRule_1 ?_
      refine gd_cV1i dX5_readRule_3 ct_5_53 rc_51 ⟨Nat.le_of_ble_eq_true rfl, Nat.le_of_ble_eq_true rfl⟩ (Nat.le_of_ble_eq_true rfl) (Nat.le_of_ble_eq_true rfl) (cR_nm0_t t he nw) ?_
      refine gd_if_eq_f 44 dX5_readRule_6 (by decide) (by decide) ?_
      refine gd_ald0 dX5_readRule_9 (by decide) ?_
      refine gd_ild1 dX5_readRule_10 ?_
      refine gd_bipush (v := nI 8) dX5_readRule_11 (by decide) ?_
      refine gd_bipush (v := nI 15) dX5_readRule_13 (by decide) ?_
      refine gd_cV3i dX5_readRule_15 ct_5_57 rc_51 ⟨Nat.le_of_ble_eq_true rfl, Nat.le_of_ble_eq_true rfl⟩ (Nat.le_of_ble_eq_true rfl) (Nat.le_of_ble_eq_true rfl) (cR_abt_t t (tX_le t he) hr (by decide) a1) ?_
      refine gd_if_eq_f 42 dX5_readRule_18 (by decide) (by decide) ?_
      refine gd_ald0 dX5_readRule_21 (by decide) ?_
      refine gd_ldcS (j := 1) (by decide) rfl rfl dX5_readRule_22 ?_
      refine gd_cV1i dX5_readRule_24 ct_5_53 rc_51 ⟨Nat.le_of_ble_eq_true rfl, Nat.le_of_ble_eq_true rfl⟩ (Nat.le_of_ble_eq_true rfl) (Nat.le_of_ble_eq_true rfl) (cR_nm1_t t (tX_le t (tX_le t he)) a2) ?_
      refine gd_if_eq_f 42 dX5_readRule_27 (by decide) (by decide) ?_
      refine gd_ald0 dX5_readRule_30 (by decide) ?_
      refine gd_ild1 dX5_readRule_31 ?_
      refine gd_cV1i dX5_readRule_32 ct_5_63 rc_51 ⟨Nat.le_of_ble_eq_true rfl, Nat.le_of_ble_eq_true rfl⟩ (Nat.le_of_ble_eq_true rfl) (Nat.le_of_ble_eq_true rfl) (cR_stp2 t (tX_le t (tX_le t (tX_le t he))) hr a3 a4) ?_
      refine gd_if_eq_f 42 dX5_readRule_35 (by decide) (by decide) ?_
      refine gd_ic1 dX5_readRule_38 ?_
      refine gd_goto 43 dX5_readRule_39 (by decide) ?_
      refine gd_iret dX5_readRule_43 rfl (by first | rfl | decide | exact nar_bi _ | assumption) ?_
      rfl
    · intro j hj; first | rfl | simp only [upd_at, if_neg hj]
    · intro j hj; first | rfl | simp only [upd_at, if_neg hj]
    · intro j hj; first | rfl | simp only [upd_at, if_neg hj]
    · rw [upd_at, if_pos rfl]; unfold keyI; rw [if_pos rfl, nI_add]
    · rw [upd_at, if_pos rfl]
    · rw [upd_at, if_pos rfl]
  · apply Exists.intro
    refine ⟨?_, ?_, ?_, ?_, ?_, ?_⟩
    · refine gd_ic4 dX9_wantRule_0 ?_
      refine gd_bipush (v := nI 6) dX9_wantRule_1 (by decide) ?_
      refine gd_ald0 dX9_wantRule_3 (by decide) ?_
      refine gd_getR (r := 74) dX9_wantRule_4 fl_9_13 rfl rfl rfl (by decide) ?_
      refine gd_ic2 dX9_wantRule_7 ?_
      refine gd_iald (n := 5) dX9_wantRule_8 rfl (by decide) (by repeat' (first | with_reducible rfl | apply ni_add | apply ni_mul)) (by omega) ?_
      rw [show (hW h b N e (-1) R).1 74 2 = nI x from hx]
      refine gd_imul dX9_wantRule_9 ?_
      refine gd_ild1 dX9_wantRule_10 ?_
      refine gd_iadd dX9_wantRule_11 ?_
      refine gd_imul dX9_wantRule_12 ?_
      rw [pk_mul, nI_add, pk_mul]
      refine gd_ist2 dX9_wantRule_13 rfl ?_
      refine gd_ald0 dX9_wantRule_14 (by decide) ?_
      refine gd_ldc2 dX9_wantRule_15 l2_9_185 ?_
      refine gd_cV1i dX9_wantRule_18 ct_9_187 rc_72 ⟨Nat.le_of_ble_eq_true rfl, Nat.le_of_ble_eq_true rfl⟩ (Nat.le_of_ble_eq_true rfl) (Nat.le_of_ble_eq_true rfl) (mW_nm0_t t he nw) ?_
      refine gd_if_eq_f 28 dX9_wantRule_21 (by decide) (by decide) ?_
      refine gd_ic0 dX9_wantRule_24 ?_
      refine gd_goto 71 dX9_wantRule_25 (by decide) ?_
      refine gd_ist3 dX9_wantRule_71 rfl ?_
      refine gd_ald0 dX9_wantRule_72 (by decide) ?_
      refine gd_ild3 dX9_wantRule_73 ?_
      refine gd_if_lt_f 87 dX9_wantRule_74 (by decide) (by decide) ?_
      refine gd_ild1 dX9_wantRule_77 ?_
      refine gd_bipush (v := nI 6) dX9_wantRule_78 (by decide) ?_
      refine gd_icmp_ge_f 87 dX9_wantRule_80 (by decide) (by exact nI_ge (by omega) (by omega)) ?_
      refine gd_ic1 dX9_wantRule_83 ?_
      refine gd_goto 88 dX9_wantRule_84 (by decide) ?_
      refine gd_cV1v dX9_wantRule_88 ct_9_181 rc_72 ⟨Nat.le_of_ble_eq_true rfl, Nat.le_of_ble_eq_true rfl⟩ (Nat.le_of_ble_eq_true rfl) (Nat.le_of_ble_eq_true rfl) (mW_want_n t he) ?_
      refine gd_ald0 dX9_wantRule_91 (by decide) ?_
      refine gd_getI dX9_wantRule_92 fl_9_175 rfl rfl ?_
      rw [hW_19]
      refine gd_if_lt_t 99 dX9_wantRule_95 (by decide) (by decide) ?_
      refine gd_ild3 dX9_wantRule_99 ?_
      refine gd_ic2 dX9_wantRule_100 ?_
      refine gd_icmp_ne_t 108 dX9_wantRule_101 (by decide) (by decide) ?_
      refine gd_ald0 dX9_wantRule_108 (by decide) ?_
      refine gd_ic0 dX9_wantRule_109 ?_
      refine gd_ild3 dX9_wantRule_110 ?_
      refine gd_if_ne_f 119 dX9_wantRule_111 (by decide) (by decide) ?_
      refine gd_bipush (v := nI 15) dX9_wantRule_114 (by decide) ?_
      refine gd_goto 129 dX9_wantRule_116 (by decide) ?_
      refine gd_cV2i dX9_wantRule_129 ct_9_197 rc_72 ⟨Nat.le_of_ble_eq_true rfl, Nat.le_of_ble_eq_true rfl⟩ (Nat.le_of_ble_eq_true rfl) (Nat.le_of_ble_eq_true rfl) (mW_num_t t (mX_le t he) (by decide) a1) ?_
      refine gd_ist4 dX9_wantRule_132 rfl ?_
      refine gd_ild3 dX9_wantRule_134 ?_
      refine gd_ic2 dX9_wantRule_135 ?_
      refine gd_icmp_eq_f 160 dX9_wantRule_136 (by decide) (by decide) ?_
      refine gd_ald0 dX9_wantRule_139 (by decide) ?_
      refine gd_ald0 dX9_wantRule_140 (by decide) ?_
      refine gd_ild3 dX9_wantRule_141 ?_
      refine gd_if_ne_f 151 dX9_wantRule_142 (by decide) (by decide) ?_
      refine gd_ldc2 dX9_wantRule_145 l2_9_200 ?_
      refine gd_goto 154 dX9_wantRule_148 (by decide) ?_
      refine gd_cV1i dX9_wantRule_154 ct_9_187 rc_72 ⟨Nat.le_of_ble_eq_true rfl, Nat.le_of_ble_eq_true rfl⟩ (Nat.le_of_ble_eq_true rfl) (Nat.le_of_ble_eq_true rfl) (mW_nm1_t t (mX_le t (mX_le t he)) a2) ?_
      refine gd_cV1v dX9_wantRule_157 ct_9_181 rc_72 ⟨Nat.le_of_ble_eq_true rfl, Nat.le_of_ble_eq_true rfl⟩ (Nat.le_of_ble_eq_true rfl) (Nat.le_of_ble_eq_true rfl) (mW_want_n t (mX_le t (mX_le t he))) ?_
      refine gd_ald0 dX9_wantRule_160 (by decide) ?_
      refine gd_ild3 dX9_wantRule_161 ?_
      refine gd_ic2 dX9_wantRule_162 ?_
      refine gd_icmp_ne_t 170 dX9_wantRule_163 (by decide) (by decide) ?_
      refine gd_ic0 dX9_wantRule_170 ?_
      refine gd_ild3 dX9_wantRule_171 ?_
      refine gd_if_ne_f 180 dX9_wantRule_172 (by decide) (by decide) ?_
      refine gd_bipush (v := nI 11) dX9_wantRule_175 (by decide) ?_
      refine gd_goto 202 dX9_wantRule_177 (by decide) ?_
      refine gd_cV2i dX9_wantRule_202 ct_9_197 rc_72 ⟨Nat.le_of_ble_eq_true rfl, Nat.le_of_ble_eq_true rfl⟩ (Nat.le_of_ble_eq_true rfl) (Nat.le_of_ble_eq_true rfl) (mW_num_t t (mX_le t (mX_le t (mX_le t he))) (by decide) a3) ?_
      refine gd_ist5 dX9_wantRule_205 rfl ?_
      refine gd_ild5 dX9_wantRule_207 ?_
      refine gd_ist6 dX9_wantRule_209 rfl ?_
      refine gd_ild3 dX9_wantRule_211 ?_
      refine gd_if_ne_f 245 dX9_wantRule_212 (by decide) (by decide) ?_
      refine gd_ald0 dX9_wantRule_215 (by decide) ?_
      refine gd_getI dX9_wantRule_216 fl_9_175 rfl rfl ?_
      rw [hW_19]
      refine gd_if_ge_f 245 dX9_wantRule_219 (by decide) (by decide) ?_
      refine gd_ald0 dX9_wantRule_222 (by decide) ?_
      refine gd_bipush (v := nI 45) dX9_wantRule_223 (by decide) ?_
      refine gd_cV1i dX9_wantRule_225 ct_9_204 rc_72 ⟨Nat.le_of_ble_eq_true rfl, Nat.le_of_ble_eq_true rfl⟩ (Nat.le_of_ble_eq_true rfl) (Nat.le_of_ble_eq_true rfl) (mW_sgn_f t (mX_le t (mX_le t (mX_le t (mX_le t he)))) (Or.inr rfl) a4) ?_
      refine gd_if_eq_t 245 dX9_wantRule_228 (by decide) (by decide) ?_
      refine gd_ald0 dX9_wantRule_245 (by decide) ?_
      refine gd_getR (r := 80) dX9_wantRule_246 fl_9_31 rfl rfl rfl (by decide) ?_
      refine gd_ild2 dX9_wantRule_249 ?_
      refine gd_ild3 dX9_wantRule_250 ?_
      refine gd_iast (n := 192) dX9_wantRule_251 rfl (by decide) (by repeat' (first | with_reducible rfl | apply ni_add | apply ni_mul)) (by omega) ?_
      rw [hW_r, hW_80]
      refine gd_ald0 dX9_wantRule_252 (by decide) ?_
      refine gd_getR (r := 80) dX9_wantRule_253 fl_9_31 rfl rfl rfl (by decide) ?_
      refine gd_ild2 dX9_wantRule_256 ?_
      refine gd_ic1 dX9_wantRule_257 ?_
      refine gd_iadd dX9_wantRule_258 ?_
      refine gd_ild4 dX9_wantRule_259 ?_
      refine gd_iast (n := 192) dX9_wantRule_261 rfl (by decide) (by repeat' (first | with_reducible rfl | apply ni_add | apply ni_mul)) (by omega) ?_
      rw [hW_r, hW_80]
      refine gd_ald0 dX9_wantRule_262 (by decide) ?_
      refine gd_getR (r := 80) dX9_wantRule_263 fl_9_31 rfl rfl rfl (by decide) ?_
      refine gd_ild2 dX9_wantRule_266 ?_
      refine gd_ic2 dX9_wantRule_267 ?_
      refine gd_iadd dX9_wantRule_268 ?_
      refine gd_ild5 dX9_wantRule_269 ?_
      refine gd_iast (n := 192) dX9_wantRule_271 rfl (by decide) (by repeat' (first | with_reducible rfl | apply ni_add | apply ni_mul)) (by omega) ?_
      rw [hW_r, hW_80]
      refine gd_ald0 dX9_wantRule_272 (by decide) ?_
      refine gd_getR (r := 80) dX9_wantRule_273 fl_9_31 rfl rfl rfl (by decide) ?_
      refine gd_ild2 dX9_wantRule_276 ?_
      refine gd_ic3 dX9_wantRule_277 ?_
      refine gd_iadd dX9_wantRule_278 ?_
      refine gd_ild6 dX9_wantRule_279 ?_
      refine gd_iast (n := 192) dX9_wantRule_281 rfl (by decide) (by repeat' (first | with_reducible rfl | apply ni_add | apply ni_mul)) (by omega) ?_
      rw [hW_r, hW_80]
      refine gd_vret dX9_wantRule_282 rfl ?_
      rfl
    · exact up4_fr _ _ _ _ _ _
    · exact up4_0 _ _ _ _ _ _
    · exact up4_1 _ _ _ _ _ _
    · exact up4_2 _ _ _ _ _ _
    · exact up4_3 _ _ _ _ _ _
set_option maxHeartbeats 1000000 in
theorem ru_W5 {b : Nat → Nat} {N e : Nat} (hN : N ≤ 120) (he : e ≤ N) (nw : isNm b N e ch0 4) (a1 : nOk b N (tkX b N e) 0 15) (a2 : isNm b N (tkX b N (tkX b N e)) ch1 2) (a3 : nOk b N (tkX b N (tkX b N (tkX b N e))) 0 11) (a4 : sgn b N (tkX b N (tkX b N (tkX b N (tkX b N e)))) 45) (a5 : ¬ nOk b N (tkX b N (tkX b N (tkX b N (tkX b N (tkX b N e))))) (tkV b N (tkX b N (tkX b N (tkX b N e)))) 11) : RuF b N e (tkX b N (tkX b N (tkX b N (tkX b N (tkX b N e))))) := by
  refine ⟨(tkX_ok hN (tkX_ok hN (tkX_ok hN (tkX_ok hN (tkX_ok hN he).2.1).2.1).2.1).2.1).2.1, fun h K L G r t hr => ?_, fun h R x k t hx hx8 hk => ?_⟩
  · apply Exists.intro
    apply Exists.intro
    apply Exists.intro
    refine ⟨?_, ?_, ?_, ?_⟩
    · refine gd_ald0 dX5_readRule_0 (by decide) ?_
      refine gd_ldcS (j := 0) (by decide) rfl rfl dX5_readRule_1 ?_
      refine gd_cV1i dX5_readRule_3 ct_5_53 rc_51 ⟨Nat.le_of_ble_eq_true rfl, Nat.le_of_ble_eq_true rfl⟩ (Nat.le_of_ble_eq_true rfl) (Nat.le_of_ble_eq_true rfl) (cR_nm0_t t he nw) ?_
      refine gd_if_eq_f 44 dX5_readRule_6 (by decide) (by decide) ?_
      refine gd_ald0 dX5_readRule_9 (by decide) ?_
      refine gd_ild1 dX5_readRule_10 ?_
      refine gd_bipush (v := nI 8) dX5_readRule_11 (by decide) ?_
      refine gd_bipush (v := nI 15) dX5_readRule_13 (by decide) ?_
      refine gd_cV3i dX5_readRule_15 ct_5_57 rc_51 ⟨Nat.le_of_ble_eq_true rfl, Nat.le_of_ble_eq_true rfl⟩ (Nat.le_of_ble_eq_true rfl) (Nat.le_of_ble_eq_true rfl) (cR_abt_t t (tX_le t he) hr (by decide) a1) ?_
      refine gd_if_eq_f 42 dX5_readRule_18 (by decide) (by decide) ?_
      refine gd_ald0 dX5_readRule_21 (by decide) ?_
      refine gd_ldcS (j := 1) (by decide) rfl rfl dX5_readRule_22 ?_
      refine gd_cV1i dX5_readRule_24 ct_5_53 rc_51 ⟨Nat.le_of_ble_eq_true rfl, Nat.le_of_ble_eq_true rfl⟩ (Nat.le_of_ble_eq_true rfl) (Nat.le_of_ble_eq_true rfl) (cR_nm1_t t (tX_le t (tX_le t he)) a2) ?_
      refine gd_if_eq_f 42 dX5_readRule_27 (by decide) (by decide) ?_
      refine gd_ald0 dX5_readRule_30 (by decide) ?_
      refine gd_ild1 dX5_readRule_31 ?_
      refine gd_cV1i dX5_readRule_32 ct_5_63 rc_51 ⟨Nat.le_of_ble_eq_true rfl, Nat.le_of_ble_eq_true rfl⟩ (Nat.le_of_ble_eq_true rfl) (Nat.le_of_ble_eq_true rfl) (cR_stp3 t (tX_le t (tX_le t (tX_le t he))) hr a3 a4 a5) ?_
      refine gd_if_eq_t 42 dX5_readRule_35 (by decide) (by decide) ?_
      refine gd_ic0 dX5_readRule_42 ?_
      refine gd_iret dX5_readRule_43 rfl (by first | rfl | decide | exact nar_bi _ | assumption) ?_
      rfl
    · intro j hj; first | rfl | simp only [upd_at, if_neg hj]
    · intro j hj; first | rfl | simp only [upd_at, if_neg hj]
    · intro j hj; first | rfl | simp only [upd_at, if_neg hj]
  · apply Exists.intro
    refine ⟨?_, ?_⟩
    · refine gd_ic4 dX9_wantRule_0 ?_
      refine gd_bipush (v := nI 6) dX9_wantRule_1 (by decide) ?_
      refine gd_ald0 dX9_wantRule_3 (by decide) ?_
      refine gd_getR (r := 74) dX9_wantRule_4 fl_9_13 rfl rfl rfl (by decide) ?_
      refine gd_ic2 dX9_wantRule_7 ?_
      refine gd_iald (n := 5) dX9_wantRule_8 rfl (by decide) (by repeat' (first | with_reducible rfl | apply ni_add | apply ni_mul)) (by omega) ?_
      rw [show (hW h b N e (-1) R).1 74 2 = nI x from hx]
      refine gd_imul dX9_wantRule_9 ?_
      refine gd_ild1 dX9_wantRule_10 ?_
      refine gd_iadd dX9_wantRule_11 ?_
      refine gd_imul dX9_wantRule_12 ?_
      rw [pk_mul, nI_add, pk_mul]
      refine gd_ist2 dX9_wantRule_13 rfl ?_
      refine gd_ald0 dX9_wantRule_14 (by decide) ?_
      refine gd_ldc2 dX9_wantRule_15 l2_9_185 ?_
      refine gd_cV1i dX9_wantRule_18 ct_9_187 rc_72 ⟨Nat.le_of_ble_eq_true rfl, Nat.le_of_ble_eq_true rfl⟩ (Nat.le_of_ble_eq_true rfl) (Nat.le_of_ble_eq_true rfl) (mW_nm0_t t he nw) ?_
      refine gd_if_eq_f 28 dX9_wantRule_21 (by decide) (by decide) ?_
      refine gd_ic0 dX9_wantRule_24 ?_
      refine gd_goto 71 dX9_wantRule_25 (by decide) ?_
      refine gd_ist3 dX9_wantRule_71 rfl ?_
      refine gd_ald0 dX9_wantRule_72 (by decide) ?_
      refine gd_ild3 dX9_wantRule_73 ?_
      refine gd_if_lt_f 87 dX9_wantRule_74 (by decide) (by decide) ?_
      refine gd_ild1 dX9_wantRule_77 ?_
      refine gd_bipush (v := nI 6) dX9_wantRule_78 (by decide) ?_
      refine gd_icmp_ge_f 87 dX9_wantRule_80 (by decide) (by exact nI_ge (by omega) (by omega)) ?_
      refine gd_ic1 dX9_wantRule_83 ?_
      refine gd_goto 88 dX9_wantRule_84 (by decide) ?_
      refine gd_cV1v dX9_wantRule_88 ct_9_181 rc_72 ⟨Nat.le_of_ble_eq_true rfl, Nat.le_of_ble_eq_true rfl⟩ (Nat.le_of_ble_eq_true rfl) (Nat.le_of_ble_eq_true rfl) (mW_want_n t he) ?_
      refine gd_ald0 dX9_wantRule_91 (by decide) ?_
      refine gd_getI dX9_wantRule_92 fl_9_175 rfl rfl ?_
      rw [hW_19]
      refine gd_if_lt_t 99 dX9_wantRule_95 (by decide) (by decide) ?_
      refine gd_ild3 dX9_wantRule_99 ?_
      refine gd_ic2 dX9_wantRule_100 ?_
      refine gd_icmp_ne_t 108 dX9_wantRule_101 (by decide) (by decide) ?_
      refine gd_ald0 dX9_wantRule_108 (by decide) ?_
      refine gd_ic0 dX9_wantRule_109 ?_
      refine gd_ild3 dX9_wantRule_110 ?_
      refine gd_if_ne_f 119 dX9_wantRule_111 (by decide) (by decide) ?_
      refine gd_bipush (v := nI 15) dX9_wantRule_114 (by decide) ?_
      refine gd_goto 129 dX9_wantRule_116 (by decide) ?_
      refine gd_cV2i dX9_wantRule_129 ct_9_197 rc_72 ⟨Nat.le_of_ble_eq_true rfl, Nat.le_of_ble_eq_true rfl⟩ (Nat.le_of_ble_eq_true rfl) (Nat.le_of_ble_eq_true rfl) (mW_num_t t (mX_le t he) (by decide) a1) ?_
      refine gd_ist4 dX9_wantRule_132 rfl ?_
      refine gd_ild3 dX9_wantRule_134 ?_
      refine gd_ic2 dX9_wantRule_135 ?_
      refine gd_icmp_eq_f 160 dX9_wantRule_136 (by decide) (by decide) ?_
      refine gd_ald0 dX9_wantRule_139 (by decide) ?_
      refine gd_ald0 dX9_wantRule_140 (by decide) ?_
      refine gd_ild3 dX9_wantRule_141 ?_
      refine gd_if_ne_f 151 dX9_wantRule_142 (by decide) (by decide) ?_
      refine gd_ldc2 dX9_wantRule_145 l2_9_200 ?_
      refine gd_goto 154 dX9_wantRule_148 (by decide) ?_
      refine gd_cV1i dX9_wantRule_154 ct_9_187 rc_72 ⟨Nat.le_of_ble_eq_true rfl, Nat.le_of_ble_eq_true rfl⟩ (Nat.le_of_ble_eq_true rfl) (Nat.le_of_ble_eq_true rfl) (mW_nm1_t t (mX_le t (mX_le t he)) a2) ?_
      refine gd_cV1v dX9_wantRule_157 ct_9_181 rc_72 ⟨Nat.le_of_ble_eq_true rfl, Nat.le_of_ble_eq_true rfl⟩ (Nat.le_of_ble_eq_true rfl) (Nat.le_of_ble_eq_true rfl) (mW_want_n t (mX_le t (mX_le t he))) ?_
      refine gd_ald0 dX9_wantRule_160 (by decide) ?_
      refine gd_ild3 dX9_wantRule_161 ?_
      refine gd_ic2 dX9_wantRule_162 ?_
      refine gd_icmp_ne_t 170 dX9_wantRule_163 (by decide) (by decide) ?_
      refine gd_ic0 dX9_wantRule_170 ?_
      refine gd_ild3 dX9_wantRule_171 ?_
      refine gd_if_ne_f 180 dX9_wantRule_172 (by decide) (by decide) ?_
      refine gd_bipush (v := nI 11) dX9_wantRule_175 (by decide) ?_
      refine gd_goto 202 dX9_wantRule_177 (by decide) ?_
      refine gd_cV2i dX9_wantRule_202 ct_9_197 rc_72 ⟨Nat.le_of_ble_eq_true rfl, Nat.le_of_ble_eq_true rfl⟩ (Nat.le_of_ble_eq_true rfl) (Nat.le_of_ble_eq_true rfl) (mW_num_t t (mX_le t (mX_le t (mX_le t he))) (by decide) a3) ?_
      refine gd_ist5 dX9_wantRule_205 rfl ?_
      refine gd_ild5 dX9_wantRule_207 ?_
      refine gd_ist6 dX9_wantRule_209 rfl ?_
      refine gd_ild3 dX9_wantRule_211 ?_
      refine gd_if_ne_f 245 dX9_wantRule_212 (by decide) (by decide) ?_
      refine gd_ald0 dX9_wantRule_215 (by decide) ?_
      refine gd_getI dX9_wantRule_216 fl_9_175 rfl rfl ?_
      rw [hW_19]
      refine gd_if_ge_f 245 dX9_wantRule_219 (by decide) (by decide) ?_
      refine gd_ald0 dX9_wantRule_222 (by decide) ?_
      refine gd_bipush (v := nI 45) dX9_wantRule_223 (by decide) ?_
      refine gd_cV1i dX9_wantRule_225 ct_9_204 rc_72 ⟨Nat.le_of_ble_eq_true rfl, Nat.le_of_ble_eq_true rfl⟩ (Nat.le_of_ble_eq_true rfl) (Nat.le_of_ble_eq_true rfl) (mW_sgn_t t (mX_le t (mX_le t (mX_le t (mX_le t he)))) (Or.inr rfl) a4) ?_
      refine gd_if_eq_f 245 dX9_wantRule_228 (by decide) (by decide) ?_
      refine gd_ald0 dX9_wantRule_231 (by decide) ?_
      refine gd_cV0v dX9_wantRule_232 ct_9_178 rc_72 ⟨Nat.le_of_ble_eq_true rfl, Nat.le_of_ble_eq_true rfl⟩ (Nat.le_of_ble_eq_true rfl) (Nat.le_of_ble_eq_true rfl) (mW_nx t (mX_le t (mX_le t (mX_le t (mX_le t he))))) ?_
      refine gd_ald0 dX9_wantRule_235 (by decide) ?_
      refine gd_ild5 dX9_wantRule_236 ?_
      refine gd_bipush (v := nI 11) dX9_wantRule_238 (by decide) ?_
      refine gd_cV2i dX9_wantRule_240 ct_9_197 rc_72 ⟨Nat.le_of_ble_eq_true rfl, Nat.le_of_ble_eq_true rfl⟩ (Nat.le_of_ble_eq_true rfl) (Nat.le_of_ble_eq_true rfl) (mW_num_f t (mX_le t (mX_le t (mX_le t (mX_le t (mX_le t he))))) (by have := a3.2.2; omega) (by decide) a5) ?_
      refine gd_ist6 dX9_wantRule_243 rfl ?_
      refine gd_ald0 dX9_wantRule_245 (by decide) ?_
      refine gd_getR (r := 80) dX9_wantRule_246 fl_9_31 rfl rfl rfl (by decide) ?_
      refine gd_ild2 dX9_wantRule_249 ?_
      refine gd_ild3 dX9_wantRule_250 ?_
      refine gd_iast (n := 192) dX9_wantRule_251 rfl (by decide) (by repeat' (first | with_reducible rfl | apply ni_add | apply ni_mul)) (by omega) ?_
      rw [hW_r, hW_80]
      refine gd_ald0 dX9_wantRule_252 (by decide) ?_
      refine gd_getR (r := 80) dX9_wantRule_253 fl_9_31 rfl rfl rfl (by decide) ?_
      refine gd_ild2 dX9_wantRule_256 ?_
      refine gd_ic1 dX9_wantRule_257 ?_
      refine gd_iadd dX9_wantRule_258 ?_
      refine gd_ild4 dX9_wantRule_259 ?_
      refine gd_iast (n := 192) dX9_wantRule_261 rfl (by decide) (by repeat' (first | with_reducible rfl | apply ni_add | apply ni_mul)) (by omega) ?_
      rw [hW_r, hW_80]
      refine gd_ald0 dX9_wantRule_262 (by decide) ?_
      refine gd_getR (r := 80) dX9_wantRule_263 fl_9_31 rfl rfl rfl (by decide) ?_
      refine gd_ild2 dX9_wantRule_266 ?_
      refine gd_ic2 dX9_wantRule_267 ?_
      refine gd_iadd dX9_wantRule_268 ?_
      refine gd_ild5 dX9_wantRule_269 ?_
      refine gd_iast (n := 192) dX9_wantRule_271 rfl (by decide) (by repeat' (first | with_reducible rfl | apply ni_add | apply ni_mul)) (by omega) ?_
      rw [hW_r, hW_80]
      refine gd_ald0 dX9_wantRule_272 (by decide) ?_
      refine gd_getR (r := 80) dX9_wantRule_273 fl_9_31 rfl rfl rfl (by decide) ?_
      refine gd_ild2 dX9_wantRule_276 ?_
      refine gd_ic3 dX9_wantRule_277 ?_
      refine gd_iadd dX9_wantRule_278 ?_
      refine gd_ild6 dX9_wantRule_279 ?_
      refine gd_iast (n := 192) dX9_wantRule_281 rfl (by decide) (by repeat' (first | with_reducible rfl | apply ni_add | apply ni_mul)) (by omega) ?_
      rw [hW_r, hW_80]
      refine gd_vret dX9_wantRule_282 rfl ?_
      rfl
    · exact up4_fr _ _ _ _ _ _
set_option maxHeartbeats 1000000 in
theorem ru_Wok {b : Nat → Nat} {N e : Nat} (hN : N ≤ 120) (he : e ≤ N) (nw : isNm b N e ch0 4) (a1 : nOk b N (tkX b N e) 0 15) (a2 : isNm b N (tkX b N (tkX b N e)) ch1 2) (a3 : nOk b N (tkX b N (tkX b N (tkX b N e))) 0 11) (a4 : sgn b N (tkX b N (tkX b N (tkX b N (tkX b N e)))) 45) (a5 : nOk b N (tkX b N (tkX b N (tkX b N (tkX b N (tkX b N e))))) (tkV b N (tkX b N (tkX b N (tkX b N e)))) 11) : RuO b N e 0 (tkV b N (tkX b N e)) (tkV b N (tkX b N (tkX b N (tkX b N e)))) (tkV b N (tkX b N (tkX b N (tkX b N (tkX b N (tkX b N e)))))) (tkX b N (tkX b N (tkX b N (tkX b N (tkX b N (tkX b N e)))))) := by
  refine ⟨(tkX_ok hN (tkX_ok hN (tkX_ok hN (tkX_ok hN (tkX_ok hN (tkX_ok hN he).2.1).2.1).2.1).2.1).2.1).2.1, ⟨0, (tkV b N (tkX b N e)), (tkV b N (tkX b N (tkX b N (tkX b N e)))), (tkV b N (tkX b N (tkX b N (tkX b N (tkX b N (tkX b N e)))))), rfl, rfl, rfl, rfl, a5.2.1, Or.inl ⟨rfl, Nat.lt_succ_of_le a1.2.2, a5.2.2⟩⟩, fun h K L G r t hr => ?_, fun h R x k t hx hx8 hk => ?_⟩
  · apply Exists.intro
    apply Exists.intro
    apply Exists.intro
    refine ⟨?_, ⟨?_, ?_, ?_⟩, ?_, ?_, ?_⟩
    · refine gd_ald0 dX5_readRule_0 (by decide) ?_
      refine gd_ldcS (j := 0) (by decide) rfl rfl dX5_readRule_1 ?_
      refine gd_cV1i dX5_readRule_3 ct_5_53 rc_51 ⟨Nat.le_of_ble_eq_true rfl, Nat.le_of_ble_eq_true rfl⟩ (Nat.le_of_ble_eq_true rfl) (Nat.le_of_ble_eq_true rfl) (cR_nm0_t t he nw) ?_
      refine gd_if_eq_f 44 dX5_readRule_6 (by decide) (by decide) ?_
      refine gd_ald0 dX5_readRule_9 (by decide) ?_
      refine gd_ild1 dX5_readRule_10 ?_
      refine gd_bipush (v := nI 8) dX5_readRule_11 (by decide) ?_
      refine gd_bipush (v := nI 15) dX5_readRule_13 (by decide) ?_
      refine gd_cV3i dX5_readRule_15 ct_5_57 rc_51 ⟨Nat.le_of_ble_eq_true rfl, Nat.le_of_ble_eq_true rfl⟩ (Nat.le_of_ble_eq_true rfl) (Nat.le_of_ble_eq_true rfl) (cR_abt_t t (tX_le t he) hr (by decide) a1) ?_
      refine gd_if_eq_f 42 dX5_readRule_18 (by decide) (by decide) ?_
      refine gd_ald0 dX5_readRule_21 (by decide) ?_
      refine gd_ldcS (j := 1) (by decide) rfl rfl dX5_readRule_22 ?_
      refine gd_cV1i dX5_readRule_24 ct_5_53 rc_51 ⟨Nat.le_of_ble_eq_true rfl, Nat.le_of_ble_eq_true rfl⟩ (Nat.le_of_ble_eq_true rfl) (Nat.le_of_ble_eq_true rfl) (cR_nm1_t t (tX_le t (tX_le t he)) a2) ?_
      refine gd_if_eq_f 42 dX5_readRule_27 (by decide) (by decide) ?_
      refine gd_ald0 dX5_readRule_30 (by decide) ?_
      refine gd_ild1 dX5_readRule_31 ?_
      refine gd_cV1i dX5_readRule_32 ct_5_63 rc_51 ⟨Nat.le_of_ble_eq_true rfl, Nat.le_of_ble_eq_true rfl⟩ (Nat.le_of_ble_eq_true rfl) (Nat.le_of_ble_eq_true rfl) (cR_stp4 t (tX_le t (tX_le t (tX_le t he))) hr a3 a4 a5) ?_
      refine gd_if_eq_f 42 dX5_readRule_35 (by decide) (by decide) ?_
      refine gd_ic1 dX5_readRule_38 ?_
      refine gd_goto 43 dX5_readRule_39 (by decide) ?_
      refine gd_iret dX5_readRule_43 rfl (by first | rfl | decide | exact nar_bi _ | assumption) ?_
      rfl
    · intro j hj; first | rfl | simp only [upd_at, if_neg hj]
    · intro j hj; first | rfl | simp only [upd_at, if_neg hj]
    · intro j hj; first | rfl | simp only [upd_at, if_neg hj]
    · rw [upd_at, if_pos rfl]; unfold keyI; rw [if_pos rfl, nI_add]
    · rw [upd_at, if_pos rfl]
    · rw [upd_at, if_pos rfl]
  · apply Exists.intro
    refine ⟨?_, ?_, ?_, ?_, ?_, ?_⟩
    · refine gd_ic4 dX9_wantRule_0 ?_
      refine gd_bipush (v := nI 6) dX9_wantRule_1 (by decide) ?_
      refine gd_ald0 dX9_wantRule_3 (by decide) ?_
      refine gd_getR (r := 74) dX9_wantRule_4 fl_9_13 rfl rfl rfl (by decide) ?_
      refine gd_ic2 dX9_wantRule_7 ?_
      refine gd_iald (n := 5) dX9_wantRule_8 rfl (by decide) (by repeat' (first | with_reducible rfl | apply ni_add | apply ni_mul)) (by omega) ?_
      rw [show (hW h b N e (-1) R).1 74 2 = nI x from hx]
      refine gd_imul dX9_wantRule_9 ?_
      refine gd_ild1 dX9_wantRule_10 ?_
      refine gd_iadd dX9_wantRule_11 ?_
      refine gd_imul dX9_wantRule_12 ?_
      rw [pk_mul, nI_add, pk_mul]
      refine gd_ist2 dX9_wantRule_13 rfl ?_
      refine gd_ald0 dX9_wantRule_14 (by decide) ?_
      refine gd_ldc2 dX9_wantRule_15 l2_9_185 ?_
      refine gd_cV1i dX9_wantRule_18 ct_9_187 rc_72 ⟨Nat.le_of_ble_eq_true rfl, Nat.le_of_ble_eq_true rfl⟩ (Nat.le_of_ble_eq_true rfl) (Nat.le_of_ble_eq_true rfl) (mW_nm0_t t he nw) ?_
      refine gd_if_eq_f 28 dX9_wantRule_21 (by decide) (by decide) ?_
      refine gd_ic0 dX9_wantRule_24 ?_
      refine gd_goto 71 dX9_wantRule_25 (by decide) ?_
      refine gd_ist3 dX9_wantRule_71 rfl ?_
      refine gd_ald0 dX9_wantRule_72 (by decide) ?_
      refine gd_ild3 dX9_wantRule_73 ?_
      refine gd_if_lt_f 87 dX9_wantRule_74 (by decide) (by decide) ?_
      refine gd_ild1 dX9_wantRule_77 ?_
      refine gd_bipush (v := nI 6) dX9_wantRule_78 (by decide) ?_
      refine gd_icmp_ge_f 87 dX9_wantRule_80 (by decide) (by exact nI_ge (by omega) (by omega)) ?_
      refine gd_ic1 dX9_wantRule_83 ?_
      refine gd_goto 88 dX9_wantRule_84 (by decide) ?_
      refine gd_cV1v dX9_wantRule_88 ct_9_181 rc_72 ⟨Nat.le_of_ble_eq_true rfl, Nat.le_of_ble_eq_true rfl⟩ (Nat.le_of_ble_eq_true rfl) (Nat.le_of_ble_eq_true rfl) (mW_want_n t he) ?_
      refine gd_ald0 dX9_wantRule_91 (by decide) ?_
      refine gd_getI dX9_wantRule_92 fl_9_175 rfl rfl ?_
      rw [hW_19]
      refine gd_if_lt_t 99 dX9_wantRule_95 (by decide) (by decide) ?_
      refine gd_ild3 dX9_wantRule_99 ?_
      refine gd_ic2 dX9_wantRule_100 ?_
      refine gd_icmp_ne_t 108 dX9_wantRule_101 (by decide) (by decide) ?_
      refine gd_ald0 dX9_wantRule_108 (by decide) ?_
      refine gd_ic0 dX9_wantRule_109 ?_
      refine gd_ild3 dX9_wantRule_110 ?_
      refine gd_if_ne_f 119 dX9_wantRule_111 (by decide) (by decide) ?_
      refine gd_bipush (v := nI 15) dX9_wantRule_114 (by decide) ?_
      refine gd_goto 129 dX9_wantRule_116 (by decide) ?_
      refine gd_cV2i dX9_wantRule_129 ct_9_197 rc_72 ⟨Nat.le_of_ble_eq_true rfl, Nat.le_of_ble_eq_true rfl⟩ (Nat.le_of_ble_eq_true rfl) (Nat.le_of_ble_eq_true rfl) (mW_num_t t (mX_le t he) (by decide) a1) ?_
      refine gd_ist4 dX9_wantRule_132 rfl ?_
      refine gd_ild3 dX9_wantRule_134 ?_
      refine gd_ic2 dX9_wantRule_135 ?_
      refine gd_icmp_eq_f 160 dX9_wantRule_136 (by decide) (by decide) ?_
      refine gd_ald0 dX9_wantRule_139 (by decide) ?_
      refine gd_ald0 dX9_wantRule_140 (by decide) ?_
      refine gd_ild3 dX9_wantRule_141 ?_
      refine gd_if_ne_f 151 dX9_wantRule_142 (by decide) (by decide) ?_
      refine gd_ldc2 dX9_wantRule_145 l2_9_200 ?_
      refine gd_goto 154 dX9_wantRule_148 (by decide) ?_
      refine gd_cV1i dX9_wantRule_154 ct_9_187 rc_72 ⟨Nat.le_of_ble_eq_true rfl, Nat.le_of_ble_eq_true rfl⟩ (Nat.le_of_ble_eq_true rfl) (Nat.le_of_ble_eq_true rfl) (mW_nm1_t t (mX_le t (mX_le t he)) a2) ?_
      refine gd_cV1v dX9_wantRule_157 ct_9_181 rc_72 ⟨Nat.le_of_ble_eq_true rfl, Nat.le_of_ble_eq_true rfl⟩ (Nat.le_of_ble_eq_true rfl) (Nat.le_of_ble_eq_true rfl) (mW_want_n t (mX_le t (mX_le t he))) ?_
      refine gd_ald0 dX9_wantRule_160 (by decide) ?_
      refine gd_ild3 dX9_wantRule_161 ?_
      refine gd_ic2 dX9_wantRule_162 ?_
      refine gd_icmp_ne_t 170 dX9_wantRule_163 (by decide) (by decide) ?_
      refine gd_ic0 dX9_wantRule_170 ?_
      refine gd_ild3 dX9_wantRule_171 ?_
      refine gd_if_ne_f 180 dX9_wantRule_172 (by decide) (by decide) ?_
      refine gd_bipush (v := nI 11) dX9_wantRule_175 (by decide) ?_
      refine gd_goto 202 dX9_wantRule_177 (by decide) ?_
      refine gd_cV2i dX9_wantRule_202 ct_9_197 rc_72 ⟨Nat.le_of_ble_eq_true rfl, Nat.le_of_ble_eq_true rfl⟩ (Nat.le_of_ble_eq_true rfl) (Nat.le_of_ble_eq_true rfl) (mW_num_t t (mX_le t (mX_le t (mX_le t he))) (by decide) a3) ?_
      refine gd_ist5 dX9_wantRule_205 rfl ?_
      refine gd_ild5 dX9_wantRule_207 ?_
      refine gd_ist6 dX9_wantRule_209 rfl ?_
      refine gd_ild3 dX9_wantRule_211 ?_
      refine gd_if_ne_f 245 dX9_wantRule_212 (by decide) (by decide) ?_
      refine gd_ald0 dX9_wantRule_215 (by decide) ?_
      refine gd_getI dX9_wantRule_216 fl_9_175 rfl rfl ?_
      rw [hW_19]
      refine gd_if_ge_f 245 dX9_wantRule_219 (by decide) (by decide) ?_
      refine gd_ald0 dX9_wantRule_222 (by decide) ?_
      refine gd_bipush (v := nI 45) dX9_wantRule_223 (by decide) ?_
      refine gd_cV1i dX9_wantRule_225 ct_9_204 rc_72 ⟨Nat.le_of_ble_eq_true rfl, Nat.le_of_ble_eq_true rfl⟩ (Nat.le_of_ble_eq_true rfl) (Nat.le_of_ble_eq_true rfl) (mW_sgn_t t (mX_le t (mX_le t (mX_le t (mX_le t he)))) (Or.inr rfl) a4) ?_
      refine gd_if_eq_f 245 dX9_wantRule_228 (by decide) (by decide) ?_
      refine gd_ald0 dX9_wantRule_231 (by decide) ?_
      refine gd_cV0v dX9_wantRule_232 ct_9_178 rc_72 ⟨Nat.le_of_ble_eq_true rfl, Nat.le_of_ble_eq_true rfl⟩ (Nat.le_of_ble_eq_true rfl) (Nat.le_of_ble_eq_true rfl) (mW_nx t (mX_le t (mX_le t (mX_le t (mX_le t he))))) ?_
      refine gd_ald0 dX9_wantRule_235 (by decide) ?_
      refine gd_ild5 dX9_wantRule_236 ?_
      refine gd_bipush (v := nI 11) dX9_wantRule_238 (by decide) ?_
      refine gd_cV2i dX9_wantRule_240 ct_9_197 rc_72 ⟨Nat.le_of_ble_eq_true rfl, Nat.le_of_ble_eq_true rfl⟩ (Nat.le_of_ble_eq_true rfl) (Nat.le_of_ble_eq_true rfl) (mW_num_t t (mX_le t (mX_le t (mX_le t (mX_le t (mX_le t he))))) (by decide) a5) ?_
      refine gd_ist6 dX9_wantRule_243 rfl ?_
      refine gd_ald0 dX9_wantRule_245 (by decide) ?_
      refine gd_getR (r := 80) dX9_wantRule_246 fl_9_31 rfl rfl rfl (by decide) ?_
      refine gd_ild2 dX9_wantRule_249 ?_
      refine gd_ild3 dX9_wantRule_250 ?_
      refine gd_iast (n := 192) dX9_wantRule_251 rfl (by decide) (by repeat' (first | with_reducible rfl | apply ni_add | apply ni_mul)) (by omega) ?_
      rw [hW_r, hW_80]
      refine gd_ald0 dX9_wantRule_252 (by decide) ?_
      refine gd_getR (r := 80) dX9_wantRule_253 fl_9_31 rfl rfl rfl (by decide) ?_
      refine gd_ild2 dX9_wantRule_256 ?_
      refine gd_ic1 dX9_wantRule_257 ?_
      refine gd_iadd dX9_wantRule_258 ?_
      refine gd_ild4 dX9_wantRule_259 ?_
      refine gd_iast (n := 192) dX9_wantRule_261 rfl (by decide) (by repeat' (first | with_reducible rfl | apply ni_add | apply ni_mul)) (by omega) ?_
      rw [hW_r, hW_80]
      refine gd_ald0 dX9_wantRule_262 (by decide) ?_
      refine gd_getR (r := 80) dX9_wantRule_263 fl_9_31 rfl rfl rfl (by decide) ?_
      refine gd_ild2 dX9_wantRule_266 ?_
      refine gd_ic2 dX9_wantRule_267 ?_
      refine gd_iadd dX9_wantRule_268 ?_
      refine gd_ild5 dX9_wantRule_269 ?_
      refine gd_iast (n := 192) dX9_wantRule_271 rfl (by decide) (by repeat' (first | with_reducible rfl | apply ni_add | apply ni_mul)) (by omega) ?_
      rw [hW_r, hW_80]
      refine gd_ald0 dX9_wantRule_272 (by decide) ?_
      refine gd_getR (r := 80) dX9_wantRule_273 fl_9_31 rfl rfl rfl (by decide) ?_
      refine gd_ild2 dX9_wantRule_276 ?_
      refine gd_ic3 dX9_wantRule_277 ?_
      refine gd_iadd dX9_wantRule_278 ?_
      refine gd_ild6 dX9_wantRule_279 ?_
      refine gd_iast (n := 192) dX9_wantRule_281 rfl (by decide) (by repeat' (first | with_reducible rfl | apply ni_add | apply ni_mul)) (by omega) ?_
      rw [hW_r, hW_80]
      refine gd_vret dX9_wantRule_282 rfl ?_
      rfl
    · exact up4_fr _ _ _ _ _ _
    · exact up4_0 _ _ _ _ _ _
    · exact up4_1 _ _ _ _ _ _
    · exact up4_2 _ _ _ _ _ _
    · exact up4_3 _ _ _ _ _ _
set_option maxHeartbeats 1000000 in
theorem ru_R1 {b : Nat → Nat} {N e : Nat} (hN : N ≤ 120) (he : e ≤ N) (nw : ¬ isNm b N e ch0 4) (nr : isNm b N e ch2 6) (a1 : ¬ nOk b N (tkX b N e) 0 3) : RuF b N e (tkX b N e) := by
  refine ⟨(tkX_ok hN he).2.1, fun h K L G r t hr => ?_, fun h R x k t hx hx8 hk => ?_⟩
  · apply Exists.intro
    apply Exists.intro
    apply Exists.intro
    refine ⟨?_, ?_, ?_, ?_⟩
    · refine gd_ald0 dX5_readRule_0 (by decide) ?_
      refine gd_ldcS (j := 0) (by decide) rfl rfl dX5_readRule_1 ?_
      refine gd_cV1i dX5_readRule_3 ct_5_53 rc_51 ⟨Nat.le_of_ble_eq_true rfl, Nat.le_of_ble_eq_true rfl⟩ (Nat.le_of_ble_eq_true rfl) (Nat.le_of_ble_eq_true rfl) (cR_nm0_f t he nw) ?_
      refine gd_if_eq_t 44 dX5_readRule_6 (by decide) (by decide) ?_
      refine gd_ald0 dX5_readRule_44 (by decide) ?_
      refine gd_ldcS (j := 2) (by decide) rfl rfl dX5_readRule_45 ?_
      refine gd_cV1i dX5_readRule_47 ct_5_53 rc_51 ⟨Nat.le_of_ble_eq_true rfl, Nat.le_of_ble_eq_true rfl⟩ (Nat.le_of_ble_eq_true rfl) (Nat.le_of_ble_eq_true rfl) (cR_nm2_t t he nr) ?_
      refine gd_if_eq_f 89 dX5_readRule_50 (by decide) (by decide) ?_
      refine gd_ald0 dX5_readRule_53 (by decide) ?_
      refine gd_ild1 dX5_readRule_54 ?_
      refine gd_ic0 dX5_readRule_55 ?_
      refine gd_ic3 dX5_readRule_56 ?_
      refine gd_cV3i dX5_readRule_57 ct_5_57 rc_51 ⟨Nat.le_of_ble_eq_true rfl, Nat.le_of_ble_eq_true rfl⟩ (Nat.le_of_ble_eq_true rfl) (Nat.le_of_ble_eq_true rfl) (cR_abt_f t (tX_le t he) hr (by decide) a1) ?_
      refine gd_if_eq_t 87 dX5_readRule_60 (by decide) (by decide) ?_
      refine gd_ic0 dX5_readRule_87 ?_
      refine gd_iret dX5_readRule_88 rfl (by first | rfl | decide | exact nar_bi _ | assumption) ?_
      rfl
    · intro j hj; first | rfl | simp only [upd_at, if_neg hj]
    · intro j hj; first | rfl | simp only [upd_at, if_neg hj]
    · intro j hj; first | rfl | simp only [upd_at, if_neg hj]
  · apply Exists.intro
    refine ⟨?_, ?_⟩
    · refine gd_ic4 dX9_wantRule_0 ?_
      refine gd_bipush (v := nI 6) dX9_wantRule_1 (by decide) ?_
      refine gd_ald0 dX9_wantRule_3 (by decide) ?_
      refine gd_getR (r := 74) dX9_wantRule_4 fl_9_13 rfl rfl rfl (by decide) ?_
      refine gd_ic2 dX9_wantRule_7 ?_
      refine gd_iald (n := 5) dX9_wantRule_8 rfl (by decide) (by repeat' (first | with_reducible rfl | apply ni_add | apply ni_mul)) (by omega) ?_
      rw [show (hW h b N e (-1) R).1 74 2 = nI x from hx]
      refine gd_imul dX9_wantRule_9 ?_
      refine gd_ild1 dX9_wantRule_10 ?_
      refine gd_iadd dX9_wantRule_11 ?_
      refine gd_imul dX9_wantRule_12 ?_
      rw [pk_mul, nI_add, pk_mul]
      refine gd_ist2 dX9_wantRule_13 rfl ?_
      refine gd_ald0 dX9_wantRule_14 (by decide) ?_
      refine gd_ldc2 dX9_wantRule_15 l2_9_185 ?_
      refine gd_cV1i dX9_wantRule_18 ct_9_187 rc_72 ⟨Nat.le_of_ble_eq_true rfl, Nat.le_of_ble_eq_true rfl⟩ (Nat.le_of_ble_eq_true rfl) (Nat.le_of_ble_eq_true rfl) (mW_nm0_f t he nw) ?_
      refine gd_if_eq_t 28 dX9_wantRule_21 (by decide) (by decide) ?_
      refine gd_ald0 dX9_wantRule_28 (by decide) ?_
      refine gd_ldc2 dX9_wantRule_29 l2_9_191 ?_
      refine gd_cV1i dX9_wantRule_32 ct_9_187 rc_72 ⟨Nat.le_of_ble_eq_true rfl, Nat.le_of_ble_eq_true rfl⟩ (Nat.le_of_ble_eq_true rfl) (Nat.le_of_ble_eq_true rfl) (mW_nm2_t t he nr) ?_
      refine gd_if_eq_f 42 dX9_wantRule_35 (by decide) (by decide) ?_
      refine gd_ic1 dX9_wantRule_38 ?_
      refine gd_goto 71 dX9_wantRule_39 (by decide) ?_
      refine gd_ist3 dX9_wantRule_71 rfl ?_
      refine gd_ald0 dX9_wantRule_72 (by decide) ?_
      refine gd_ild3 dX9_wantRule_73 ?_
      refine gd_if_lt_f 87 dX9_wantRule_74 (by decide) (by decide) ?_
      refine gd_ild1 dX9_wantRule_77 ?_
      refine gd_bipush (v := nI 6) dX9_wantRule_78 (by decide) ?_
      refine gd_icmp_ge_f 87 dX9_wantRule_80 (by decide) (by exact nI_ge (by omega) (by omega)) ?_
      refine gd_ic1 dX9_wantRule_83 ?_
      refine gd_goto 88 dX9_wantRule_84 (by decide) ?_
      refine gd_cV1v dX9_wantRule_88 ct_9_181 rc_72 ⟨Nat.le_of_ble_eq_true rfl, Nat.le_of_ble_eq_true rfl⟩ (Nat.le_of_ble_eq_true rfl) (Nat.le_of_ble_eq_true rfl) (mW_want_n t he) ?_
      refine gd_ald0 dX9_wantRule_91 (by decide) ?_
      refine gd_getI dX9_wantRule_92 fl_9_175 rfl rfl ?_
      rw [hW_19]
      refine gd_if_lt_t 99 dX9_wantRule_95 (by decide) (by decide) ?_
      refine gd_ild3 dX9_wantRule_99 ?_
      refine gd_ic2 dX9_wantRule_100 ?_
      refine gd_icmp_ne_t 108 dX9_wantRule_101 (by decide) (by decide) ?_
      refine gd_ald0 dX9_wantRule_108 (by decide) ?_
      refine gd_ic0 dX9_wantRule_109 ?_
      refine gd_ild3 dX9_wantRule_110 ?_
      refine gd_if_ne_t 119 dX9_wantRule_111 (by decide) (by decide) ?_
      refine gd_ild3 dX9_wantRule_119 ?_
      refine gd_ic1 dX9_wantRule_120 ?_
      refine gd_icmp_ne_f 128 dX9_wantRule_121 (by decide) (by decide) ?_
      refine gd_ic3 dX9_wantRule_124 ?_
      refine gd_goto 129 dX9_wantRule_125 (by decide) ?_
      refine gd_cV2i dX9_wantRule_129 ct_9_197 rc_72 ⟨Nat.le_of_ble_eq_true rfl, Nat.le_of_ble_eq_true rfl⟩ (Nat.le_of_ble_eq_true rfl) (Nat.le_of_ble_eq_true rfl) (mW_num_f t (mX_le t he) (by decide) (by decide) a1) ?_
      refine gd_ist4 dX9_wantRule_132 rfl ?_
      refine gd_ild3 dX9_wantRule_134 ?_
      refine gd_ic2 dX9_wantRule_135 ?_
      refine gd_icmp_eq_f 160 dX9_wantRule_136 (by decide) (by decide) ?_
      refine gd_ald0 dX9_wantRule_139 (by decide) ?_
      refine gd_ald0 dX9_wantRule_140 (by decide) ?_
      refine gd_ild3 dX9_wantRule_141 ?_
      refine gd_if_ne_t 151 dX9_wantRule_142 (by decide) (by decide) ?_
      refine gd_ldc2 dX9_wantRule_151 l2_9_202 ?_
      refine gd_cV1i dX9_wantRule_154 ct_9_187 rc_72 ⟨Nat.le_of_ble_eq_true rfl, Nat.le_of_ble_eq_true rfl⟩ (Nat.le_of_ble_eq_true rfl) (Nat.le_of_ble_eq_true rfl) (m_isName (hW_mt t (mX_le t he)) _) ?_
      refine gd_cV1v dX9_wantRule_157 ct_9_181 rc_72 ⟨Nat.le_of_ble_eq_true rfl, Nat.le_of_ble_eq_true rfl⟩ (Nat.le_of_ble_eq_true rfl) (Nat.le_of_ble_eq_true rfl) (mW_want_d (mS_le t (mX_le t he)) _) ?_
      refine gd_ald0 dX9_wantRule_160 (by decide) ?_
      refine gd_ild3 dX9_wantRule_161 ?_
      refine gd_ic2 dX9_wantRule_162 ?_
      refine gd_icmp_ne_t 170 dX9_wantRule_163 (by decide) (by decide) ?_
      refine gd_ic0 dX9_wantRule_170 ?_
      refine gd_ild3 dX9_wantRule_171 ?_
      refine gd_if_ne_t 180 dX9_wantRule_172 (by decide) (by decide) ?_
      refine gd_ild3 dX9_wantRule_180 ?_
      refine gd_ic1 dX9_wantRule_181 ?_
      refine gd_icmp_ne_f 190 dX9_wantRule_182 (by decide) (by decide) ?_
      refine gd_bipush (v := nI 99) dX9_wantRule_185 (by decide) ?_
      refine gd_goto 202 dX9_wantRule_187 (by decide) ?_
      refine gd_cV2i dX9_wantRule_202 ct_9_197 rc_72 ⟨Nat.le_of_ble_eq_true rfl, Nat.le_of_ble_eq_true rfl⟩ (Nat.le_of_ble_eq_true rfl) (Nat.le_of_ble_eq_true rfl) (mW_num_d (mS_le t (mX_le t he)) _ _) ?_
      refine gd_ist5 dX9_wantRule_205 rfl ?_
      refine gd_ild5 dX9_wantRule_207 ?_
      refine gd_ist6 dX9_wantRule_209 rfl ?_
      refine gd_ild3 dX9_wantRule_211 ?_
      refine gd_if_ne_t 245 dX9_wantRule_212 (by decide) (by decide) ?_
      refine gd_ald0 dX9_wantRule_245 (by decide) ?_
      refine gd_getR (r := 80) dX9_wantRule_246 fl_9_31 rfl rfl rfl (by decide) ?_
      refine gd_ild2 dX9_wantRule_249 ?_
      refine gd_ild3 dX9_wantRule_250 ?_
      refine gd_iast (n := 192) dX9_wantRule_251 rfl (by decide) (by repeat' (first | with_reducible rfl | apply ni_add | apply ni_mul)) (by omega) ?_
      rw [hW_r, hW_80]
      refine gd_ald0 dX9_wantRule_252 (by decide) ?_
      refine gd_getR (r := 80) dX9_wantRule_253 fl_9_31 rfl rfl rfl (by decide) ?_
      refine gd_ild2 dX9_wantRule_256 ?_
      refine gd_ic1 dX9_wantRule_257 ?_
      refine gd_iadd dX9_wantRule_258 ?_
      refine gd_ild4 dX9_wantRule_259 ?_
      refine gd_iast (n := 192) dX9_wantRule_261 rfl (by decide) (by repeat' (first | with_reducible rfl | apply ni_add | apply ni_mul)) (by omega) ?_
      rw [hW_r, hW_80]
      refine gd_ald0 dX9_wantRule_262 (by decide) ?_
      refine gd_getR (r := 80) dX9_wantRule_263 fl_9_31 rfl rfl rfl (by decide) ?_
      refine gd_ild2 dX9_wantRule_266 ?_
      refine gd_ic2 dX9_wantRule_267 ?_
      refine gd_iadd dX9_wantRule_268 ?_
      refine gd_ild5 dX9_wantRule_269 ?_
      refine gd_iast (n := 192) dX9_wantRule_271 rfl (by decide) (by repeat' (first | with_reducible rfl | apply ni_add | apply ni_mul)) (by omega) ?_
      rw [hW_r, hW_80]
      refine gd_ald0 dX9_wantRule_272 (by decide) ?_
      refine gd_getR (r := 80) dX9_wantRule_273 fl_9_31 rfl rfl rfl (by decide) ?_
      refine gd_ild2 dX9_wantRule_276 ?_
      refine gd_ic3 dX9_wantRule_277 ?_
      refine gd_iadd dX9_wantRule_278 ?_
      refine gd_ild6 dX9_wantRule_279 ?_
      refine gd_iast (n := 192) dX9_wantRule_281 rfl (by decide) (by repeat' (first | with_reducible rfl | apply ni_add | apply ni_mul)) (by omega) ?_
      rw [hW_r, hW_80]
      refine gd_vret dX9_wantRule_282 rfl ?_
      rfl
    · exact up4_fr _ _ _ _ _ _
set_option maxHeartbeats 1000000 in
theorem ru_R2 {b : Nat → Nat} {N e : Nat} (hN : N ≤ 120) (he : e ≤ N) (nw : ¬ isNm b N e ch0 4) (nr : isNm b N e ch2 6) (a1 : nOk b N (tkX b N e) 0 3) (a2 : ¬ isNm b N (tkX b N (tkX b N e)) ch3 4) : RuF b N e (tkX b N (tkX b N e)) := by
  refine ⟨(tkX_ok hN (tkX_ok hN he).2.1).2.1, fun h K L G r t hr => ?_, fun h R x k t hx hx8 hk => ?_⟩
  · apply Exists.intro
    apply Exists.intro
    apply Exists.intro
    refine ⟨?_, ?_, ?_, ?_⟩
    · refine gd_ald0 dX5_readRule_0 (by decide) ?_
      refine gd_ldcS (j := 0) (by decide) rfl rfl dX5_readRule_1 ?_
      refine gd_cV1i dX5_readRule_3 ct_5_53 rc_51 ⟨Nat.le_of_ble_eq_true rfl, Nat.le_of_ble_eq_true rfl⟩ (Nat.le_of_ble_eq_true rfl) (Nat.le_of_ble_eq_true rfl) (cR_nm0_f t he nw) ?_
      refine gd_if_eq_t 44 dX5_readRule_6 (by decide) (by decide) ?_
      refine gd_ald0 dX5_readRule_44 (by decide) ?_
      refine gd_ldcS (j := 2) (by decide) rfl rfl dX5_readRule_45 ?_
      refine gd_cV1i dX5_readRule_47 ct_5_53 rc_51 ⟨Nat.le_of_ble_eq_true rfl, Nat.le_of_ble_eq_true rfl⟩ (Nat.le_of_ble_eq_true rfl) (Nat.le_of_ble_eq_true rfl) (cR_nm2_t t he nr) ?_
      refine gd_if_eq_f 89 dX5_readRule_50 (by decide) (by decide) ?_
      refine gd_ald0 dX5_readRule_53 (by decide) ?_
      refine gd_ild1 dX5_readRule_54 ?_
      refine gd_ic0 dX5_readRule_55 ?_
      refine gd_ic3 dX5_readRule_56 ?_
      refine gd_cV3i dX5_readRule_57 ct_5_57 rc_51 ⟨Nat.le_of_ble_eq_true rfl, Nat.le_of_ble_eq_true rfl⟩ (Nat.le_of_ble_eq_true rfl) (Nat.le_of_ble_eq_true rfl) (cR_abt_t t (tX_le t he) hr (by decide) a1) ?_
      refine gd_if_eq_f 87 dX5_readRule_60 (by decide) (by decide) ?_
      refine gd_ald0 dX5_readRule_63 (by decide) ?_
      refine gd_ldcS (j := 3) (by decide) rfl rfl dX5_readRule_64 ?_
      refine gd_cV1i dX5_readRule_66 ct_5_53 rc_51 ⟨Nat.le_of_ble_eq_true rfl, Nat.le_of_ble_eq_true rfl⟩ (Nat.le_of_ble_eq_true rfl) (Nat.le_of_ble_eq_true rfl) (cR_nm3_f t (tX_le t (tX_le t he)) a2) ?_
      refine gd_if_eq_t 87 dX5_readRule_69 (by decide) (by decide) ?_
      refine gd_ic0 dX5_readRule_87 ?_
      refine gd_iret dX5_readRule_88 rfl (by first | rfl | decide | exact nar_bi _ | assumption) ?_
      rfl
    · intro j hj; first | rfl | simp only [upd_at, if_neg hj]
    · intro j hj; first | rfl | simp only [upd_at, if_neg hj]
    · intro j hj; first | rfl | simp only [upd_at, if_neg hj]
  · apply Exists.intro
    refine ⟨?_, ?_⟩
    · refine gd_ic4 dX9_wantRule_0 ?_
      refine gd_bipush (v := nI 6) dX9_wantRule_1 (by decide) ?_
      refine gd_ald0 dX9_wantRule_3 (by decide) ?_
      refine gd_getR (r := 74) dX9_wantRule_4 fl_9_13 rfl rfl rfl (by decide) ?_
      refine gd_ic2 dX9_wantRule_7 ?_
      refine gd_iald (n := 5) dX9_wantRule_8 rfl (by decide) (by repeat' (first | with_reducible rfl | apply ni_add | apply ni_mul)) (by omega) ?_
      rw [show (hW h b N e (-1) R).1 74 2 = nI x from hx]
      refine gd_imul dX9_wantRule_9 ?_
      refine gd_ild1 dX9_wantRule_10 ?_
      refine gd_iadd dX9_wantRule_11 ?_
      refine gd_imul dX9_wantRule_12 ?_
      rw [pk_mul, nI_add, pk_mul]
      refine gd_ist2 dX9_wantRule_13 rfl ?_
      refine gd_ald0 dX9_wantRule_14 (by decide) ?_
      refine gd_ldc2 dX9_wantRule_15 l2_9_185 ?_
      refine gd_cV1i dX9_wantRule_18 ct_9_187 rc_72 ⟨Nat.le_of_ble_eq_true rfl, Nat.le_of_ble_eq_true rfl⟩ (Nat.le_of_ble_eq_true rfl) (Nat.le_of_ble_eq_true rfl) (mW_nm0_f t he nw) ?_
      refine gd_if_eq_t 28 dX9_wantRule_21 (by decide) (by decide) ?_
      refine gd_ald0 dX9_wantRule_28 (by decide) ?_
      refine gd_ldc2 dX9_wantRule_29 l2_9_191 ?_
      refine gd_cV1i dX9_wantRule_32 ct_9_187 rc_72 ⟨Nat.le_of_ble_eq_true rfl, Nat.le_of_ble_eq_true rfl⟩ (Nat.le_of_ble_eq_true rfl) (Nat.le_of_ble_eq_true rfl) (mW_nm2_t t he nr) ?_
      refine gd_if_eq_f 42 dX9_wantRule_35 (by decide) (by decide) ?_
      refine gd_ic1 dX9_wantRule_38 ?_
      refine gd_goto 71 dX9_wantRule_39 (by decide) ?_
      refine gd_ist3 dX9_wantRule_71 rfl ?_
      refine gd_ald0 dX9_wantRule_72 (by decide) ?_
      refine gd_ild3 dX9_wantRule_73 ?_
      refine gd_if_lt_f 87 dX9_wantRule_74 (by decide) (by decide) ?_
      refine gd_ild1 dX9_wantRule_77 ?_
      refine gd_bipush (v := nI 6) dX9_wantRule_78 (by decide) ?_
      refine gd_icmp_ge_f 87 dX9_wantRule_80 (by decide) (by exact nI_ge (by omega) (by omega)) ?_
      refine gd_ic1 dX9_wantRule_83 ?_
      refine gd_goto 88 dX9_wantRule_84 (by decide) ?_
      refine gd_cV1v dX9_wantRule_88 ct_9_181 rc_72 ⟨Nat.le_of_ble_eq_true rfl, Nat.le_of_ble_eq_true rfl⟩ (Nat.le_of_ble_eq_true rfl) (Nat.le_of_ble_eq_true rfl) (mW_want_n t he) ?_
      refine gd_ald0 dX9_wantRule_91 (by decide) ?_
      refine gd_getI dX9_wantRule_92 fl_9_175 rfl rfl ?_
      rw [hW_19]
      refine gd_if_lt_t 99 dX9_wantRule_95 (by decide) (by decide) ?_
      refine gd_ild3 dX9_wantRule_99 ?_
      refine gd_ic2 dX9_wantRule_100 ?_
      refine gd_icmp_ne_t 108 dX9_wantRule_101 (by decide) (by decide) ?_
      refine gd_ald0 dX9_wantRule_108 (by decide) ?_
      refine gd_ic0 dX9_wantRule_109 ?_
      refine gd_ild3 dX9_wantRule_110 ?_
      refine gd_if_ne_t 119 dX9_wantRule_111 (by decide) (by decide) ?_
      refine gd_ild3 dX9_wantRule_119 ?_
      refine gd_ic1 dX9_wantRule_120 ?_
      refine gd_icmp_ne_f 128 dX9_wantRule_121 (by decide) (by decide) ?_
      refine gd_ic3 dX9_wantRule_124 ?_
      refine gd_goto 129 dX9_wantRule_125 (by decide) ?_
      refine gd_cV2i dX9_wantRule_129 ct_9_197 rc_72 ⟨Nat.le_of_ble_eq_true rfl, Nat.le_of_ble_eq_true rfl⟩ (Nat.le_of_ble_eq_true rfl) (Nat.le_of_ble_eq_true rfl) (mW_num_t t (mX_le t he) (by decide) a1) ?_
      refine gd_ist4 dX9_wantRule_132 rfl ?_
      refine gd_ild3 dX9_wantRule_134 ?_
      refine gd_ic2 dX9_wantRule_135 ?_
      refine gd_icmp_eq_f 160 dX9_wantRule_136 (by decide) (by decide) ?_
      refine gd_ald0 dX9_wantRule_139 (by decide) ?_
      refine gd_ald0 dX9_wantRule_140 (by decide) ?_
      refine gd_ild3 dX9_wantRule_141 ?_
      refine gd_if_ne_t 151 dX9_wantRule_142 (by decide) (by decide) ?_
      refine gd_ldc2 dX9_wantRule_151 l2_9_202 ?_
      refine gd_cV1i dX9_wantRule_154 ct_9_187 rc_72 ⟨Nat.le_of_ble_eq_true rfl, Nat.le_of_ble_eq_true rfl⟩ (Nat.le_of_ble_eq_true rfl) (Nat.le_of_ble_eq_true rfl) (mW_nm3_f t (mX_le t (mX_le t he)) a2) ?_
      refine gd_cV1v dX9_wantRule_157 ct_9_181 rc_72 ⟨Nat.le_of_ble_eq_true rfl, Nat.le_of_ble_eq_true rfl⟩ (Nat.le_of_ble_eq_true rfl) (Nat.le_of_ble_eq_true rfl) (mW_want_f t (mX_le t (mX_le t he))) ?_
      refine gd_ald0 dX9_wantRule_160 (by decide) ?_
      refine gd_ild3 dX9_wantRule_161 ?_
      refine gd_ic2 dX9_wantRule_162 ?_
      refine gd_icmp_ne_t 170 dX9_wantRule_163 (by decide) (by decide) ?_
      refine gd_ic0 dX9_wantRule_170 ?_
      refine gd_ild3 dX9_wantRule_171 ?_
      refine gd_if_ne_t 180 dX9_wantRule_172 (by decide) (by decide) ?_
      refine gd_ild3 dX9_wantRule_180 ?_
      refine gd_ic1 dX9_wantRule_181 ?_
      refine gd_icmp_ne_f 190 dX9_wantRule_182 (by decide) (by decide) ?_
      refine gd_bipush (v := nI 99) dX9_wantRule_185 (by decide) ?_
      refine gd_goto 202 dX9_wantRule_187 (by decide) ?_
      refine gd_cV2i dX9_wantRule_202 ct_9_197 rc_72 ⟨Nat.le_of_ble_eq_true rfl, Nat.le_of_ble_eq_true rfl⟩ (Nat.le_of_ble_eq_true rfl) (Nat.le_of_ble_eq_true rfl) (mW_num_d (mS_le t (mX_le t (mX_le t he))) _ _) ?_
      refine gd_ist5 dX9_wantRule_205 rfl ?_
      refine gd_ild5 dX9_wantRule_207 ?_
      refine gd_ist6 dX9_wantRule_209 rfl ?_
      refine gd_ild3 dX9_wantRule_211 ?_
      refine gd_if_ne_t 245 dX9_wantRule_212 (by decide) (by decide) ?_
      refine gd_ald0 dX9_wantRule_245 (by decide) ?_
      refine gd_getR (r := 80) dX9_wantRule_246 fl_9_31 rfl rfl rfl (by decide) ?_
      refine gd_ild2 dX9_wantRule_249 ?_
      refine gd_ild3 dX9_wantRule_250 ?_
      refine gd_iast (n := 192) dX9_wantRule_251 rfl (by decide) (by repeat' (first | with_reducible rfl | apply ni_add | apply ni_mul)) (by omega) ?_
      rw [hW_r, hW_80]
      refine gd_ald0 dX9_wantRule_252 (by decide) ?_
      refine gd_getR (r := 80) dX9_wantRule_253 fl_9_31 rfl rfl rfl (by decide) ?_
      refine gd_ild2 dX9_wantRule_256 ?_
      refine gd_ic1 dX9_wantRule_257 ?_
      refine gd_iadd dX9_wantRule_258 ?_
      refine gd_ild4 dX9_wantRule_259 ?_
      refine gd_iast (n := 192) dX9_wantRule_261 rfl (by decide) (by repeat' (first | with_reducible rfl | apply ni_add | apply ni_mul)) (by omega) ?_
      rw [hW_r, hW_80]
      refine gd_ald0 dX9_wantRule_262 (by decide) ?_
      refine gd_getR (r := 80) dX9_wantRule_263 fl_9_31 rfl rfl rfl (by decide) ?_
      refine gd_ild2 dX9_wantRule_266 ?_
      refine gd_ic2 dX9_wantRule_267 ?_
      refine gd_iadd dX9_wantRule_268 ?_
      refine gd_ild5 dX9_wantRule_269 ?_
      refine gd_iast (n := 192) dX9_wantRule_271 rfl (by decide) (by repeat' (first | with_reducible rfl | apply ni_add | apply ni_mul)) (by omega) ?_
      rw [hW_r, hW_80]
      refine gd_ald0 dX9_wantRule_272 (by decide) ?_
      refine gd_getR (r := 80) dX9_wantRule_273 fl_9_31 rfl rfl rfl (by decide) ?_
      refine gd_ild2 dX9_wantRule_276 ?_
      refine gd_ic3 dX9_wantRule_277 ?_
      refine gd_iadd dX9_wantRule_278 ?_
      refine gd_ild6 dX9_wantRule_279 ?_
      refine gd_iast (n := 192) dX9_wantRule_281 rfl (by decide) (by repeat' (first | with_reducible rfl | apply ni_add | apply ni_mul)) (by omega) ?_
      rw [hW_r, hW_80]
      refine gd_vret dX9_wantRule_282 rfl ?_
      rfl
    · exact up4_fr _ _ _ _ _ _
set_option maxHeartbeats 1000000 in
theorem ru_R3 {b : Nat → Nat} {N e : Nat} (hN : N ≤ 120) (he : e ≤ N) (nw : ¬ isNm b N e ch0 4) (nr : isNm b N e ch2 6) (a1 : nOk b N (tkX b N e) 0 3) (a2 : isNm b N (tkX b N (tkX b N e)) ch3 4) (a3 : ¬ nOk b N (tkX b N (tkX b N (tkX b N e))) 0 99) : RuF b N e (tkX b N (tkX b N (tkX b N e))) := by
  refine ⟨(tkX_ok hN (tkX_ok hN (tkX_ok hN he).2.1).2.1).2.1, fun h K L G r t hr => ?_, fun h R x k t hx hx8 hk => ?_⟩
  · apply Exists.intro
    apply Exists.intro
    apply Exists.intro
    refine ⟨?_, ?_, ?_, ?_⟩
    · refine gd_ald0 dX5_readRule_0 (by decide) ?_
      refine gd_ldcS (j := 0) (by decide) rfl rfl dX5_readRule_1 ?_
      refine gd_cV1i dX5_readRule_3 ct_5_53 rc_51 ⟨Nat.le_of_ble_eq_true rfl, Nat.le_of_ble_eq_true rfl⟩ (Nat.le_of_ble_eq_true rfl) (Nat.le_of_ble_eq_true rfl) (cR_nm0_f t he nw) ?_
      refine gd_if_eq_t 44 dX5_readRule_6 (by decide) (by decide) ?_
      refine gd_ald0 dX5_readRule_44 (by decide) ?_
      refine gd_ldcS (j := 2) (by decide) rfl rfl dX5_readRule_45 ?_
      refine gd_cV1i dX5_readRule_47 ct_5_53 rc_51 ⟨Nat.le_of_ble_eq_true rfl, Nat.le_of_ble_eq_true rfl⟩ (Nat.le_of_ble_eq_true rfl) (Nat.le_of_ble_eq_true rfl) (cR_nm2_t t he nr) ?_
      refine gd_if_eq_f 89 dX5_readRule_50 (by decide) (by decide) ?_
      refine gd_ald0 dX5_readRule_53 (by decide) ?_
      refine gd_ild1 dX5_readRule_54 ?_
      refine gd_ic0 dX5_readRule_55 ?_
      refine gd_ic3 dX5_readRule_56 ?_
      refine gd_cV3i dX5_readRule_57 ct_5_57 rc_51 ⟨Nat.le_of_ble_eq_true rfl, Nat.le_of_ble_eq_true rfl⟩ (Nat.le_of_ble_eq_true rfl) (Nat.le_of_ble_eq_true rfl) (cR_abt_t t (tX_le t he) hr (by decide) a1) ?_
      refine gd_if_eq_f 87 dX5_readRule_60 (by decide) (by decide) ?_
      refine gd_ald0 dX5_readRule_63 (by decide) ?_
      refine gd_ldcS (j := 3) (by decide) rfl rfl dX5_readRule_64 ?_
      refine gd_cV1i dX5_readRule_66 ct_5_53 rc_51 ⟨Nat.le_of_ble_eq_true rfl, Nat.le_of_ble_eq_true rfl⟩ (Nat.le_of_ble_eq_true rfl) (Nat.le_of_ble_eq_true rfl) (cR_nm3_t t (tX_le t (tX_le t he)) a2) ?_
      refine gd_if_eq_f 87 dX5_readRule_69 (by decide) (by decide) ?_
      refine gd_ald0 dX5_readRule_72 (by decide) ?_
      refine gd_ild1 dX5_readRule_73 ?_
      refine gd_ic0 dX5_readRule_74 ?_
      refine gd_bipush (v := nI 99) dX5_readRule_75 (by decide) ?_
      refine gd_cV3i dX5_readRule_77 ct_5_70 rc_51 ⟨Nat.le_of_ble_eq_true rfl, Nat.le_of_ble_eq_true rfl⟩ (Nat.le_of_ble_eq_true rfl) (Nat.le_of_ble_eq_true rfl) (cR_val_f t (tX_le t (tX_le t (tX_le t he))) hr (by decide) (by decide) a3) ?_
      refine gd_if_eq_t 87 dX5_readRule_80 (by decide) (by decide) ?_
      refine gd_ic0 dX5_readRule_87 ?_
      refine gd_iret dX5_readRule_88 rfl (by first | rfl | decide | exact nar_bi _ | assumption) ?_
      rfl
    · intro j hj; first | rfl | simp only [upd_at, if_neg hj]
    · intro j hj; first | rfl | simp only [upd_at, if_neg hj]
    · intro j hj; first | rfl | simp only [upd_at, if_neg hj]
  · apply Exists.intro
    refine ⟨?_, ?_⟩
    · refine gd_ic4 dX9_wantRule_0 ?_
      refine gd_bipush (v := nI 6) dX9_wantRule_1 (by decide) ?_
      refine gd_ald0 dX9_wantRule_3 (by decide) ?_
      refine gd_getR (r := 74) dX9_wantRule_4 fl_9_13 rfl rfl rfl (by decide) ?_
      refine gd_ic2 dX9_wantRule_7 ?_
      refine gd_iald (n := 5) dX9_wantRule_8 rfl (by decide) (by repeat' (first | with_reducible rfl | apply ni_add | apply ni_mul)) (by omega) ?_
      rw [show (hW h b N e (-1) R).1 74 2 = nI x from hx]
      refine gd_imul dX9_wantRule_9 ?_
      refine gd_ild1 dX9_wantRule_10 ?_
      refine gd_iadd dX9_wantRule_11 ?_
      refine gd_imul dX9_wantRule_12 ?_
      rw [pk_mul, nI_add, pk_mul]
      refine gd_ist2 dX9_wantRule_13 rfl ?_
      refine gd_ald0 dX9_wantRule_14 (by decide) ?_
      refine gd_ldc2 dX9_wantRule_15 l2_9_185 ?_
      refine gd_cV1i dX9_wantRule_18 ct_9_187 rc_72 ⟨Nat.le_of_ble_eq_true rfl, Nat.le_of_ble_eq_true rfl⟩ (Nat.le_of_ble_eq_true rfl) (Nat.le_of_ble_eq_true rfl) (mW_nm0_f t he nw) ?_
      refine gd_if_eq_t 28 dX9_wantRule_21 (by decide) (by decide) ?_
      refine gd_ald0 dX9_wantRule_28 (by decide) ?_
      refine gd_ldc2 dX9_wantRule_29 l2_9_191 ?_
      refine gd_cV1i dX9_wantRule_32 ct_9_187 rc_72 ⟨Nat.le_of_ble_eq_true rfl, Nat.le_of_ble_eq_true rfl⟩ (Nat.le_of_ble_eq_true rfl) (Nat.le_of_ble_eq_true rfl) (mW_nm2_t t he nr) ?_
      refine gd_if_eq_f 42 dX9_wantRule_35 (by decide) (by decide) ?_
      refine gd_ic1 dX9_wantRule_38 ?_
      refine gd_goto 71 dX9_wantRule_39 (by decide) ?_
      refine gd_ist3 dX9_wantRule_71 rfl ?_
      refine gd_ald0 dX9_wantRule_72 (by decide) ?_
      refine gd_ild3 dX9_wantRule_73 ?_
      refine gd_if_lt_f 87 dX9_wantRule_74 (by decide) (by decide) ?_
      refine gd_ild1 dX9_wantRule_77 ?_
      refine gd_bipush (v := nI 6) dX9_wantRule_78 (by decide) ?_
      refine gd_icmp_ge_f 87 dX9_wantRule_80 (by decide) (by exact nI_ge (by omega) (by omega)) ?_
      refine gd_ic1 dX9_wantRule_83 ?_
      refine gd_goto 88 dX9_wantRule_84 (by decide) ?_
      refine gd_cV1v dX9_wantRule_88 ct_9_181 rc_72 ⟨Nat.le_of_ble_eq_true rfl, Nat.le_of_ble_eq_true rfl⟩ (Nat.le_of_ble_eq_true rfl) (Nat.le_of_ble_eq_true rfl) (mW_want_n t he) ?_
      refine gd_ald0 dX9_wantRule_91 (by decide) ?_
      refine gd_getI dX9_wantRule_92 fl_9_175 rfl rfl ?_
      rw [hW_19]
      refine gd_if_lt_t 99 dX9_wantRule_95 (by decide) (by decide) ?_
      refine gd_ild3 dX9_wantRule_99 ?_
      refine gd_ic2 dX9_wantRule_100 ?_
      refine gd_icmp_ne_t 108 dX9_wantRule_101 (by decide) (by decide) ?_
      refine gd_ald0 dX9_wantRule_108 (by decide) ?_
      refine gd_ic0 dX9_wantRule_109 ?_
      refine gd_ild3 dX9_wantRule_110 ?_
      refine gd_if_ne_t 119 dX9_wantRule_111 (by decide) (by decide) ?_
      refine gd_ild3 dX9_wantRule_119 ?_
      refine gd_ic1 dX9_wantRule_120 ?_
      refine gd_icmp_ne_f 128 dX9_wantRule_121 (by decide) (by decide) ?_
      refine gd_ic3 dX9_wantRule_124 ?_
      refine gd_goto 129 dX9_wantRule_125 (by decide) ?_
      refine gd_cV2i dX9_wantRule_129 ct_9_197 rc_72 ⟨Nat.le_of_ble_eq_true rfl, Nat.le_of_ble_eq_true rfl⟩ (Nat.le_of_ble_eq_true rfl) (Nat.le_of_ble_eq_true rfl) (mW_num_t t (mX_le t he) (by decide) a1) ?_
      refine gd_ist4 dX9_wantRule_132 rfl ?_
      refine gd_ild3 dX9_wantRule_134 ?_
      refine gd_ic2 dX9_wantRule_135 ?_
      refine gd_icmp_eq_f 160 dX9_wantRule_136 (by decide) (by decide) ?_
      refine gd_ald0 dX9_wantRule_139 (by decide) ?_
      refine gd_ald0 dX9_wantRule_140 (by decide) ?_
      refine gd_ild3 dX9_wantRule_141 ?_
      refine gd_if_ne_t 151 dX9_wantRule_142 (by decide) (by decide) ?_
      refine gd_ldc2 dX9_wantRule_151 l2_9_202 ?_
      refine gd_cV1i dX9_wantRule_154 ct_9_187 rc_72 ⟨Nat.le_of_ble_eq_true rfl, Nat.le_of_ble_eq_true rfl⟩ (Nat.le_of_ble_eq_true rfl) (Nat.le_of_ble_eq_true rfl) (mW_nm3_t t (mX_le t (mX_le t he)) a2) ?_
      refine gd_cV1v dX9_wantRule_157 ct_9_181 rc_72 ⟨Nat.le_of_ble_eq_true rfl, Nat.le_of_ble_eq_true rfl⟩ (Nat.le_of_ble_eq_true rfl) (Nat.le_of_ble_eq_true rfl) (mW_want_n t (mX_le t (mX_le t he))) ?_
      refine gd_ald0 dX9_wantRule_160 (by decide) ?_
      refine gd_ild3 dX9_wantRule_161 ?_
      refine gd_ic2 dX9_wantRule_162 ?_
      refine gd_icmp_ne_t 170 dX9_wantRule_163 (by decide) (by decide) ?_
      refine gd_ic0 dX9_wantRule_170 ?_
      refine gd_ild3 dX9_wantRule_171 ?_
      refine gd_if_ne_t 180 dX9_wantRule_172 (by decide) (by decide) ?_
      refine gd_ild3 dX9_wantRule_180 ?_
      refine gd_ic1 dX9_wantRule_181 ?_
      refine gd_icmp_ne_f 190 dX9_wantRule_182 (by decide) (by decide) ?_
      refine gd_bipush (v := nI 99) dX9_wantRule_185 (by decide) ?_
      refine gd_goto 202 dX9_wantRule_187 (by decide) ?_
      refine gd_cV2i dX9_wantRule_202 ct_9_197 rc_72 ⟨Nat.le_of_ble_eq_true rfl, Nat.le_of_ble_eq_true rfl⟩ (Nat.le_of_ble_eq_true rfl) (Nat.le_of_ble_eq_true rfl) (mW_num_f t (mX_le t (mX_le t (mX_le t he))) (by decide) (by decide) a3) ?_
      refine gd_ist5 dX9_wantRule_205 rfl ?_
      refine gd_ild5 dX9_wantRule_207 ?_
      refine gd_ist6 dX9_wantRule_209 rfl ?_
      refine gd_ild3 dX9_wantRule_211 ?_
      refine gd_if_ne_t 245 dX9_wantRule_212 (by decide) (by decide) ?_
      refine gd_ald0 dX9_wantRule_245 (by decide) ?_
      refine gd_getR (r := 80) dX9_wantRule_246 fl_9_31 rfl rfl rfl (by decide) ?_
      refine gd_ild2 dX9_wantRule_249 ?_
      refine gd_ild3 dX9_wantRule_250 ?_
      refine gd_iast (n := 192) dX9_wantRule_251 rfl (by decide) (by repeat' (first | with_reducible rfl | apply ni_add | apply ni_mul)) (by omega) ?_
      rw [hW_r, hW_80]
      refine gd_ald0 dX9_wantRule_252 (by decide) ?_
      refine gd_getR (r := 80) dX9_wantRule_253 fl_9_31 rfl rfl rfl (by decide) ?_
      refine gd_ild2 dX9_wantRule_256 ?_
      refine gd_ic1 dX9_wantRule_257 ?_
      refine gd_iadd dX9_wantRule_258 ?_
      refine gd_ild4 dX9_wantRule_259 ?_
      refine gd_iast (n := 192) dX9_wantRule_261 rfl (by decide) (by repeat' (first | with_reducible rfl | apply ni_add | apply ni_mul)) (by omega) ?_
      rw [hW_r, hW_80]
      refine gd_ald0 dX9_wantRule_262 (by decide) ?_
      refine gd_getR (r := 80) dX9_wantRule_263 fl_9_31 rfl rfl rfl (by decide) ?_
      refine gd_ild2 dX9_wantRule_266 ?_
      refine gd_ic2 dX9_wantRule_267 ?_
      refine gd_iadd dX9_wantRule_268 ?_
      refine gd_ild5 dX9_wantRule_269 ?_
      refine gd_iast (n := 192) dX9_wantRule_271 rfl (by decide) (by repeat' (first | with_reducible rfl | apply ni_add | apply ni_mul)) (by omega) ?_
      rw [hW_r, hW_80]
      refine gd_ald0 dX9_wantRule_272 (by decide) ?_
      refine gd_getR (r := 80) dX9_wantRule_273 fl_9_31 rfl rfl rfl (by decide) ?_
      refine gd_ild2 dX9_wantRule_276 ?_
      refine gd_ic3 dX9_wantRule_277 ?_
      refine gd_iadd dX9_wantRule_278 ?_
      refine gd_ild6 dX9_wantRule_279 ?_
      refine gd_iast (n := 192) dX9_wantRule_281 rfl (by decide) (by repeat' (first | with_reducible rfl | apply ni_add | apply ni_mul)) (by omega) ?_
      rw [hW_r, hW_80]
      refine gd_vret dX9_wantRule_282 rfl ?_
      rfl
    · exact up4_fr _ _ _ _ _ _
set_option maxHeartbeats 1000000 in
theorem ru_Rok {b : Nat → Nat} {N e : Nat} (hN : N ≤ 120) (he : e ≤ N) (nw : ¬ isNm b N e ch0 4) (nr : isNm b N e ch2 6) (a1 : nOk b N (tkX b N e) 0 3) (a2 : isNm b N (tkX b N (tkX b N e)) ch3 4) (a3 : nOk b N (tkX b N (tkX b N (tkX b N e))) 0 99) : RuO b N e 1 (tkV b N (tkX b N e)) (tkV b N (tkX b N (tkX b N (tkX b N e)))) (tkV b N (tkX b N (tkX b N (tkX b N e)))) (tkX b N (tkX b N (tkX b N (tkX b N e)))) := by
  refine ⟨(tkX_ok hN (tkX_ok hN (tkX_ok hN (tkX_ok hN he).2.1).2.1).2.1).2.1, ⟨1, (tkV b N (tkX b N e)), (tkV b N (tkX b N (tkX b N (tkX b N e)))), (tkV b N (tkX b N (tkX b N (tkX b N e)))), rfl, rfl, rfl, rfl, Nat.le_refl _, Or.inr (Or.inl ⟨rfl, Nat.lt_succ_of_le a1.2.2, a3.2.2⟩)⟩, fun h K L G r t hr => ?_, fun h R x k t hx hx8 hk => ?_⟩
  · apply Exists.intro
    apply Exists.intro
    apply Exists.intro
    refine ⟨?_, ⟨?_, ?_, ?_⟩, ?_, ?_, ?_⟩
    · refine gd_ald0 dX5_readRule_0 (by decide) ?_
      refine gd_ldcS (j := 0) (by decide) rfl rfl dX5_readRule_1 ?_
      refine gd_cV1i dX5_readRule_3 ct_5_53 rc_51 ⟨Nat.le_of_ble_eq_true rfl, Nat.le_of_ble_eq_true rfl⟩ (Nat.le_of_ble_eq_true rfl) (Nat.le_of_ble_eq_true rfl) (cR_nm0_f t he nw) ?_
      refine gd_if_eq_t 44 dX5_readRule_6 (by decide) (by decide) ?_
      refine gd_ald0 dX5_readRule_44 (by decide) ?_
      refine gd_ldcS (j := 2) (by decide) rfl rfl dX5_readRule_45 ?_
      refine gd_cV1i dX5_readRule_47 ct_5_53 rc_51 ⟨Nat.le_of_ble_eq_true rfl, Nat.le_of_ble_eq_true rfl⟩ (Nat.le_of_ble_eq_true rfl) (Nat.le_of_ble_eq_true rfl) (cR_nm2_t t he nr) ?_
      refine gd_if_eq_f 89 dX5_readRule_50 (by decide) (by decide) ?_
      refine gd_ald0 dX5_readRule_53 (by decide) ?_
      refine gd_ild1 dX5_readRule_54 ?_
      refine gd_ic0 dX5_readRule_55 ?_
      refine gd_ic3 dX5_readRule_56 ?_
      refine gd_cV3i dX5_readRule_57 ct_5_57 rc_51 ⟨Nat.le_of_ble_eq_true rfl, Nat.le_of_ble_eq_true rfl⟩ (Nat.le_of_ble_eq_true rfl) (Nat.le_of_ble_eq_true rfl) (cR_abt_t t (tX_le t he) hr (by decide) a1) ?_
      refine gd_if_eq_f 87 dX5_readRule_60 (by decide) (by decide) ?_
      refine gd_ald0 dX5_readRule_63 (by decide) ?_
      refine gd_ldcS (j := 3) (by decide) rfl rfl dX5_readRule_64 ?_
      refine gd_cV1i dX5_readRule_66 ct_5_53 rc_51 ⟨Nat.le_of_ble_eq_true rfl, Nat.le_of_ble_eq_true rfl⟩ (Nat.le_of_ble_eq_true rfl) (Nat.le_of_ble_eq_true rfl) (cR_nm3_t t (tX_le t (tX_le t he)) a2) ?_
      refine gd_if_eq_f 87 dX5_readRule_69 (by decide) (by decide) ?_
      refine gd_ald0 dX5_readRule_72 (by decide) ?_
      refine gd_ild1 dX5_readRule_73 ?_
      refine gd_ic0 dX5_readRule_74 ?_
      refine gd_bipush (v := nI 99) dX5_readRule_75 (by decide) ?_
      refine gd_cV3i dX5_readRule_77 ct_5_70 rc_51 ⟨Nat.le_of_ble_eq_true rfl, Nat.le_of_ble_eq_true rfl⟩ (Nat.le_of_ble_eq_true rfl) (Nat.le_of_ble_eq_true rfl) (cR_val_t t (tX_le t (tX_le t (tX_le t he))) hr (by decide) (by decide) a3) ?_
      refine gd_if_eq_f 87 dX5_readRule_80 (by decide) (by decide) ?_
      refine gd_ic1 dX5_readRule_83 ?_
      refine gd_goto 88 dX5_readRule_84 (by decide) ?_
      refine gd_iret dX5_readRule_88 rfl (by first | rfl | decide | exact nar_bi _ | assumption) ?_
      rfl
    · intro j hj; first | rfl | simp only [upd_at, if_neg hj]
    · intro j hj; first | rfl | simp only [upd_at, if_neg hj]
    · intro j hj; first | rfl | simp only [upd_at, if_neg hj]
    · rw [upd_at, if_pos rfl]; unfold keyI; rw [if_neg (by decide), if_pos rfl, Nat.zero_add]
    · rw [upd_at, if_pos rfl]
    · rw [upd_at, if_pos rfl]
  · apply Exists.intro
    refine ⟨?_, ?_, ?_, ?_, ?_, ?_⟩
    · refine gd_ic4 dX9_wantRule_0 ?_
      refine gd_bipush (v := nI 6) dX9_wantRule_1 (by decide) ?_
      refine gd_ald0 dX9_wantRule_3 (by decide) ?_
      refine gd_getR (r := 74) dX9_wantRule_4 fl_9_13 rfl rfl rfl (by decide) ?_
      refine gd_ic2 dX9_wantRule_7 ?_
      refine gd_iald (n := 5) dX9_wantRule_8 rfl (by decide) (by repeat' (first | with_reducible rfl | apply ni_add | apply ni_mul)) (by omega) ?_
      rw [show (hW h b N e (-1) R).1 74 2 = nI x from hx]
      refine gd_imul dX9_wantRule_9 ?_
      refine gd_ild1 dX9_wantRule_10 ?_
      refine gd_iadd dX9_wantRule_11 ?_
      refine gd_imul dX9_wantRule_12 ?_
      rw [pk_mul, nI_add, pk_mul]
      refine gd_ist2 dX9_wantRule_13 rfl ?_
      refine gd_ald0 dX9_wantRule_14 (by decide) ?_
      refine gd_ldc2 dX9_wantRule_15 l2_9_185 ?_
      refine gd_cV1i dX9_wantRule_18 ct_9_187 rc_72 ⟨Nat.le_of_ble_eq_true rfl, Nat.le_of_ble_eq_true rfl⟩ (Nat.le_of_ble_eq_true rfl) (Nat.le_of_ble_eq_true rfl) (mW_nm0_f t he nw) ?_
      refine gd_if_eq_t 28 dX9_wantRule_21 (by decide) (by decide) ?_
      refine gd_ald0 dX9_wantRule_28 (by decide) ?_
      refine gd_ldc2 dX9_wantRule_29 l2_9_191 ?_
      refine gd_cV1i dX9_wantRule_32 ct_9_187 rc_72 ⟨Nat.le_of_ble_eq_true rfl, Nat.le_of_ble_eq_true rfl⟩ (Nat.le_of_ble_eq_true rfl) (Nat.le_of_ble_eq_true rfl) (mW_nm2_t t he nr) ?_
      refine gd_if_eq_f 42 dX9_wantRule_35 (by decide) (by decide) ?_
      refine gd_ic1 dX9_wantRule_38 ?_
      refine gd_goto 71 dX9_wantRule_39 (by decide) ?_
      refine gd_ist3 dX9_wantRule_71 rfl ?_
      refine gd_ald0 dX9_wantRule_72 (by decide) ?_
      refine gd_ild3 dX9_wantRule_73 ?_
      refine gd_if_lt_f 87 dX9_wantRule_74 (by decide) (by decide) ?_
      refine gd_ild1 dX9_wantRule_77 ?_
      refine gd_bipush (v := nI 6) dX9_wantRule_78 (by decide) ?_
      refine gd_icmp_ge_f 87 dX9_wantRule_80 (by decide) (by exact nI_ge (by omega) (by omega)) ?_
      refine gd_ic1 dX9_wantRule_83 ?_
      refine gd_goto 88 dX9_wantRule_84 (by decide) ?_
      refine gd_cV1v dX9_wantRule_88 ct_9_181 rc_72 ⟨Nat.le_of_ble_eq_true rfl, Nat.le_of_ble_eq_true rfl⟩ (Nat.le_of_ble_eq_true rfl) (Nat.le_of_ble_eq_true rfl) (mW_want_n t he) ?_
      refine gd_ald0 dX9_wantRule_91 (by decide) ?_
      refine gd_getI dX9_wantRule_92 fl_9_175 rfl rfl ?_
      rw [hW_19]
      refine gd_if_lt_t 99 dX9_wantRule_95 (by decide) (by decide) ?_
      refine gd_ild3 dX9_wantRule_99 ?_
      refine gd_ic2 dX9_wantRule_100 ?_
      refine gd_icmp_ne_t 108 dX9_wantRule_101 (by decide) (by decide) ?_
      refine gd_ald0 dX9_wantRule_108 (by decide) ?_
      refine gd_ic0 dX9_wantRule_109 ?_
      refine gd_ild3 dX9_wantRule_110 ?_
      refine gd_if_ne_t 119 dX9_wantRule_111 (by decide) (by decide) ?_
      refine gd_ild3 dX9_wantRule_119 ?_
      refine gd_ic1 dX9_wantRule_120 ?_
      refine gd_icmp_ne_f 128 dX9_wantRule_121 (by decide) (by decide) ?_
      refine gd_ic3 dX9_wantRule_124 ?_
      refine gd_goto 129 dX9_wantRule_125 (by decide) ?_
      refine gd_cV2i dX9_wantRule_129 ct_9_197 rc_72 ⟨Nat.le_of_ble_eq_true rfl, Nat.le_of_ble_eq_true rfl⟩ (Nat.le_of_ble_eq_true rfl) (Nat.le_of_ble_eq_true rfl) (mW_num_t t (mX_le t he) (by decide) a1) ?_
      refine gd_ist4 dX9_wantRule_132 rfl ?_
      refine gd_ild3 dX9_wantRule_134 ?_
      refine gd_ic2 dX9_wantRule_135 ?_
      refine gd_icmp_eq_f 160 dX9_wantRule_136 (by decide) (by decide) ?_
      refine gd_ald0 dX9_wantRule_139 (by decide) ?_
      refine gd_ald0 dX9_wantRule_140 (by decide) ?_
      refine gd_ild3 dX9_wantRule_141 ?_
      refine gd_if_ne_t 151 dX9_wantRule_142 (by decide) (by decide) ?_
      refine gd_ldc2 dX9_wantRule_151 l2_9_202 ?_
      refine gd_cV1i dX9_wantRule_154 ct_9_187 rc_72 ⟨Nat.le_of_ble_eq_true rfl, Nat.le_of_ble_eq_true rfl⟩ (Nat.le_of_ble_eq_true rfl) (Nat.le_of_ble_eq_true rfl) (mW_nm3_t t (mX_le t (mX_le t he)) a2) ?_
      refine gd_cV1v dX9_wantRule_157 ct_9_181 rc_72 ⟨Nat.le_of_ble_eq_true rfl, Nat.le_of_ble_eq_true rfl⟩ (Nat.le_of_ble_eq_true rfl) (Nat.le_of_ble_eq_true rfl) (mW_want_n t (mX_le t (mX_le t he))) ?_
      refine gd_ald0 dX9_wantRule_160 (by decide) ?_
      refine gd_ild3 dX9_wantRule_161 ?_
      refine gd_ic2 dX9_wantRule_162 ?_
      refine gd_icmp_ne_t 170 dX9_wantRule_163 (by decide) (by decide) ?_
      refine gd_ic0 dX9_wantRule_170 ?_
      refine gd_ild3 dX9_wantRule_171 ?_
      refine gd_if_ne_t 180 dX9_wantRule_172 (by decide) (by decide) ?_
      refine gd_ild3 dX9_wantRule_180 ?_
      refine gd_ic1 dX9_wantRule_181 ?_
      refine gd_icmp_ne_f 190 dX9_wantRule_182 (by decide) (by decide) ?_
      refine gd_bipush (v := nI 99) dX9_wantRule_185 (by decide) ?_
      refine gd_goto 202 dX9_wantRule_187 (by decide) ?_
      refine gd_cV2i dX9_wantRule_202 ct_9_197 rc_72 ⟨Nat.le_of_ble_eq_true rfl, Nat.le_of_ble_eq_true rfl⟩ (Nat.le_of_ble_eq_true rfl) (Nat.le_of_ble_eq_true rfl) (mW_num_t t (mX_le t (mX_le t (mX_le t he))) (by decide) a3) ?_
      refine gd_ist5 dX9_wantRule_205 rfl ?_
      refine gd_ild5 dX9_wantRule_207 ?_
      refine gd_ist6 dX9_wantRule_209 rfl ?_
      refine gd_ild3 dX9_wantRule_211 ?_
      refine gd_if_ne_t 245 dX9_wantRule_212 (by decide) (by decide) ?_
      refine gd_ald0 dX9_wantRule_245 (by decide) ?_
      refine gd_getR (r := 80) dX9_wantRule_246 fl_9_31 rfl rfl rfl (by decide) ?_
      refine gd_ild2 dX9_wantRule_249 ?_
      refine gd_ild3 dX9_wantRule_250 ?_
      refine gd_iast (n := 192) dX9_wantRule_251 rfl (by decide) (by repeat' (first | with_reducible rfl | apply ni_add | apply ni_mul)) (by omega) ?_
      rw [hW_r, hW_80]
      refine gd_ald0 dX9_wantRule_252 (by decide) ?_
      refine gd_getR (r := 80) dX9_wantRule_253 fl_9_31 rfl rfl rfl (by decide) ?_
      refine gd_ild2 dX9_wantRule_256 ?_
      refine gd_ic1 dX9_wantRule_257 ?_
      refine gd_iadd dX9_wantRule_258 ?_
      refine gd_ild4 dX9_wantRule_259 ?_
      refine gd_iast (n := 192) dX9_wantRule_261 rfl (by decide) (by repeat' (first | with_reducible rfl | apply ni_add | apply ni_mul)) (by omega) ?_
      rw [hW_r, hW_80]
      refine gd_ald0 dX9_wantRule_262 (by decide) ?_
      refine gd_getR (r := 80) dX9_wantRule_263 fl_9_31 rfl rfl rfl (by decide) ?_
      refine gd_ild2 dX9_wantRule_266 ?_
      refine gd_ic2 dX9_wantRule_267 ?_
      refine gd_iadd dX9_wantRule_268 ?_
      refine gd_ild5 dX9_wantRule_269 ?_
      refine gd_iast (n := 192) dX9_wantRule_271 rfl (by decide) (by repeat' (first | with_reducible rfl | apply ni_add | apply ni_mul)) (by omega) ?_
      rw [hW_r, hW_80]
      refine gd_ald0 dX9_wantRule_272 (by decide) ?_
      refine gd_getR (r := 80) dX9_wantRule_273 fl_9_31 rfl rfl rfl (by decide) ?_
      refine gd_ild2 dX9_wantRule_276 ?_
      refine gd_ic3 dX9_wantRule_277 ?_
      refine gd_iadd dX9_wantRule_278 ?_
      refine gd_ild6 dX9_wantRule_279 ?_
      refine gd_iast (n := 192) dX9_wantRule_281 rfl (by decide) (by repeat' (first | with_reducible rfl | apply ni_add | apply ni_mul)) (by omega) ?_
      rw [hW_r, hW_80]
      refine gd_vret dX9_wantRule_282 rfl ?_
      rfl
    · exact up4_fr _ _ _ _ _ _
    · exact up4_0 _ _ _ _ _ _
    · exact up4_1 _ _ _ _ _ _
    · exact up4_2 _ _ _ _ _ _
    · exact up4_3 _ _ _ _ _ _
set_option maxHeartbeats 1000000 in
theorem ru_F1 {b : Nat → Nat} {N e : Nat} (hN : N ≤ 120) (he : e ≤ N) (nw : ¬ isNm b N e ch0 4) (nr : ¬ isNm b N e ch2 6) (nf : isNm b N e ch4 5) (a1 : ¬ nOk b N (tkX b N e) 1 20) : RuF b N e (tkX b N e) := by
  refine ⟨(tkX_ok hN he).2.1, fun h K L G r t hr => ?_, fun h R x k t hx hx8 hk => ?_⟩
  · apply Exists.intro
    apply Exists.intro
    apply Exists.intro
    refine ⟨?_, ?_, ?_, ?_⟩
    · refine gd_ald0 dX5_readRule_0 (by decide) ?_
      refine gd_ldcS (j := 0) (by decide) rfl rfl dX5_readRule_1 ?_
      refine gd_cV1i dX5_readRule_3 ct_5_53 rc_51 ⟨Nat.le_of_ble_eq_true rfl, Nat.le_of_ble_eq_true rfl⟩ (Nat.le_of_ble_eq_true rfl) (Nat.le_of_ble_eq_true rfl) (cR_nm0_f t he nw) ?_
      refine gd_if_eq_t 44 dX5_readRule_6 (by decide) (by decide) ?_
      refine gd_ald0 dX5_readRule_44 (by decide) ?_
      refine gd_ldcS (j := 2) (by decide) rfl rfl dX5_readRule_45 ?_
      refine gd_cV1i dX5_readRule_47 ct_5_53 rc_51 ⟨Nat.le_of_ble_eq_true rfl, Nat.le_of_ble_eq_true rfl⟩ (Nat.le_of_ble_eq_true rfl) (Nat.le_of_ble_eq_true rfl) (cR_nm2_f t he nr) ?_
      refine gd_if_eq_t 89 dX5_readRule_50 (by decide) (by decide) ?_
      refine gd_ald0 dX5_readRule_89 (by decide) ?_
      refine gd_ldcS (j := 4) (by decide) rfl rfl dX5_readRule_90 ?_
      refine gd_cV1i dX5_readRule_92 ct_5_53 rc_51 ⟨Nat.le_of_ble_eq_true rfl, Nat.le_of_ble_eq_true rfl⟩ (Nat.le_of_ble_eq_true rfl) (Nat.le_of_ble_eq_true rfl) (cR_nm4_t t he nf) ?_
      refine gd_if_eq_f 114 dX5_readRule_95 (by decide) (by decide) ?_
      refine gd_ald0 dX5_readRule_98 (by decide) ?_
      refine gd_getR (r := 53) dX5_readRule_99 fl_5_19 rfl rfl rfl (by decide) ?_
      refine gd_ild1 dX5_readRule_102 ?_
      refine gd_ic4 dX5_readRule_103 ?_
      refine gd_iast (n := 6) dX5_readRule_104 rfl (by decide) (by repeat' (first | with_reducible rfl | apply ni_add | apply ni_mul)) (by omega) ?_
      rw [hR_r3, hR_53]
      refine gd_ald0 dX5_readRule_105 (by decide) ?_
      refine gd_ild1 dX5_readRule_106 ?_
      refine gd_ic1 dX5_readRule_107 ?_
      refine gd_bipush (v := nI 20) dX5_readRule_108 (by decide) ?_
      refine gd_cV3i dX5_readRule_110 ct_5_70 rc_51 ⟨Nat.le_of_ble_eq_true rfl, Nat.le_of_ble_eq_true rfl⟩ (Nat.le_of_ble_eq_true rfl) (Nat.le_of_ble_eq_true rfl) (cR_val_f t (tX_le t he) hr (by decide) (by decide) a1) ?_
      refine gd_iret dX5_readRule_113 rfl (by first | rfl | decide | exact nar_bi _ | assumption) ?_
      rfl
    · intro j hj; first | rfl | simp only [upd_at, if_neg hj]
    · intro j hj; first | rfl | simp only [upd_at, if_neg hj]
    · intro j hj; first | rfl | simp only [upd_at, if_neg hj]
  · apply Exists.intro
    refine ⟨?_, ?_⟩
    · refine gd_ic4 dX9_wantRule_0 ?_
      refine gd_bipush (v := nI 6) dX9_wantRule_1 (by decide) ?_
      refine gd_ald0 dX9_wantRule_3 (by decide) ?_
      refine gd_getR (r := 74) dX9_wantRule_4 fl_9_13 rfl rfl rfl (by decide) ?_
      refine gd_ic2 dX9_wantRule_7 ?_
      refine gd_iald (n := 5) dX9_wantRule_8 rfl (by decide) (by repeat' (first | with_reducible rfl | apply ni_add | apply ni_mul)) (by omega) ?_
      rw [show (hW h b N e (-1) R).1 74 2 = nI x from hx]
      refine gd_imul dX9_wantRule_9 ?_
      refine gd_ild1 dX9_wantRule_10 ?_
      refine gd_iadd dX9_wantRule_11 ?_
      refine gd_imul dX9_wantRule_12 ?_
      rw [pk_mul, nI_add, pk_mul]
      refine gd_ist2 dX9_wantRule_13 rfl ?_
      refine gd_ald0 dX9_wantRule_14 (by decide) ?_
      refine gd_ldc2 dX9_wantRule_15 l2_9_185 ?_
      refine gd_cV1i dX9_wantRule_18 ct_9_187 rc_72 ⟨Nat.le_of_ble_eq_true rfl, Nat.le_of_ble_eq_true rfl⟩ (Nat.le_of_ble_eq_true rfl) (Nat.le_of_ble_eq_true rfl) (mW_nm0_f t he nw) ?_
      refine gd_if_eq_t 28 dX9_wantRule_21 (by decide) (by decide) ?_
      refine gd_ald0 dX9_wantRule_28 (by decide) ?_
      refine gd_ldc2 dX9_wantRule_29 l2_9_191 ?_
      refine gd_cV1i dX9_wantRule_32 ct_9_187 rc_72 ⟨Nat.le_of_ble_eq_true rfl, Nat.le_of_ble_eq_true rfl⟩ (Nat.le_of_ble_eq_true rfl) (Nat.le_of_ble_eq_true rfl) (mW_nm2_f t he nr) ?_
      refine gd_if_eq_t 42 dX9_wantRule_35 (by decide) (by decide) ?_
      refine gd_ald0 dX9_wantRule_42 (by decide) ?_
      refine gd_ldc2 dX9_wantRule_43 l2_9_193 ?_
      refine gd_cV1i dX9_wantRule_46 ct_9_187 rc_72 ⟨Nat.le_of_ble_eq_true rfl, Nat.le_of_ble_eq_true rfl⟩ (Nat.le_of_ble_eq_true rfl) (Nat.le_of_ble_eq_true rfl) (mW_nm4_t t he nf) ?_
      refine gd_if_eq_f 56 dX9_wantRule_49 (by decide) (by decide) ?_
      refine gd_ic2 dX9_wantRule_52 ?_
      refine gd_goto 71 dX9_wantRule_53 (by decide) ?_
      refine gd_ist3 dX9_wantRule_71 rfl ?_
      refine gd_ald0 dX9_wantRule_72 (by decide) ?_
      refine gd_ild3 dX9_wantRule_73 ?_
      refine gd_if_lt_f 87 dX9_wantRule_74 (by decide) (by decide) ?_
      refine gd_ild1 dX9_wantRule_77 ?_
      refine gd_bipush (v := nI 6) dX9_wantRule_78 (by decide) ?_
      refine gd_icmp_ge_f 87 dX9_wantRule_80 (by decide) (by exact nI_ge (by omega) (by omega)) ?_
      refine gd_ic1 dX9_wantRule_83 ?_
      refine gd_goto 88 dX9_wantRule_84 (by decide) ?_
      refine gd_cV1v dX9_wantRule_88 ct_9_181 rc_72 ⟨Nat.le_of_ble_eq_true rfl, Nat.le_of_ble_eq_true rfl⟩ (Nat.le_of_ble_eq_true rfl) (Nat.le_of_ble_eq_true rfl) (mW_want_n t he) ?_
      refine gd_ald0 dX9_wantRule_91 (by decide) ?_
      refine gd_getI dX9_wantRule_92 fl_9_175 rfl rfl ?_
      rw [hW_19]
      refine gd_if_lt_t 99 dX9_wantRule_95 (by decide) (by decide) ?_
      refine gd_ild3 dX9_wantRule_99 ?_
      refine gd_ic2 dX9_wantRule_100 ?_
      refine gd_icmp_ne_f 108 dX9_wantRule_101 (by decide) (by decide) ?_
      refine gd_ic0 dX9_wantRule_104 ?_
      refine gd_goto 132 dX9_wantRule_105 (by decide) ?_
      refine gd_ist4 dX9_wantRule_132 rfl ?_
      refine gd_ild3 dX9_wantRule_134 ?_
      refine gd_ic2 dX9_wantRule_135 ?_
      refine gd_icmp_eq_t 160 dX9_wantRule_136 (by decide) (by decide) ?_
      refine gd_ald0 dX9_wantRule_160 (by decide) ?_
      refine gd_ild3 dX9_wantRule_161 ?_
      refine gd_ic2 dX9_wantRule_162 ?_
      refine gd_icmp_ne_f 170 dX9_wantRule_163 (by decide) (by decide) ?_
      refine gd_ic1 dX9_wantRule_166 ?_
      refine gd_goto 171 dX9_wantRule_167 (by decide) ?_
      refine gd_ild3 dX9_wantRule_171 ?_
      refine gd_if_ne_t 180 dX9_wantRule_172 (by decide) (by decide) ?_
      refine gd_ild3 dX9_wantRule_180 ?_
      refine gd_ic1 dX9_wantRule_181 ?_
      refine gd_icmp_ne_t 190 dX9_wantRule_182 (by decide) (by decide) ?_
      refine gd_ild3 dX9_wantRule_190 ?_
      refine gd_ic2 dX9_wantRule_191 ?_
      refine gd_icmp_ne_f 200 dX9_wantRule_192 (by decide) (by decide) ?_
      refine gd_bipush (v := nI 20) dX9_wantRule_195 (by decide) ?_
      refine gd_goto 202 dX9_wantRule_197 (by decide) ?_
      refine gd_cV2i dX9_wantRule_202 ct_9_197 rc_72 ⟨Nat.le_of_ble_eq_true rfl, Nat.le_of_ble_eq_true rfl⟩ (Nat.le_of_ble_eq_true rfl) (Nat.le_of_ble_eq_true rfl) (mW_num_f t (mX_le t he) (by decide) (by decide) a1) ?_
      refine gd_ist5 dX9_wantRule_205 rfl ?_
      refine gd_ild5 dX9_wantRule_207 ?_
      refine gd_ist6 dX9_wantRule_209 rfl ?_
      refine gd_ild3 dX9_wantRule_211 ?_
      refine gd_if_ne_t 245 dX9_wantRule_212 (by decide) (by decide) ?_
      refine gd_ald0 dX9_wantRule_245 (by decide) ?_
      refine gd_getR (r := 80) dX9_wantRule_246 fl_9_31 rfl rfl rfl (by decide) ?_
      refine gd_ild2 dX9_wantRule_249 ?_
      refine gd_ild3 dX9_wantRule_250 ?_
      refine gd_iast (n := 192) dX9_wantRule_251 rfl (by decide) (by repeat' (first | with_reducible rfl | apply ni_add | apply ni_mul)) (by omega) ?_
      rw [hW_r, hW_80]
      refine gd_ald0 dX9_wantRule_252 (by decide) ?_
      refine gd_getR (r := 80) dX9_wantRule_253 fl_9_31 rfl rfl rfl (by decide) ?_
      refine gd_ild2 dX9_wantRule_256 ?_
      refine gd_ic1 dX9_wantRule_257 ?_
      refine gd_iadd dX9_wantRule_258 ?_
      refine gd_ild4 dX9_wantRule_259 ?_
      refine gd_iast (n := 192) dX9_wantRule_261 rfl (by decide) (by repeat' (first | with_reducible rfl | apply ni_add | apply ni_mul)) (by omega) ?_
      rw [hW_r, hW_80]
      refine gd_ald0 dX9_wantRule_262 (by decide) ?_
      refine gd_getR (r := 80) dX9_wantRule_263 fl_9_31 rfl rfl rfl (by decide) ?_
      refine gd_ild2 dX9_wantRule_266 ?_
      refine gd_ic2 dX9_wantRule_267 ?_
      refine gd_iadd dX9_wantRule_268 ?_
      refine gd_ild5 dX9_wantRule_269 ?_
      refine gd_iast (n := 192) dX9_wantRule_271 rfl (by decide) (by repeat' (first | with_reducible rfl | apply ni_add | apply ni_mul)) (by omega) ?_
      rw [hW_r, hW_80]
      refine gd_ald0 dX9_wantRule_272 (by decide) ?_
      refine gd_getR (r := 80) dX9_wantRule_273 fl_9_31 rfl rfl rfl (by decide) ?_
      refine gd_ild2 dX9_wantRule_276 ?_
      refine gd_ic3 dX9_wantRule_277 ?_
      refine gd_iadd dX9_wantRule_278 ?_
      refine gd_ild6 dX9_wantRule_279 ?_
      refine gd_iast (n := 192) dX9_wantRule_281 rfl (by decide) (by repeat' (first | with_reducible rfl | apply ni_add | apply ni_mul)) (by omega) ?_
      rw [hW_r, hW_80]
      refine gd_vret dX9_wantRule_282 rfl ?_
      rfl
    · exact up4_fr _ _ _ _ _ _
set_option maxHeartbeats 1000000 in
theorem ru_Fok {b : Nat → Nat} {N e : Nat} (hN : N ≤ 120) (he : e ≤ N) (nw : ¬ isNm b N e ch0 4) (nr : ¬ isNm b N e ch2 6) (nf : isNm b N e ch4 5) (a1 : nOk b N (tkX b N e) 1 20) : RuO b N e 2 0 (tkV b N (tkX b N e)) (tkV b N (tkX b N e)) (tkX b N (tkX b N e)) := by
  refine ⟨(tkX_ok hN (tkX_ok hN he).2.1).2.1, ⟨2, 0, (tkV b N (tkX b N e)), (tkV b N (tkX b N e)), rfl, rfl, rfl, rfl, Nat.le_refl _, Or.inr (Or.inr (Or.inl ⟨rfl, rfl, a1.2.1, a1.2.2⟩))⟩, fun h K L G r t hr => ?_, fun h R x k t hx hx8 hk => ?_⟩
  · apply Exists.intro
    apply Exists.intro
    apply Exists.intro
    refine ⟨?_, ⟨?_, ?_, ?_⟩, ?_, ?_, ?_⟩
    · refine gd_ald0 dX5_readRule_0 (by decide) ?_
      refine gd_ldcS (j := 0) (by decide) rfl rfl dX5_readRule_1 ?_
      refine gd_cV1i dX5_readRule_3 ct_5_53 rc_51 ⟨Nat.le_of_ble_eq_true rfl, Nat.le_of_ble_eq_true rfl⟩ (Nat.le_of_ble_eq_true rfl) (Nat.le_of_ble_eq_true rfl) (cR_nm0_f t he nw) ?_
      refine gd_if_eq_t 44 dX5_readRule_6 (by decide) (by decide) ?_
      refine gd_ald0 dX5_readRule_44 (by decide) ?_
      refine gd_ldcS (j := 2) (by decide) rfl rfl dX5_readRule_45 ?_
      refine gd_cV1i dX5_readRule_47 ct_5_53 rc_51 ⟨Nat.le_of_ble_eq_true rfl, Nat.le_of_ble_eq_true rfl⟩ (Nat.le_of_ble_eq_true rfl) (Nat.le_of_ble_eq_true rfl) (cR_nm2_f t he nr) ?_
      refine gd_if_eq_t 89 dX5_readRule_50 (by decide) (by decide) ?_
      refine gd_ald0 dX5_readRule_89 (by decide) ?_
      refine gd_ldcS (j := 4) (by decide) rfl rfl dX5_readRule_90 ?_
      refine gd_cV1i dX5_readRule_92 ct_5_53 rc_51 ⟨Nat.le_of_ble_eq_true rfl, Nat.le_of_ble_eq_true rfl⟩ (Nat.le_of_ble_eq_true rfl) (Nat.le_of_ble_eq_true rfl) (cR_nm4_t t he nf) ?_
      refine gd_if_eq_f 114 dX5_readRule_95 (by decide) (by decide) ?_
      refine gd_ald0 dX5_readRule_98 (by decide) ?_
      refine gd_getR (r := 53) dX5_readRule_99 fl_5_19 rfl rfl rfl (by decide) ?_
      refine gd_ild1 dX5_readRule_102 ?_
      refine gd_ic4 dX5_readRule_103 ?_
      refine gd_iast (n := 6) dX5_readRule_104 rfl (by decide) (by repeat' (first | with_reducible rfl | apply ni_add | apply ni_mul)) (by omega) ?_
      rw [hR_r3, hR_53]
      refine gd_ald0 dX5_readRule_105 (by decide) ?_
      refine gd_ild1 dX5_readRule_106 ?_
      refine gd_ic1 dX5_readRule_107 ?_
      refine gd_bipush (v := nI 20) dX5_readRule_108 (by decide) ?_
      refine gd_cV3i dX5_readRule_110 ct_5_70 rc_51 ⟨Nat.le_of_ble_eq_true rfl, Nat.le_of_ble_eq_true rfl⟩ (Nat.le_of_ble_eq_true rfl) (Nat.le_of_ble_eq_true rfl) (cR_val_t t (tX_le t he) hr (by decide) (by decide) a1) ?_
      refine gd_iret dX5_readRule_113 rfl (by first | rfl | decide | exact nar_bi _ | assumption) ?_
      rfl
    · intro j hj; first | rfl | simp only [upd_at, if_neg hj]
    · intro j hj; first | rfl | simp only [upd_at, if_neg hj]
    · intro j hj; first | rfl | simp only [upd_at, if_neg hj]
    · rw [upd_at, if_pos rfl]; unfold keyI; rw [if_neg (by decide), if_neg (by decide), if_pos rfl]
    · rw [upd_at, if_pos rfl]
    · rw [upd_at, if_pos rfl]
  · apply Exists.intro
    refine ⟨?_, ?_, ?_, ?_, ?_, ?_⟩
    · refine gd_ic4 dX9_wantRule_0 ?_
      refine gd_bipush (v := nI 6) dX9_wantRule_1 (by decide) ?_
      refine gd_ald0 dX9_wantRule_3 (by decide) ?_
      refine gd_getR (r := 74) dX9_wantRule_4 fl_9_13 rfl rfl rfl (by decide) ?_
      refine gd_ic2 dX9_wantRule_7 ?_
      refine gd_iald (n := 5) dX9_wantRule_8 rfl (by decide) (by repeat' (first | with_reducible rfl | apply ni_add | apply ni_mul)) (by omega) ?_
      rw [show (hW h b N e (-1) R).1 74 2 = nI x from hx]
      refine gd_imul dX9_wantRule_9 ?_
      refine gd_ild1 dX9_wantRule_10 ?_
      refine gd_iadd dX9_wantRule_11 ?_
      refine gd_imul dX9_wantRule_12 ?_
      rw [pk_mul, nI_add, pk_mul]
      refine gd_ist2 dX9_wantRule_13 rfl ?_
      refine gd_ald0 dX9_wantRule_14 (by decide) ?_
      refine gd_ldc2 dX9_wantRule_15 l2_9_185 ?_
      refine gd_cV1i dX9_wantRule_18 ct_9_187 rc_72 ⟨Nat.le_of_ble_eq_true rfl, Nat.le_of_ble_eq_true rfl⟩ (Nat.le_of_ble_eq_true rfl) (Nat.le_of_ble_eq_true rfl) (mW_nm0_f t he nw) ?_
      refine gd_if_eq_t 28 dX9_wantRule_21 (by decide) (by decide) ?_
      refine gd_ald0 dX9_wantRule_28 (by decide) ?_
      refine gd_ldc2 dX9_wantRule_29 l2_9_191 ?_
      refine gd_cV1i dX9_wantRule_32 ct_9_187 rc_72 ⟨Nat.le_of_ble_eq_true rfl, Nat.le_of_ble_eq_true rfl⟩ (Nat.le_of_ble_eq_true rfl) (Nat.le_of_ble_eq_true rfl) (mW_nm2_f t he nr) ?_
      refine gd_if_eq_t 42 dX9_wantRule_35 (by decide) (by decide) ?_
      refine gd_ald0 dX9_wantRule_42 (by decide) ?_
      refine gd_ldc2 dX9_wantRule_43 l2_9_193 ?_
      refine gd_cV1i dX9_wantRule_46 ct_9_187 rc_72 ⟨Nat.le_of_ble_eq_true rfl, Nat.le_of_ble_eq_true rfl⟩ (Nat.le_of_ble_eq_true rfl) (Nat.le_of_ble_eq_true rfl) (mW_nm4_t t he nf) ?_
      refine gd_if_eq_f 56 dX9_wantRule_49 (by decide) (by decide) ?_
      refine gd_ic2 dX9_wantRule_52 ?_
      refine gd_goto 71 dX9_wantRule_53 (by decide) ?_
      refine gd_ist3 dX9_wantRule_71 rfl ?_
      refine gd_ald0 dX9_wantRule_72 (by decide) ?_
      refine gd_ild3 dX9_wantRule_73 ?_
      refine gd_if_lt_f 87 dX9_wantRule_74 (by decide) (by decide) ?_
      refine gd_ild1 dX9_wantRule_77 ?_
      refine gd_bipush (v := nI 6) dX9_wantRule_78 (by decide) ?_
      refine gd_icmp_ge_f 87 dX9_wantRule_80 (by decide) (by exact nI_ge (by omega) (by omega)) ?_
      refine gd_ic1 dX9_wantRule_83 ?_
      refine gd_goto 88 dX9_wantRule_84 (by decide) ?_
      refine gd_cV1v dX9_wantRule_88 ct_9_181 rc_72 ⟨Nat.le_of_ble_eq_true rfl, Nat.le_of_ble_eq_true rfl⟩ (Nat.le_of_ble_eq_true rfl) (Nat.le_of_ble_eq_true rfl) (mW_want_n t he) ?_
      refine gd_ald0 dX9_wantRule_91 (by decide) ?_
      refine gd_getI dX9_wantRule_92 fl_9_175 rfl rfl ?_
      rw [hW_19]
      refine gd_if_lt_t 99 dX9_wantRule_95 (by decide) (by decide) ?_
      refine gd_ild3 dX9_wantRule_99 ?_
      refine gd_ic2 dX9_wantRule_100 ?_
      refine gd_icmp_ne_f 108 dX9_wantRule_101 (by decide) (by decide) ?_
      refine gd_ic0 dX9_wantRule_104 ?_
      refine gd_goto 132 dX9_wantRule_105 (by decide) ?_
      refine gd_ist4 dX9_wantRule_132 rfl ?_
      refine gd_ild3 dX9_wantRule_134 ?_
      refine gd_ic2 dX9_wantRule_135 ?_
      refine gd_icmp_eq_t 160 dX9_wantRule_136 (by decide) (by decide) ?_
      refine gd_ald0 dX9_wantRule_160 (by decide) ?_
      refine gd_ild3 dX9_wantRule_161 ?_
      refine gd_ic2 dX9_wantRule_162 ?_
      refine gd_icmp_ne_f 170 dX9_wantRule_163 (by decide) (by decide) ?_
      refine gd_ic1 dX9_wantRule_166 ?_
      refine gd_goto 171 dX9_wantRule_167 (by decide) ?_
      refine gd_ild3 dX9_wantRule_171 ?_
      refine gd_if_ne_t 180 dX9_wantRule_172 (by decide) (by decide) ?_
      refine gd_ild3 dX9_wantRule_180 ?_
      refine gd_ic1 dX9_wantRule_181 ?_
      refine gd_icmp_ne_t 190 dX9_wantRule_182 (by decide) (by decide) ?_
      refine gd_ild3 dX9_wantRule_190 ?_
      refine gd_ic2 dX9_wantRule_191 ?_
      refine gd_icmp_ne_f 200 dX9_wantRule_192 (by decide) (by decide) ?_
      refine gd_bipush (v := nI 20) dX9_wantRule_195 (by decide) ?_
      refine gd_goto 202 dX9_wantRule_197 (by decide) ?_
      refine gd_cV2i dX9_wantRule_202 ct_9_197 rc_72 ⟨Nat.le_of_ble_eq_true rfl, Nat.le_of_ble_eq_true rfl⟩ (Nat.le_of_ble_eq_true rfl) (Nat.le_of_ble_eq_true rfl) (mW_num_t t (mX_le t he) (by decide) a1) ?_
      refine gd_ist5 dX9_wantRule_205 rfl ?_
      refine gd_ild5 dX9_wantRule_207 ?_
      refine gd_ist6 dX9_wantRule_209 rfl ?_
      refine gd_ild3 dX9_wantRule_211 ?_
      refine gd_if_ne_t 245 dX9_wantRule_212 (by decide) (by decide) ?_
      refine gd_ald0 dX9_wantRule_245 (by decide) ?_
      refine gd_getR (r := 80) dX9_wantRule_246 fl_9_31 rfl rfl rfl (by decide) ?_
      refine gd_ild2 dX9_wantRule_249 ?_
      refine gd_ild3 dX9_wantRule_250 ?_
      refine gd_iast (n := 192) dX9_wantRule_251 rfl (by decide) (by repeat' (first | with_reducible rfl | apply ni_add | apply ni_mul)) (by omega) ?_
      rw [hW_r, hW_80]
      refine gd_ald0 dX9_wantRule_252 (by decide) ?_
      refine gd_getR (r := 80) dX9_wantRule_253 fl_9_31 rfl rfl rfl (by decide) ?_
      refine gd_ild2 dX9_wantRule_256 ?_
      refine gd_ic1 dX9_wantRule_257 ?_
      refine gd_iadd dX9_wantRule_258 ?_
      refine gd_ild4 dX9_wantRule_259 ?_
      refine gd_iast (n := 192) dX9_wantRule_261 rfl (by decide) (by repeat' (first | with_reducible rfl | apply ni_add | apply ni_mul)) (by omega) ?_
      rw [hW_r, hW_80]
      refine gd_ald0 dX9_wantRule_262 (by decide) ?_
      refine gd_getR (r := 80) dX9_wantRule_263 fl_9_31 rfl rfl rfl (by decide) ?_
      refine gd_ild2 dX9_wantRule_266 ?_
      refine gd_ic2 dX9_wantRule_267 ?_
      refine gd_iadd dX9_wantRule_268 ?_
      refine gd_ild5 dX9_wantRule_269 ?_
      refine gd_iast (n := 192) dX9_wantRule_271 rfl (by decide) (by repeat' (first | with_reducible rfl | apply ni_add | apply ni_mul)) (by omega) ?_
      rw [hW_r, hW_80]
      refine gd_ald0 dX9_wantRule_272 (by decide) ?_
      refine gd_getR (r := 80) dX9_wantRule_273 fl_9_31 rfl rfl rfl (by decide) ?_
      refine gd_ild2 dX9_wantRule_276 ?_
      refine gd_ic3 dX9_wantRule_277 ?_
      refine gd_iadd dX9_wantRule_278 ?_
      refine gd_ild6 dX9_wantRule_279 ?_
      refine gd_iast (n := 192) dX9_wantRule_281 rfl (by decide) (by repeat' (first | with_reducible rfl | apply ni_add | apply ni_mul)) (by omega) ?_
      rw [hW_r, hW_80]
      refine gd_vret dX9_wantRule_282 rfl ?_
      rfl
    · exact up4_fr _ _ _ _ _ _
    · exact up4_0 _ _ _ _ _ _
    · exact up4_1 _ _ _ _ _ _
    · exact up4_2 _ _ _ _ _ _
    · exact up4_3 _ _ _ _ _ _
set_option maxHeartbeats 1000000 in
theorem ru_G1 {b : Nat → Nat} {N e : Nat} (hN : N ≤ 120) (he : e ≤ N) (nw : ¬ isNm b N e ch0 4) (nr : ¬ isNm b N e ch2 6) (nf : ¬ isNm b N e ch4 5) (ng : isNm b N e ch5 6) (a1 : ¬ nOk b N (tkX b N e) 0 2) : RuF b N e (tkX b N e) := by
  refine ⟨(tkX_ok hN he).2.1, fun h K L G r t hr => ?_, fun h R x k t hx hx8 hk => ?_⟩
  · apply Exists.intro
    apply Exists.intro
    apply Exists.intro
    refine ⟨?_, ?_, ?_, ?_⟩
    · refine gd_ald0 dX5_readRule_0 (by decide) ?_
      refine gd_ldcS (j := 0) (by decide) rfl rfl dX5_readRule_1 ?_
      refine gd_cV1i dX5_readRule_3 ct_5_53 rc_51 ⟨Nat.le_of_ble_eq_true rfl, Nat.le_of_ble_eq_true rfl⟩ (Nat.le_of_ble_eq_true rfl) (Nat.le_of_ble_eq_true rfl) (cR_nm0_f t he nw) ?_
      refine gd_if_eq_t 44 dX5_readRule_6 (by decide) (by decide) ?_
      refine gd_ald0 dX5_readRule_44 (by decide) ?_
      refine gd_ldcS (j := 2) (by decide) rfl rfl dX5_readRule_45 ?_
      refine gd_cV1i dX5_readRule_47 ct_5_53 rc_51 ⟨Nat.le_of_ble_eq_true rfl, Nat.le_of_ble_eq_true rfl⟩ (Nat.le_of_ble_eq_true rfl) (Nat.le_of_ble_eq_true rfl) (cR_nm2_f t he nr) ?_
      refine gd_if_eq_t 89 dX5_readRule_50 (by decide) (by decide) ?_
      refine gd_ald0 dX5_readRule_89 (by decide) ?_
      refine gd_ldcS (j := 4) (by decide) rfl rfl dX5_readRule_90 ?_
      refine gd_cV1i dX5_readRule_92 ct_5_53 rc_51 ⟨Nat.le_of_ble_eq_true rfl, Nat.le_of_ble_eq_true rfl⟩ (Nat.le_of_ble_eq_true rfl) (Nat.le_of_ble_eq_true rfl) (cR_nm4_f t he nf) ?_
      refine gd_if_eq_t 114 dX5_readRule_95 (by decide) (by decide) ?_
      refine gd_ald0 dX5_readRule_114 (by decide) ?_
      refine gd_ldcS (j := 5) (by decide) rfl rfl dX5_readRule_115 ?_
      refine gd_cV1i dX5_readRule_117 ct_5_53 rc_51 ⟨Nat.le_of_ble_eq_true rfl, Nat.le_of_ble_eq_true rfl⟩ (Nat.le_of_ble_eq_true rfl) (Nat.le_of_ble_eq_true rfl) (cR_nm5_t t he ng) ?_
      refine gd_if_eq_f 159 dX5_readRule_120 (by decide) (by decide) ?_
      refine gd_ald0 dX5_readRule_123 (by decide) ?_
      refine gd_ild1 dX5_readRule_124 ?_
      refine gd_ic5 dX5_readRule_125 ?_
      refine gd_ic2 dX5_readRule_126 ?_
      refine gd_cV3i dX5_readRule_127 ct_5_57 rc_51 ⟨Nat.le_of_ble_eq_true rfl, Nat.le_of_ble_eq_true rfl⟩ (Nat.le_of_ble_eq_true rfl) (Nat.le_of_ble_eq_true rfl) (cR_abt_f t (tX_le t he) hr (by decide) a1) ?_
      refine gd_if_eq_t 157 dX5_readRule_130 (by decide) (by decide) ?_
      refine gd_ic0 dX5_readRule_157 ?_
      refine gd_iret dX5_readRule_158 rfl (by first | rfl | decide | exact nar_bi _ | assumption) ?_
      rfl
    · intro j hj; first | rfl | simp only [upd_at, if_neg hj]
    · intro j hj; first | rfl | simp only [upd_at, if_neg hj]
    · intro j hj; first | rfl | simp only [upd_at, if_neg hj]
  · apply Exists.intro
    refine ⟨?_, ?_⟩
    · refine gd_ic4 dX9_wantRule_0 ?_
      refine gd_bipush (v := nI 6) dX9_wantRule_1 (by decide) ?_
      refine gd_ald0 dX9_wantRule_3 (by decide) ?_
      refine gd_getR (r := 74) dX9_wantRule_4 fl_9_13 rfl rfl rfl (by decide) ?_
      refine gd_ic2 dX9_wantRule_7 ?_
      refine gd_iald (n := 5) dX9_wantRule_8 rfl (by decide) (by repeat' (first | with_reducible rfl | apply ni_add | apply ni_mul)) (by omega) ?_
      rw [show (hW h b N e (-1) R).1 74 2 = nI x from hx]
      refine gd_imul dX9_wantRule_9 ?_
      refine gd_ild1 dX9_wantRule_10 ?_
      refine gd_iadd dX9_wantRule_11 ?_
      refine gd_imul dX9_wantRule_12 ?_
      rw [pk_mul, nI_add, pk_mul]
      refine gd_ist2 dX9_wantRule_13 rfl ?_
      refine gd_ald0 dX9_wantRule_14 (by decide) ?_
      refine gd_ldc2 dX9_wantRule_15 l2_9_185 ?_
      refine gd_cV1i dX9_wantRule_18 ct_9_187 rc_72 ⟨Nat.le_of_ble_eq_true rfl, Nat.le_of_ble_eq_true rfl⟩ (Nat.le_of_ble_eq_true rfl) (Nat.le_of_ble_eq_true rfl) (mW_nm0_f t he nw) ?_
      refine gd_if_eq_t 28 dX9_wantRule_21 (by decide) (by decide) ?_
      refine gd_ald0 dX9_wantRule_28 (by decide) ?_
      refine gd_ldc2 dX9_wantRule_29 l2_9_191 ?_
      refine gd_cV1i dX9_wantRule_32 ct_9_187 rc_72 ⟨Nat.le_of_ble_eq_true rfl, Nat.le_of_ble_eq_true rfl⟩ (Nat.le_of_ble_eq_true rfl) (Nat.le_of_ble_eq_true rfl) (mW_nm2_f t he nr) ?_
      refine gd_if_eq_t 42 dX9_wantRule_35 (by decide) (by decide) ?_
      refine gd_ald0 dX9_wantRule_42 (by decide) ?_
      refine gd_ldc2 dX9_wantRule_43 l2_9_193 ?_
      refine gd_cV1i dX9_wantRule_46 ct_9_187 rc_72 ⟨Nat.le_of_ble_eq_true rfl, Nat.le_of_ble_eq_true rfl⟩ (Nat.le_of_ble_eq_true rfl) (Nat.le_of_ble_eq_true rfl) (mW_nm4_f t he nf) ?_
      refine gd_if_eq_t 56 dX9_wantRule_49 (by decide) (by decide) ?_
      refine gd_ald0 dX9_wantRule_56 (by decide) ?_
      refine gd_ldc2 dX9_wantRule_57 l2_9_195 ?_
      refine gd_cV1i dX9_wantRule_60 ct_9_187 rc_72 ⟨Nat.le_of_ble_eq_true rfl, Nat.le_of_ble_eq_true rfl⟩ (Nat.le_of_ble_eq_true rfl) (Nat.le_of_ble_eq_true rfl) (mW_nm5_t t he ng) ?_
      refine gd_if_eq_f 70 dX9_wantRule_63 (by decide) (by decide) ?_
      refine gd_ic3 dX9_wantRule_66 ?_
      refine gd_goto 71 dX9_wantRule_67 (by decide) ?_
      refine gd_ist3 dX9_wantRule_71 rfl ?_
      refine gd_ald0 dX9_wantRule_72 (by decide) ?_
      refine gd_ild3 dX9_wantRule_73 ?_
      refine gd_if_lt_f 87 dX9_wantRule_74 (by decide) (by decide) ?_
      refine gd_ild1 dX9_wantRule_77 ?_
      refine gd_bipush (v := nI 6) dX9_wantRule_78 (by decide) ?_
      refine gd_icmp_ge_f 87 dX9_wantRule_80 (by decide) (by exact nI_ge (by omega) (by omega)) ?_
      refine gd_ic1 dX9_wantRule_83 ?_
      refine gd_goto 88 dX9_wantRule_84 (by decide) ?_
      refine gd_cV1v dX9_wantRule_88 ct_9_181 rc_72 ⟨Nat.le_of_ble_eq_true rfl, Nat.le_of_ble_eq_true rfl⟩ (Nat.le_of_ble_eq_true rfl) (Nat.le_of_ble_eq_true rfl) (mW_want_n t he) ?_
      refine gd_ald0 dX9_wantRule_91 (by decide) ?_
      refine gd_getI dX9_wantRule_92 fl_9_175 rfl rfl ?_
      rw [hW_19]
      refine gd_if_lt_t 99 dX9_wantRule_95 (by decide) (by decide) ?_
      refine gd_ild3 dX9_wantRule_99 ?_
      refine gd_ic2 dX9_wantRule_100 ?_
      refine gd_icmp_ne_t 108 dX9_wantRule_101 (by decide) (by decide) ?_
      refine gd_ald0 dX9_wantRule_108 (by decide) ?_
      refine gd_ic0 dX9_wantRule_109 ?_
      refine gd_ild3 dX9_wantRule_110 ?_
      refine gd_if_ne_t 119 dX9_wantRule_111 (by decide) (by decide) ?_
      refine gd_ild3 dX9_wantRule_119 ?_
      refine gd_ic1 dX9_wantRule_120 ?_
      refine gd_icmp_ne_t 128 dX9_wantRule_121 (by decide) (by decide) ?_
      refine gd_ic2 dX9_wantRule_128 ?_
      refine gd_cV2i dX9_wantRule_129 ct_9_197 rc_72 ⟨Nat.le_of_ble_eq_true rfl, Nat.le_of_ble_eq_true rfl⟩ (Nat.le_of_ble_eq_true rfl) (Nat.le_of_ble_eq_true rfl) (mW_num_f t (mX_le t he) (by decide) (by decide) a1) ?_
      refine gd_ist4 dX9_wantRule_132 rfl ?_
      refine gd_ild3 dX9_wantRule_134 ?_
      refine gd_ic2 dX9_wantRule_135 ?_
      refine gd_icmp_eq_f 160 dX9_wantRule_136 (by decide) (by decide) ?_
      refine gd_ald0 dX9_wantRule_139 (by decide) ?_
      refine gd_ald0 dX9_wantRule_140 (by decide) ?_
      refine gd_ild3 dX9_wantRule_141 ?_
      refine gd_if_ne_t 151 dX9_wantRule_142 (by decide) (by decide) ?_
      refine gd_ldc2 dX9_wantRule_151 l2_9_202 ?_
      refine gd_cV1i dX9_wantRule_154 ct_9_187 rc_72 ⟨Nat.le_of_ble_eq_true rfl, Nat.le_of_ble_eq_true rfl⟩ (Nat.le_of_ble_eq_true rfl) (Nat.le_of_ble_eq_true rfl) (m_isName (hW_mt t (mX_le t he)) _) ?_
      refine gd_cV1v dX9_wantRule_157 ct_9_181 rc_72 ⟨Nat.le_of_ble_eq_true rfl, Nat.le_of_ble_eq_true rfl⟩ (Nat.le_of_ble_eq_true rfl) (Nat.le_of_ble_eq_true rfl) (mW_want_d (mS_le t (mX_le t he)) _) ?_
      refine gd_ald0 dX9_wantRule_160 (by decide) ?_
      refine gd_ild3 dX9_wantRule_161 ?_
      refine gd_ic2 dX9_wantRule_162 ?_
      refine gd_icmp_ne_t 170 dX9_wantRule_163 (by decide) (by decide) ?_
      refine gd_ic0 dX9_wantRule_170 ?_
      refine gd_ild3 dX9_wantRule_171 ?_
      refine gd_if_ne_t 180 dX9_wantRule_172 (by decide) (by decide) ?_
      refine gd_ild3 dX9_wantRule_180 ?_
      refine gd_ic1 dX9_wantRule_181 ?_
      refine gd_icmp_ne_t 190 dX9_wantRule_182 (by decide) (by decide) ?_
      refine gd_ild3 dX9_wantRule_190 ?_
      refine gd_ic2 dX9_wantRule_191 ?_
      refine gd_icmp_ne_t 200 dX9_wantRule_192 (by decide) (by decide) ?_
      refine gd_bipush (v := nI 9) dX9_wantRule_200 (by decide) ?_
      refine gd_cV2i dX9_wantRule_202 ct_9_197 rc_72 ⟨Nat.le_of_ble_eq_true rfl, Nat.le_of_ble_eq_true rfl⟩ (Nat.le_of_ble_eq_true rfl) (Nat.le_of_ble_eq_true rfl) (mW_num_d (mS_le t (mX_le t he)) _ _) ?_
      refine gd_ist5 dX9_wantRule_205 rfl ?_
      refine gd_ild5 dX9_wantRule_207 ?_
      refine gd_ist6 dX9_wantRule_209 rfl ?_
      refine gd_ild3 dX9_wantRule_211 ?_
      refine gd_if_ne_t 245 dX9_wantRule_212 (by decide) (by decide) ?_
      refine gd_ald0 dX9_wantRule_245 (by decide) ?_
      refine gd_getR (r := 80) dX9_wantRule_246 fl_9_31 rfl rfl rfl (by decide) ?_
      refine gd_ild2 dX9_wantRule_249 ?_
      refine gd_ild3 dX9_wantRule_250 ?_
      refine gd_iast (n := 192) dX9_wantRule_251 rfl (by decide) (by repeat' (first | with_reducible rfl | apply ni_add | apply ni_mul)) (by omega) ?_
      rw [hW_r, hW_80]
      refine gd_ald0 dX9_wantRule_252 (by decide) ?_
      refine gd_getR (r := 80) dX9_wantRule_253 fl_9_31 rfl rfl rfl (by decide) ?_
      refine gd_ild2 dX9_wantRule_256 ?_
      refine gd_ic1 dX9_wantRule_257 ?_
      refine gd_iadd dX9_wantRule_258 ?_
      refine gd_ild4 dX9_wantRule_259 ?_
      refine gd_iast (n := 192) dX9_wantRule_261 rfl (by decide) (by repeat' (first | with_reducible rfl | apply ni_add | apply ni_mul)) (by omega) ?_
      rw [hW_r, hW_80]
      refine gd_ald0 dX9_wantRule_262 (by decide) ?_
      refine gd_getR (r := 80) dX9_wantRule_263 fl_9_31 rfl rfl rfl (by decide) ?_
      refine gd_ild2 dX9_wantRule_266 ?_
      refine gd_ic2 dX9_wantRule_267 ?_
      refine gd_iadd dX9_wantRule_268 ?_
      refine gd_ild5 dX9_wantRule_269 ?_
      refine gd_iast (n := 192) dX9_wantRule_271 rfl (by decide) (by repeat' (first | with_reducible rfl | apply ni_add | apply ni_mul)) (by omega) ?_
      rw [hW_r, hW_80]
      refine gd_ald0 dX9_wantRule_272 (by decide) ?_
      refine gd_getR (r := 80) dX9_wantRule_273 fl_9_31 rfl rfl rfl (by decide) ?_
      refine gd_ild2 dX9_wantRule_276 ?_
      refine gd_ic3 dX9_wantRule_277 ?_
      refine gd_iadd dX9_wantRule_278 ?_
      refine gd_ild6 dX9_wantRule_279 ?_
      refine gd_iast (n := 192) dX9_wantRule_281 rfl (by decide) (by repeat' (first | with_reducible rfl | apply ni_add | apply ni_mul)) (by omega) ?_
      rw [hW_r, hW_80]
      refine gd_vret dX9_wantRule_282 rfl ?_
      rfl
    · exact up4_fr _ _ _ _ _ _
set_option maxHeartbeats 1000000 in
theorem ru_G2 {b : Nat → Nat} {N e : Nat} (hN : N ≤ 120) (he : e ≤ N) (nw : ¬ isNm b N e ch0 4) (nr : ¬ isNm b N e ch2 6) (nf : ¬ isNm b N e ch4 5) (ng : isNm b N e ch5 6) (a1 : nOk b N (tkX b N e) 0 2) (a2 : ¬ isNm b N (tkX b N (tkX b N e)) ch3 4) : RuF b N e (tkX b N (tkX b N e)) := by
  refine ⟨(tkX_ok hN (tkX_ok hN he).2.1).2.1, fun h K L G r t hr => ?_, fun h R x k t hx hx8 hk => ?_⟩
  · apply Exists.intro
    apply Exists.intro
    apply Exists.intro
    refine ⟨?_, ?_, ?_, ?_⟩
    · refine gd_ald0 dX5_readRule_0 (by decide) ?_
      refine gd_ldcS (j := 0) (by decide) rfl rfl dX5_readRule_1 ?_
      refine gd_cV1i dX5_readRule_3 ct_5_53 rc_51 ⟨Nat.le_of_ble_eq_true rfl, Nat.le_of_ble_eq_true rfl⟩ (Nat.le_of_ble_eq_true rfl) (Nat.le_of_ble_eq_true rfl) (cR_nm0_f t he nw) ?_
      refine gd_if_eq_t 44 dX5_readRule_6 (by decide) (by decide) ?_
      refine gd_ald0 dX5_readRule_44 (by decide) ?_
      refine gd_ldcS (j := 2) (by decide) rfl rfl dX5_readRule_45 ?_
      refine gd_cV1i dX5_readRule_47 ct_5_53 rc_51 ⟨Nat.le_of_ble_eq_true rfl, Nat.le_of_ble_eq_true rfl⟩ (Nat.le_of_ble_eq_true rfl) (Nat.le_of_ble_eq_true rfl) (cR_nm2_f t he nr) ?_
      refine gd_if_eq_t 89 dX5_readRule_50 (by decide) (by decide) ?_
      refine gd_ald0 dX5_readRule_89 (by decide) ?_
      refine gd_ldcS (j := 4) (by decide) rfl rfl dX5_readRule_90 ?_
      refine gd_cV1i dX5_readRule_92 ct_5_53 rc_51 ⟨Nat.le_of_ble_eq_true rfl, Nat.le_of_ble_eq_true rfl⟩ (Nat.le_of_ble_eq_true rfl) (Nat.le_of_ble_eq_true rfl) (cR_nm4_f t he nf) ?_
      refine gd_if_eq_t 114 dX5_readRule_95 (by decide) (by decide) ?_
      refine gd_ald0 dX5_readRule_114 (by decide) ?_
      refine gd_ldcS (j := 5) (by decide) rfl rfl dX5_readRule_115 ?_
      refine gd_cV1i dX5_readRule_117 ct_5_53 rc_51 ⟨Nat.le_of_ble_eq_true rfl, Nat.le_of_ble_eq_true rfl⟩ (Nat.le_of_ble_eq_true rfl) (Nat.le_of_ble_eq_true rfl) (cR_nm5_t t he ng) ?_
      refine gd_if_eq_f 159 dX5_readRule_120 (by decide) (by decide) ?_
      refine gd_ald0 dX5_readRule_123 (by decide) ?_
      refine gd_ild1 dX5_readRule_124 ?_
      refine gd_ic5 dX5_readRule_125 ?_
      refine gd_ic2 dX5_readRule_126 ?_
      refine gd_cV3i dX5_readRule_127 ct_5_57 rc_51 ⟨Nat.le_of_ble_eq_true rfl, Nat.le_of_ble_eq_true rfl⟩ (Nat.le_of_ble_eq_true rfl) (Nat.le_of_ble_eq_true rfl) (cR_abt_t t (tX_le t he) hr (by decide) a1) ?_
      refine gd_if_eq_f 157 dX5_readRule_130 (by decide) (by decide) ?_
      refine gd_ald0 dX5_readRule_133 (by decide) ?_
      refine gd_ldcS (j := 3) (by decide) rfl rfl dX5_readRule_134 ?_
      refine gd_cV1i dX5_readRule_136 ct_5_53 rc_51 ⟨Nat.le_of_ble_eq_true rfl, Nat.le_of_ble_eq_true rfl⟩ (Nat.le_of_ble_eq_true rfl) (Nat.le_of_ble_eq_true rfl) (cR_nm3_f t (tX_le t (tX_le t he)) a2) ?_
      refine gd_if_eq_t 157 dX5_readRule_139 (by decide) (by decide) ?_
      refine gd_ic0 dX5_readRule_157 ?_
      refine gd_iret dX5_readRule_158 rfl (by first | rfl | decide | exact nar_bi _ | assumption) ?_
      rfl
    · intro j hj; first | rfl | simp only [upd_at, if_neg hj]
    · intro j hj; first | rfl | simp only [upd_at, if_neg hj]
    · intro j hj; first | rfl | simp only [upd_at, if_neg hj]
  · apply Exists.intro
    refine ⟨?_, ?_⟩
    · refine gd_ic4 dX9_wantRule_0 ?_
      refine gd_bipush (v := nI 6) dX9_wantRule_1 (by decide) ?_
      refine gd_ald0 dX9_wantRule_3 (by decide) ?_
      refine gd_getR (r := 74) dX9_wantRule_4 fl_9_13 rfl rfl rfl (by decide) ?_
      refine gd_ic2 dX9_wantRule_7 ?_
      refine gd_iald (n := 5) dX9_wantRule_8 rfl (by decide) (by repeat' (first | with_reducible rfl | apply ni_add | apply ni_mul)) (by omega) ?_
      rw [show (hW h b N e (-1) R).1 74 2 = nI x from hx]
      refine gd_imul dX9_wantRule_9 ?_
      refine gd_ild1 dX9_wantRule_10 ?_
      refine gd_iadd dX9_wantRule_11 ?_
      refine gd_imul dX9_wantRule_12 ?_
      rw [pk_mul, nI_add, pk_mul]
      refine gd_ist2 dX9_wantRule_13 rfl ?_
      refine gd_ald0 dX9_wantRule_14 (by decide) ?_
      refine gd_ldc2 dX9_wantRule_15 l2_9_185 ?_
      refine gd_cV1i dX9_wantRule_18 ct_9_187 rc_72 ⟨Nat.le_of_ble_eq_true rfl, Nat.le_of_ble_eq_true rfl⟩ (Nat.le_of_ble_eq_true rfl) (Nat.le_of_ble_eq_true rfl) (mW_nm0_f t he nw) ?_
      refine gd_if_eq_t 28 dX9_wantRule_21 (by decide) (by decide) ?_
      refine gd_ald0 dX9_wantRule_28 (by decide) ?_
      refine gd_ldc2 dX9_wantRule_29 l2_9_191 ?_
      refine gd_cV1i dX9_wantRule_32 ct_9_187 rc_72 ⟨Nat.le_of_ble_eq_true rfl, Nat.le_of_ble_eq_true rfl⟩ (Nat.le_of_ble_eq_true rfl) (Nat.le_of_ble_eq_true rfl) (mW_nm2_f t he nr) ?_
      refine gd_if_eq_t 42 dX9_wantRule_35 (by decide) (by decide) ?_
      refine gd_ald0 dX9_wantRule_42 (by decide) ?_
      refine gd_ldc2 dX9_wantRule_43 l2_9_193 ?_
      refine gd_cV1i dX9_wantRule_46 ct_9_187 rc_72 ⟨Nat.le_of_ble_eq_true rfl, Nat.le_of_ble_eq_true rfl⟩ (Nat.le_of_ble_eq_true rfl) (Nat.le_of_ble_eq_true rfl) (mW_nm4_f t he nf) ?_
      refine gd_if_eq_t 56 dX9_wantRule_49 (by decide) (by decide) ?_
      refine gd_ald0 dX9_wantRule_56 (by decide) ?_
      refine gd_ldc2 dX9_wantRule_57 l2_9_195 ?_
      refine gd_cV1i dX9_wantRule_60 ct_9_187 rc_72 ⟨Nat.le_of_ble_eq_true rfl, Nat.le_of_ble_eq_true rfl⟩ (Nat.le_of_ble_eq_true rfl) (Nat.le_of_ble_eq_true rfl) (mW_nm5_t t he ng) ?_
      refine gd_if_eq_f 70 dX9_wantRule_63 (by decide) (by decide) ?_
      refine gd_ic3 dX9_wantRule_66 ?_
      refine gd_goto 71 dX9_wantRule_67 (by decide) ?_
      refine gd_ist3 dX9_wantRule_71 rfl ?_
      refine gd_ald0 dX9_wantRule_72 (by decide) ?_
      refine gd_ild3 dX9_wantRule_73 ?_
      refine gd_if_lt_f 87 dX9_wantRule_74 (by decide) (by decide) ?_
      refine gd_ild1 dX9_wantRule_77 ?_
      refine gd_bipush (v := nI 6) dX9_wantRule_78 (by decide) ?_
      refine gd_icmp_ge_f 87 dX9_wantRule_80 (by decide) (by exact nI_ge (by omega) (by omega)) ?_
      refine gd_ic1 dX9_wantRule_83 ?_
      refine gd_goto 88 dX9_wantRule_84 (by decide) ?_
      refine gd_cV1v dX9_wantRule_88 ct_9_181 rc_72 ⟨Nat.le_of_ble_eq_true rfl, Nat.le_of_ble_eq_true rfl⟩ (Nat.le_of_ble_eq_true rfl) (Nat.le_of_ble_eq_true rfl) (mW_want_n t he) ?_
      refine gd_ald0 dX9_wantRule_91 (by decide) ?_
      refine gd_getI dX9_wantRule_92 fl_9_175 rfl rfl ?_
      rw [hW_19]
      refine gd_if_lt_t 99 dX9_wantRule_95 (by decide) (by decide) ?_
      refine gd_ild3 dX9_wantRule_99 ?_
      refine gd_ic2 dX9_wantRule_100 ?_
      refine gd_icmp_ne_t 108 dX9_wantRule_101 (by decide) (by decide) ?_
      refine gd_ald0 dX9_wantRule_108 (by decide) ?_
      refine gd_ic0 dX9_wantRule_109 ?_
      refine gd_ild3 dX9_wantRule_110 ?_
      refine gd_if_ne_t 119 dX9_wantRule_111 (by decide) (by decide) ?_
      refine gd_ild3 dX9_wantRule_119 ?_
      refine gd_ic1 dX9_wantRule_120 ?_
      refine gd_icmp_ne_t 128 dX9_wantRule_121 (by decide) (by decide) ?_
      refine gd_ic2 dX9_wantRule_128 ?_
      refine gd_cV2i dX9_wantRule_129 ct_9_197 rc_72 ⟨Nat.le_of_ble_eq_true rfl, Nat.le_of_ble_eq_true rfl⟩ (Nat.le_of_ble_eq_true rfl) (Nat.le_of_ble_eq_true rfl) (mW_num_t t (mX_le t he) (by decide) a1) ?_
      refine gd_ist4 dX9_wantRule_132 rfl ?_
      refine gd_ild3 dX9_wantRule_134 ?_
      refine gd_ic2 dX9_wantRule_135 ?_
      refine gd_icmp_eq_f 160 dX9_wantRule_136 (by decide) (by decide) ?_
      refine gd_ald0 dX9_wantRule_139 (by decide) ?_
      refine gd_ald0 dX9_wantRule_140 (by decide) ?_
      refine gd_ild3 dX9_wantRule_141 ?_
      refine gd_if_ne_t 151 dX9_wantRule_142 (by decide) (by decide) ?_
      refine gd_ldc2 dX9_wantRule_151 l2_9_202 ?_
      refine gd_cV1i dX9_wantRule_154 ct_9_187 rc_72 ⟨Nat.le_of_ble_eq_true rfl, Nat.le_of_ble_eq_true rfl⟩ (Nat.le_of_ble_eq_true rfl) (Nat.le_of_ble_eq_true rfl) (mW_nm3_f t (mX_le t (mX_le t he)) a2) ?_
      refine gd_cV1v dX9_wantRule_157 ct_9_181 rc_72 ⟨Nat.le_of_ble_eq_true rfl, Nat.le_of_ble_eq_true rfl⟩ (Nat.le_of_ble_eq_true rfl) (Nat.le_of_ble_eq_true rfl) (mW_want_f t (mX_le t (mX_le t he))) ?_
      refine gd_ald0 dX9_wantRule_160 (by decide) ?_
      refine gd_ild3 dX9_wantRule_161 ?_
      refine gd_ic2 dX9_wantRule_162 ?_
      refine gd_icmp_ne_t 170 dX9_wantRule_163 (by decide) (by decide) ?_
      refine gd_ic0 dX9_wantRule_170 ?_
      refine gd_ild3 dX9_wantRule_171 ?_
      refine gd_if_ne_t 180 dX9_wantRule_172 (by decide) (by decide) ?_
      refine gd_ild3 dX9_wantRule_180 ?_
      refine gd_ic1 dX9_wantRule_181 ?_
      refine gd_icmp_ne_t 190 dX9_wantRule_182 (by decide) (by decide) ?_
      refine gd_ild3 dX9_wantRule_190 ?_
      refine gd_ic2 dX9_wantRule_191 ?_
      refine gd_icmp_ne_t 200 dX9_wantRule_192 (by decide) (by decide) ?_
      refine gd_bipush (v := nI 9) dX9_wantRule_200 (by decide) ?_
      refine gd_cV2i dX9_wantRule_202 ct_9_197 rc_72 ⟨Nat.le_of_ble_eq_true rfl, Nat.le_of_ble_eq_true rfl⟩ (Nat.le_of_ble_eq_true rfl) (Nat.le_of_ble_eq_true rfl) (mW_num_d (mS_le t (mX_le t (mX_le t he))) _ _) ?_
      refine gd_ist5 dX9_wantRule_205 rfl ?_
      refine gd_ild5 dX9_wantRule_207 ?_
      refine gd_ist6 dX9_wantRule_209 rfl ?_
      refine gd_ild3 dX9_wantRule_211 ?_
      refine gd_if_ne_t 245 dX9_wantRule_212 (by decide) (by decide) ?_
      refine gd_ald0 dX9_wantRule_245 (by decide) ?_
      refine gd_getR (r := 80) dX9_wantRule_246 fl_9_31 rfl rfl rfl (by decide) ?_
      refine gd_ild2 dX9_wantRule_249 ?_
      refine gd_ild3 dX9_wantRule_250 ?_
      refine gd_iast (n := 192) dX9_wantRule_251 rfl (by decide) (by repeat' (first | with_reducible rfl | apply ni_add | apply ni_mul)) (by omega) ?_
      rw [hW_r, hW_80]
      refine gd_ald0 dX9_wantRule_252 (by decide) ?_
      refine gd_getR (r := 80) dX9_wantRule_253 fl_9_31 rfl rfl rfl (by decide) ?_
      refine gd_ild2 dX9_wantRule_256 ?_
      refine gd_ic1 dX9_wantRule_257 ?_
      refine gd_iadd dX9_wantRule_258 ?_
      refine gd_ild4 dX9_wantRule_259 ?_
      refine gd_iast (n := 192) dX9_wantRule_261 rfl (by decide) (by repeat' (first | with_reducible rfl | apply ni_add | apply ni_mul)) (by omega) ?_
      rw [hW_r, hW_80]
      refine gd_ald0 dX9_wantRule_262 (by decide) ?_
      refine gd_getR (r := 80) dX9_wantRule_263 fl_9_31 rfl rfl rfl (by decide) ?_
      refine gd_ild2 dX9_wantRule_266 ?_
      refine gd_ic2 dX9_wantRule_267 ?_
      refine gd_iadd dX9_wantRule_268 ?_
      refine gd_ild5 dX9_wantRule_269 ?_
      refine gd_iast (n := 192) dX9_wantRule_271 rfl (by decide) (by repeat' (first | with_reducible rfl | apply ni_add | apply ni_mul)) (by omega) ?_
      rw [hW_r, hW_80]
      refine gd_ald0 dX9_wantRule_272 (by decide) ?_
      refine gd_getR (r := 80) dX9_wantRule_273 fl_9_31 rfl rfl rfl (by decide) ?_
      refine gd_ild2 dX9_wantRule_276 ?_
      refine gd_ic3 dX9_wantRule_277 ?_
      refine gd_iadd dX9_wantRule_278 ?_
      refine gd_ild6 dX9_wantRule_279 ?_
      refine gd_iast (n := 192) dX9_wantRule_281 rfl (by decide) (by repeat' (first | with_reducible rfl | apply ni_add | apply ni_mul)) (by omega) ?_
      rw [hW_r, hW_80]
      refine gd_vret dX9_wantRule_282 rfl ?_
      rfl
    · exact up4_fr _ _ _ _ _ _
set_option maxHeartbeats 1000000 in
theorem ru_G3 {b : Nat → Nat} {N e : Nat} (hN : N ≤ 120) (he : e ≤ N) (nw : ¬ isNm b N e ch0 4) (nr : ¬ isNm b N e ch2 6) (nf : ¬ isNm b N e ch4 5) (ng : isNm b N e ch5 6) (a1 : nOk b N (tkX b N e) 0 2) (a2 : isNm b N (tkX b N (tkX b N e)) ch3 4) (a3 : ¬ nOk b N (tkX b N (tkX b N (tkX b N e))) 0 9) : RuF b N e (tkX b N (tkX b N (tkX b N e))) := by
  refine ⟨(tkX_ok hN (tkX_ok hN (tkX_ok hN he).2.1).2.1).2.1, fun h K L G r t hr => ?_, fun h R x k t hx hx8 hk => ?_⟩
  · apply Exists.intro
    apply Exists.intro
    apply Exists.intro
    refine ⟨?_, ?_, ?_, ?_⟩
    · refine gd_ald0 dX5_readRule_0 (by decide) ?_
      refine gd_ldcS (j := 0) (by decide) rfl rfl dX5_readRule_1 ?_
      refine gd_cV1i dX5_readRule_3 ct_5_53 rc_51 ⟨Nat.le_of_ble_eq_true rfl, Nat.le_of_ble_eq_true rfl⟩ (Nat.le_of_ble_eq_true rfl) (Nat.le_of_ble_eq_true rfl) (cR_nm0_f t he nw) ?_
      refine gd_if_eq_t 44 dX5_readRule_6 (by decide) (by decide) ?_
      refine gd_ald0 dX5_readRule_44 (by decide) ?_
      refine gd_ldcS (j := 2) (by decide) rfl rfl dX5_readRule_45 ?_
      refine gd_cV1i dX5_readRule_47 ct_5_53 rc_51 ⟨Nat.le_of_ble_eq_true rfl, Nat.le_of_ble_eq_true rfl⟩ (Nat.le_of_ble_eq_true rfl) (Nat.le_of_ble_eq_true rfl) (cR_nm2_f t he nr) ?_
      refine gd_if_eq_t 89 dX5_readRule_50 (by decide) (by decide) ?_
      refine gd_ald0 dX5_readRule_89 (by decide) ?_
      refine gd_ldcS (j := 4) (by decide) rfl rfl dX5_readRule_90 ?_
      refine gd_cV1i dX5_readRule_92 ct_5_53 rc_51 ⟨Nat.le_of_ble_eq_true rfl, Nat.le_of_ble_eq_true rfl⟩ (Nat.le_of_ble_eq_true rfl) (Nat.le_of_ble_eq_true rfl) (cR_nm4_f t he nf) ?_
      refine gd_if_eq_t 114 dX5_readRule_95 (by decide) (by decide) ?_
      refine gd_ald0 dX5_readRule_114 (by decide) ?_
      refine gd_ldcS (j := 5) (by decide) rfl rfl dX5_readRule_115 ?_
      refine gd_cV1i dX5_readRule_117 ct_5_53 rc_51 ⟨Nat.le_of_ble_eq_true rfl, Nat.le_of_ble_eq_true rfl⟩ (Nat.le_of_ble_eq_true rfl) (Nat.le_of_ble_eq_true rfl) (cR_nm5_t t he ng) ?_
      refine gd_if_eq_f 159 dX5_readRule_120 (by decide) (by decide) ?_
      refine gd_ald0 dX5_readRule_123 (by decide) ?_
      refine gd_ild1 dX5_readRule_124 ?_
      refine gd_ic5 dX5_readRule_125 ?_
      refine gd_ic2 dX5_readRule_126 ?_
      refine gd_cV3i dX5_readRule_127 ct_5_57 rc_51 ⟨Nat.le_of_ble_eq_true rfl, Nat.le_of_ble_eq_true rfl⟩ (Nat.le_of_ble_eq_true rfl) (Nat.le_of_ble_eq_true rfl) (cR_abt_t t (tX_le t he) hr (by decide) a1) ?_
      refine gd_if_eq_f 157 dX5_readRule_130 (by decide) (by decide) ?_
      refine gd_ald0 dX5_readRule_133 (by decide) ?_
      refine gd_ldcS (j := 3) (by decide) rfl rfl dX5_readRule_134 ?_
      refine gd_cV1i dX5_readRule_136 ct_5_53 rc_51 ⟨Nat.le_of_ble_eq_true rfl, Nat.le_of_ble_eq_true rfl⟩ (Nat.le_of_ble_eq_true rfl) (Nat.le_of_ble_eq_true rfl) (cR_nm3_t t (tX_le t (tX_le t he)) a2) ?_
      refine gd_if_eq_f 157 dX5_readRule_139 (by decide) (by decide) ?_
      refine gd_ald0 dX5_readRule_142 (by decide) ?_
      refine gd_ild1 dX5_readRule_143 ?_
      refine gd_ic0 dX5_readRule_144 ?_
      refine gd_bipush (v := nI 9) dX5_readRule_145 (by decide) ?_
      refine gd_cV3i dX5_readRule_147 ct_5_70 rc_51 ⟨Nat.le_of_ble_eq_true rfl, Nat.le_of_ble_eq_true rfl⟩ (Nat.le_of_ble_eq_true rfl) (Nat.le_of_ble_eq_true rfl) (cR_val_f t (tX_le t (tX_le t (tX_le t he))) hr (by decide) (by decide) a3) ?_
      refine gd_if_eq_t 157 dX5_readRule_150 (by decide) (by decide) ?_
      refine gd_ic0 dX5_readRule_157 ?_
      refine gd_iret dX5_readRule_158 rfl (by first | rfl | decide | exact nar_bi _ | assumption) ?_
      rfl
    · intro j hj; first | rfl | simp only [upd_at, if_neg hj]
    · intro j hj; first | rfl | simp only [upd_at, if_neg hj]
    · intro j hj; first | rfl | simp only [upd_at, if_neg hj]
  · apply Exists.intro
    refine ⟨?_, ?_⟩
    · refine gd_ic4 dX9_wantRule_0 ?_
      refine gd_bipush (v := nI 6) dX9_wantRule_1 (by decide) ?_
      refine gd_ald0 dX9_wantRule_3 (by decide) ?_
      refine gd_getR (r := 74) dX9_wantRule_4 fl_9_13 rfl rfl rfl (by decide) ?_
      refine gd_ic2 dX9_wantRule_7 ?_
      refine gd_iald (n := 5) dX9_wantRule_8 rfl (by decide) (by repeat' (first | with_reducible rfl | apply ni_add | apply ni_mul)) (by omega) ?_
      rw [show (hW h b N e (-1) R).1 74 2 = nI x from hx]
      refine gd_imul dX9_wantRule_9 ?_
      refine gd_ild1 dX9_wantRule_10 ?_
      refine gd_iadd dX9_wantRule_11 ?_
      refine gd_imul dX9_wantRule_12 ?_
      rw [pk_mul, nI_add, pk_mul]
      refine gd_ist2 dX9_wantRule_13 rfl ?_
      refine gd_ald0 dX9_wantRule_14 (by decide) ?_
      refine gd_ldc2 dX9_wantRule_15 l2_9_185 ?_
      refine gd_cV1i dX9_wantRule_18 ct_9_187 rc_72 ⟨Nat.le_of_ble_eq_true rfl, Nat.le_of_ble_eq_true rfl⟩ (Nat.le_of_ble_eq_true rfl) (Nat.le_of_ble_eq_true rfl) (mW_nm0_f t he nw) ?_
      refine gd_if_eq_t 28 dX9_wantRule_21 (by decide) (by decide) ?_
      refine gd_ald0 dX9_wantRule_28 (by decide) ?_
      refine gd_ldc2 dX9_wantRule_29 l2_9_191 ?_
      refine gd_cV1i dX9_wantRule_32 ct_9_187 rc_72 ⟨Nat.le_of_ble_eq_true rfl, Nat.le_of_ble_eq_true rfl⟩ (Nat.le_of_ble_eq_true rfl) (Nat.le_of_ble_eq_true rfl) (mW_nm2_f t he nr) ?_
      refine gd_if_eq_t 42 dX9_wantRule_35 (by decide) (by decide) ?_
      refine gd_ald0 dX9_wantRule_42 (by decide) ?_
      refine gd_ldc2 dX9_wantRule_43 l2_9_193 ?_
      refine gd_cV1i dX9_wantRule_46 ct_9_187 rc_72 ⟨Nat.le_of_ble_eq_true rfl, Nat.le_of_ble_eq_true rfl⟩ (Nat.le_of_ble_eq_true rfl) (Nat.le_of_ble_eq_true rfl) (mW_nm4_f t he nf) ?_
      refine gd_if_eq_t 56 dX9_wantRule_49 (by decide) (by decide) ?_
      refine gd_ald0 dX9_wantRule_56 (by decide) ?_
      refine gd_ldc2 dX9_wantRule_57 l2_9_195 ?_
      refine gd_cV1i dX9_wantRule_60 ct_9_187 rc_72 ⟨Nat.le_of_ble_eq_true rfl, Nat.le_of_ble_eq_true rfl⟩ (Nat.le_of_ble_eq_true rfl) (Nat.le_of_ble_eq_true rfl) (mW_nm5_t t he ng) ?_
      refine gd_if_eq_f 70 dX9_wantRule_63 (by decide) (by decide) ?_
      refine gd_ic3 dX9_wantRule_66 ?_
      refine gd_goto 71 dX9_wantRule_67 (by decide) ?_
      refine gd_ist3 dX9_wantRule_71 rfl ?_
      refine gd_ald0 dX9_wantRule_72 (by decide) ?_
      refine gd_ild3 dX9_wantRule_73 ?_
      refine gd_if_lt_f 87 dX9_wantRule_74 (by decide) (by decide) ?_
      refine gd_ild1 dX9_wantRule_77 ?_
      refine gd_bipush (v := nI 6) dX9_wantRule_78 (by decide) ?_
      refine gd_icmp_ge_f 87 dX9_wantRule_80 (by decide) (by exact nI_ge (by omega) (by omega)) ?_
      refine gd_ic1 dX9_wantRule_83 ?_
      refine gd_goto 88 dX9_wantRule_84 (by decide) ?_
      refine gd_cV1v dX9_wantRule_88 ct_9_181 rc_72 ⟨Nat.le_of_ble_eq_true rfl, Nat.le_of_ble_eq_true rfl⟩ (Nat.le_of_ble_eq_true rfl) (Nat.le_of_ble_eq_true rfl) (mW_want_n t he) ?_
      refine gd_ald0 dX9_wantRule_91 (by decide) ?_
      refine gd_getI dX9_wantRule_92 fl_9_175 rfl rfl ?_
      rw [hW_19]
      refine gd_if_lt_t 99 dX9_wantRule_95 (by decide) (by decide) ?_
      refine gd_ild3 dX9_wantRule_99 ?_
      refine gd_ic2 dX9_wantRule_100 ?_
      refine gd_icmp_ne_t 108 dX9_wantRule_101 (by decide) (by decide) ?_
      refine gd_ald0 dX9_wantRule_108 (by decide) ?_
      refine gd_ic0 dX9_wantRule_109 ?_
      refine gd_ild3 dX9_wantRule_110 ?_
      refine gd_if_ne_t 119 dX9_wantRule_111 (by decide) (by decide) ?_
      refine gd_ild3 dX9_wantRule_119 ?_
      refine gd_ic1 dX9_wantRule_120 ?_
      refine gd_icmp_ne_t 128 dX9_wantRule_121 (by decide) (by decide) ?_
      refine gd_ic2 dX9_wantRule_128 ?_
      refine gd_cV2i dX9_wantRule_129 ct_9_197 rc_72 ⟨Nat.le_of_ble_eq_true rfl, Nat.le_of_ble_eq_true rfl⟩ (Nat.le_of_ble_eq_true rfl) (Nat.le_of_ble_eq_true rfl) (mW_num_t t (mX_le t he) (by decide) a1) ?_
      refine gd_ist4 dX9_wantRule_132 rfl ?_
      refine gd_ild3 dX9_wantRule_134 ?_
      refine gd_ic2 dX9_wantRule_135 ?_
      refine gd_icmp_eq_f 160 dX9_wantRule_136 (by decide) (by decide) ?_
      refine gd_ald0 dX9_wantRule_139 (by decide) ?_
      refine gd_ald0 dX9_wantRule_140 (by decide) ?_
      refine gd_ild3 dX9_wantRule_141 ?_
      refine gd_if_ne_t 151 dX9_wantRule_142 (by decide) (by decide) ?_
      refine gd_ldc2 dX9_wantRule_151 l2_9_202 ?_
      refine gd_cV1i dX9_wantRule_154 ct_9_187 rc_72 ⟨Nat.le_of_ble_eq_true rfl, Nat.le_of_ble_eq_true rfl⟩ (Nat.le_of_ble_eq_true rfl) (Nat.le_of_ble_eq_true rfl) (mW_nm3_t t (mX_le t (mX_le t he)) a2) ?_
      refine gd_cV1v dX9_wantRule_157 ct_9_181 rc_72 ⟨Nat.le_of_ble_eq_true rfl, Nat.le_of_ble_eq_true rfl⟩ (Nat.le_of_ble_eq_true rfl) (Nat.le_of_ble_eq_true rfl) (mW_want_n t (mX_le t (mX_le t he))) ?_
      refine gd_ald0 dX9_wantRule_160 (by decide) ?_
      refine gd_ild3 dX9_wantRule_161 ?_
      refine gd_ic2 dX9_wantRule_162 ?_
      refine gd_icmp_ne_t 170 dX9_wantRule_163 (by decide) (by decide) ?_
      refine gd_ic0 dX9_wantRule_170 ?_
      refine gd_ild3 dX9_wantRule_171 ?_
      refine gd_if_ne_t 180 dX9_wantRule_172 (by decide) (by decide) ?_
      refine gd_ild3 dX9_wantRule_180 ?_
      refine gd_ic1 dX9_wantRule_181 ?_
      refine gd_icmp_ne_t 190 dX9_wantRule_182 (by decide) (by decide) ?_
      refine gd_ild3 dX9_wantRule_190 ?_
      refine gd_ic2 dX9_wantRule_191 ?_
      refine gd_icmp_ne_t 200 dX9_wantRule_192 (by decide) (by decide) ?_
      refine gd_bipush (v := nI 9) dX9_wantRule_200 (by decide) ?_
      refine gd_cV2i dX9_wantRule_202 ct_9_197 rc_72 ⟨Nat.le_of_ble_eq_true rfl, Nat.le_of_ble_eq_true rfl⟩ (Nat.le_of_ble_eq_true rfl) (Nat.le_of_ble_eq_true rfl) (mW_num_f t (mX_le t (mX_le t (mX_le t he))) (by decide) (by decide) a3) ?_
      refine gd_ist5 dX9_wantRule_205 rfl ?_
      refine gd_ild5 dX9_wantRule_207 ?_
      refine gd_ist6 dX9_wantRule_209 rfl ?_
      refine gd_ild3 dX9_wantRule_211 ?_
      refine gd_if_ne_t 245 dX9_wantRule_212 (by decide) (by decide) ?_
      refine gd_ald0 dX9_wantRule_245 (by decide) ?_
      refine gd_getR (r := 80) dX9_wantRule_246 fl_9_31 rfl rfl rfl (by decide) ?_
      refine gd_ild2 dX9_wantRule_249 ?_
      refine gd_ild3 dX9_wantRule_250 ?_
      refine gd_iast (n := 192) dX9_wantRule_251 rfl (by decide) (by repeat' (first | with_reducible rfl | apply ni_add | apply ni_mul)) (by omega) ?_
      rw [hW_r, hW_80]
      refine gd_ald0 dX9_wantRule_252 (by decide) ?_
      refine gd_getR (r := 80) dX9_wantRule_253 fl_9_31 rfl rfl rfl (by decide) ?_
      refine gd_ild2 dX9_wantRule_256 ?_
      refine gd_ic1 dX9_wantRule_257 ?_
      refine gd_iadd dX9_wantRule_258 ?_
      refine gd_ild4 dX9_wantRule_259 ?_
      refine gd_iast (n := 192) dX9_wantRule_261 rfl (by decide) (by repeat' (first | with_reducible rfl | apply ni_add | apply ni_mul)) (by omega) ?_
      rw [hW_r, hW_80]
      refine gd_ald0 dX9_wantRule_262 (by decide) ?_
      refine gd_getR (r := 80) dX9_wantRule_263 fl_9_31 rfl rfl rfl (by decide) ?_
      refine gd_ild2 dX9_wantRule_266 ?_
      refine gd_ic2 dX9_wantRule_267 ?_
      refine gd_iadd dX9_wantRule_268 ?_
      refine gd_ild5 dX9_wantRule_269 ?_
      refine gd_iast (n := 192) dX9_wantRule_271 rfl (by decide) (by repeat' (first | with_reducible rfl | apply ni_add | apply ni_mul)) (by omega) ?_
      rw [hW_r, hW_80]
      refine gd_ald0 dX9_wantRule_272 (by decide) ?_
      refine gd_getR (r := 80) dX9_wantRule_273 fl_9_31 rfl rfl rfl (by decide) ?_
      refine gd_ild2 dX9_wantRule_276 ?_
      refine gd_ic3 dX9_wantRule_277 ?_
      refine gd_iadd dX9_wantRule_278 ?_
      refine gd_ild6 dX9_wantRule_279 ?_
      refine gd_iast (n := 192) dX9_wantRule_281 rfl (by decide) (by repeat' (first | with_reducible rfl | apply ni_add | apply ni_mul)) (by omega) ?_
      rw [hW_r, hW_80]
      refine gd_vret dX9_wantRule_282 rfl ?_
      rfl
    · exact up4_fr _ _ _ _ _ _
set_option maxHeartbeats 1000000 in
theorem ru_Gok {b : Nat → Nat} {N e : Nat} (hN : N ≤ 120) (he : e ≤ N) (nw : ¬ isNm b N e ch0 4) (nr : ¬ isNm b N e ch2 6) (nf : ¬ isNm b N e ch4 5) (ng : isNm b N e ch5 6) (a1 : nOk b N (tkX b N e) 0 2) (a2 : isNm b N (tkX b N (tkX b N e)) ch3 4) (a3 : nOk b N (tkX b N (tkX b N (tkX b N e))) 0 9) : RuO b N e 3 (tkV b N (tkX b N e)) (tkV b N (tkX b N (tkX b N (tkX b N e)))) (tkV b N (tkX b N (tkX b N (tkX b N e)))) (tkX b N (tkX b N (tkX b N (tkX b N e)))) := by
  refine ⟨(tkX_ok hN (tkX_ok hN (tkX_ok hN (tkX_ok hN he).2.1).2.1).2.1).2.1, ⟨3, (tkV b N (tkX b N e)), (tkV b N (tkX b N (tkX b N (tkX b N e)))), (tkV b N (tkX b N (tkX b N (tkX b N e)))), rfl, rfl, rfl, rfl, Nat.le_refl _, Or.inr (Or.inr (Or.inr ⟨rfl, Nat.lt_succ_of_le a1.2.2, a3.2.2⟩))⟩, fun h K L G r t hr => ?_, fun h R x k t hx hx8 hk => ?_⟩
  · apply Exists.intro
    apply Exists.intro
    apply Exists.intro
    refine ⟨?_, ⟨?_, ?_, ?_⟩, ?_, ?_, ?_⟩
    · refine gd_ald0 dX5_readRule_0 (by decide) ?_
      refine gd_ldcS (j := 0) (by decide) rfl rfl dX5_readRule_1 ?_
      refine gd_cV1i dX5_readRule_3 ct_5_53 rc_51 ⟨Nat.le_of_ble_eq_true rfl, Nat.le_of_ble_eq_true rfl⟩ (Nat.le_of_ble_eq_true rfl) (Nat.le_of_ble_eq_true rfl) (cR_nm0_f t he nw) ?_
      refine gd_if_eq_t 44 dX5_readRule_6 (by decide) (by decide) ?_
      refine gd_ald0 dX5_readRule_44 (by decide) ?_
      refine gd_ldcS (j := 2) (by decide) rfl rfl dX5_readRule_45 ?_
      refine gd_cV1i dX5_readRule_47 ct_5_53 rc_51 ⟨Nat.le_of_ble_eq_true rfl, Nat.le_of_ble_eq_true rfl⟩ (Nat.le_of_ble_eq_true rfl) (Nat.le_of_ble_eq_true rfl) (cR_nm2_f t he nr) ?_
      refine gd_if_eq_t 89 dX5_readRule_50 (by decide) (by decide) ?_
      refine gd_ald0 dX5_readRule_89 (by decide) ?_
      refine gd_ldcS (j := 4) (by decide) rfl rfl dX5_readRule_90 ?_
      refine gd_cV1i dX5_readRule_92 ct_5_53 rc_51 ⟨Nat.le_of_ble_eq_true rfl, Nat.le_of_ble_eq_true rfl⟩ (Nat.le_of_ble_eq_true rfl) (Nat.le_of_ble_eq_true rfl) (cR_nm4_f t he nf) ?_
      refine gd_if_eq_t 114 dX5_readRule_95 (by decide) (by decide) ?_
      refine gd_ald0 dX5_readRule_114 (by decide) ?_
      refine gd_ldcS (j := 5) (by decide) rfl rfl dX5_readRule_115 ?_
      refine gd_cV1i dX5_readRule_117 ct_5_53 rc_51 ⟨Nat.le_of_ble_eq_true rfl, Nat.le_of_ble_eq_true rfl⟩ (Nat.le_of_ble_eq_true rfl) (Nat.le_of_ble_eq_true rfl) (cR_nm5_t t he ng) ?_
      refine gd_if_eq_f 159 dX5_readRule_120 (by decide) (by decide) ?_
      refine gd_ald0 dX5_readRule_123 (by decide) ?_
      refine gd_ild1 dX5_readRule_124 ?_
      refine gd_ic5 dX5_readRule_125 ?_
      refine gd_ic2 dX5_readRule_126 ?_
      refine gd_cV3i dX5_readRule_127 ct_5_57 rc_51 ⟨Nat.le_of_ble_eq_true rfl, Nat.le_of_ble_eq_true rfl⟩ (Nat.le_of_ble_eq_true rfl) (Nat.le_of_ble_eq_true rfl) (cR_abt_t t (tX_le t he) hr (by decide) a1) ?_
      refine gd_if_eq_f 157 dX5_readRule_130 (by decide) (by decide) ?_
      refine gd_ald0 dX5_readRule_133 (by decide) ?_
      refine gd_ldcS (j := 3) (by decide) rfl rfl dX5_readRule_134 ?_
      refine gd_cV1i dX5_readRule_136 ct_5_53 rc_51 ⟨Nat.le_of_ble_eq_true rfl, Nat.le_of_ble_eq_true rfl⟩ (Nat.le_of_ble_eq_true rfl) (Nat.le_of_ble_eq_true rfl) (cR_nm3_t t (tX_le t (tX_le t he)) a2) ?_
      refine gd_if_eq_f 157 dX5_readRule_139 (by decide) (by decide) ?_
      refine gd_ald0 dX5_readRule_142 (by decide) ?_
      refine gd_ild1 dX5_readRule_143 ?_
      refine gd_ic0 dX5_readRule_144 ?_
      refine gd_bipush (v := nI 9) dX5_readRule_145 (by decide) ?_
      refine gd_cV3i dX5_readRule_147 ct_5_70 rc_51 ⟨Nat.le_of_ble_eq_true rfl, Nat.le_of_ble_eq_true rfl⟩ (Nat.le_of_ble_eq_true rfl) (Nat.le_of_ble_eq_true rfl) (cR_val_t t (tX_le t (tX_le t (tX_le t he))) hr (by decide) (by decide) a3) ?_
      refine gd_if_eq_f 157 dX5_readRule_150 (by decide) (by decide) ?_
      refine gd_ic1 dX5_readRule_153 ?_
      refine gd_goto 158 dX5_readRule_154 (by decide) ?_
      refine gd_iret dX5_readRule_158 rfl (by first | rfl | decide | exact nar_bi _ | assumption) ?_
      rfl
    · intro j hj; first | rfl | simp only [upd_at, if_neg hj]
    · intro j hj; first | rfl | simp only [upd_at, if_neg hj]
    · intro j hj; first | rfl | simp only [upd_at, if_neg hj]
    · rw [upd_at, if_pos rfl]; unfold keyI; rw [if_neg (by decide), if_neg (by decide), if_neg (by decide), nI_add]
    · rw [upd_at, if_pos rfl]
    · rw [upd_at, if_pos rfl]
  · apply Exists.intro
    refine ⟨?_, ?_, ?_, ?_, ?_, ?_⟩
    · refine gd_ic4 dX9_wantRule_0 ?_
      refine gd_bipush (v := nI 6) dX9_wantRule_1 (by decide) ?_
      refine gd_ald0 dX9_wantRule_3 (by decide) ?_
      refine gd_getR (r := 74) dX9_wantRule_4 fl_9_13 rfl rfl rfl (by decide) ?_
      refine gd_ic2 dX9_wantRule_7 ?_
      refine gd_iald (n := 5) dX9_wantRule_8 rfl (by decide) (by repeat' (first | with_reducible rfl | apply ni_add | apply ni_mul)) (by omega) ?_
      rw [show (hW h b N e (-1) R).1 74 2 = nI x from hx]
      refine gd_imul dX9_wantRule_9 ?_
      refine gd_ild1 dX9_wantRule_10 ?_
      refine gd_iadd dX9_wantRule_11 ?_
      refine gd_imul dX9_wantRule_12 ?_
      rw [pk_mul, nI_add, pk_mul]
      refine gd_ist2 dX9_wantRule_13 rfl ?_
      refine gd_ald0 dX9_wantRule_14 (by decide) ?_
      refine gd_ldc2 dX9_wantRule_15 l2_9_185 ?_
      refine gd_cV1i dX9_wantRule_18 ct_9_187 rc_72 ⟨Nat.le_of_ble_eq_true rfl, Nat.le_of_ble_eq_true rfl⟩ (Nat.le_of_ble_eq_true rfl) (Nat.le_of_ble_eq_true rfl) (mW_nm0_f t he nw) ?_
      refine gd_if_eq_t 28 dX9_wantRule_21 (by decide) (by decide) ?_
      refine gd_ald0 dX9_wantRule_28 (by decide) ?_
      refine gd_ldc2 dX9_wantRule_29 l2_9_191 ?_
      refine gd_cV1i dX9_wantRule_32 ct_9_187 rc_72 ⟨Nat.le_of_ble_eq_true rfl, Nat.le_of_ble_eq_true rfl⟩ (Nat.le_of_ble_eq_true rfl) (Nat.le_of_ble_eq_true rfl) (mW_nm2_f t he nr) ?_
      refine gd_if_eq_t 42 dX9_wantRule_35 (by decide) (by decide) ?_
      refine gd_ald0 dX9_wantRule_42 (by decide) ?_
      refine gd_ldc2 dX9_wantRule_43 l2_9_193 ?_
      refine gd_cV1i dX9_wantRule_46 ct_9_187 rc_72 ⟨Nat.le_of_ble_eq_true rfl, Nat.le_of_ble_eq_true rfl⟩ (Nat.le_of_ble_eq_true rfl) (Nat.le_of_ble_eq_true rfl) (mW_nm4_f t he nf) ?_
      refine gd_if_eq_t 56 dX9_wantRule_49 (by decide) (by decide) ?_
      refine gd_ald0 dX9_wantRule_56 (by decide) ?_
      refine gd_ldc2 dX9_wantRule_57 l2_9_195 ?_
      refine gd_cV1i dX9_wantRule_60 ct_9_187 rc_72 ⟨Nat.le_of_ble_eq_true rfl, Nat.le_of_ble_eq_true rfl⟩ (Nat.le_of_ble_eq_true rfl) (Nat.le_of_ble_eq_true rfl) (mW_nm5_t t he ng) ?_
      refine gd_if_eq_f 70 dX9_wantRule_63 (by decide) (by decide) ?_
      refine gd_ic3 dX9_wantRule_66 ?_
      refine gd_goto 71 dX9_wantRule_67 (by decide) ?_
      refine gd_ist3 dX9_wantRule_71 rfl ?_
      refine gd_ald0 dX9_wantRule_72 (by decide) ?_
      refine gd_ild3 dX9_wantRule_73 ?_
      refine gd_if_lt_f 87 dX9_wantRule_74 (by decide) (by decide) ?_
      refine gd_ild1 dX9_wantRule_77 ?_
      refine gd_bipush (v := nI 6) dX9_wantRule_78 (by decide) ?_
      refine gd_icmp_ge_f 87 dX9_wantRule_80 (by decide) (by exact nI_ge (by omega) (by omega)) ?_
      refine gd_ic1 dX9_wantRule_83 ?_
      refine gd_goto 88 dX9_wantRule_84 (by decide) ?_
      refine gd_cV1v dX9_wantRule_88 ct_9_181 rc_72 ⟨Nat.le_of_ble_eq_true rfl, Nat.le_of_ble_eq_true rfl⟩ (Nat.le_of_ble_eq_true rfl) (Nat.le_of_ble_eq_true rfl) (mW_want_n t he) ?_
      refine gd_ald0 dX9_wantRule_91 (by decide) ?_
      refine gd_getI dX9_wantRule_92 fl_9_175 rfl rfl ?_
      rw [hW_19]
      refine gd_if_lt_t 99 dX9_wantRule_95 (by decide) (by decide) ?_
      refine gd_ild3 dX9_wantRule_99 ?_
      refine gd_ic2 dX9_wantRule_100 ?_
      refine gd_icmp_ne_t 108 dX9_wantRule_101 (by decide) (by decide) ?_
      refine gd_ald0 dX9_wantRule_108 (by decide) ?_
      refine gd_ic0 dX9_wantRule_109 ?_
      refine gd_ild3 dX9_wantRule_110 ?_
      refine gd_if_ne_t 119 dX9_wantRule_111 (by decide) (by decide) ?_
      refine gd_ild3 dX9_wantRule_119 ?_
      refine gd_ic1 dX9_wantRule_120 ?_
      refine gd_icmp_ne_t 128 dX9_wantRule_121 (by decide) (by decide) ?_
      refine gd_ic2 dX9_wantRule_128 ?_
      refine gd_cV2i dX9_wantRule_129 ct_9_197 rc_72 ⟨Nat.le_of_ble_eq_true rfl, Nat.le_of_ble_eq_true rfl⟩ (Nat.le_of_ble_eq_true rfl) (Nat.le_of_ble_eq_true rfl) (mW_num_t t (mX_le t he) (by decide) a1) ?_
      refine gd_ist4 dX9_wantRule_132 rfl ?_
      refine gd_ild3 dX9_wantRule_134 ?_
      refine gd_ic2 dX9_wantRule_135 ?_
      refine gd_icmp_eq_f 160 dX9_wantRule_136 (by decide) (by decide) ?_
      refine gd_ald0 dX9_wantRule_139 (by decide) ?_
      refine gd_ald0 dX9_wantRule_140 (by decide) ?_
      refine gd_ild3 dX9_wantRule_141 ?_
      refine gd_if_ne_t 151 dX9_wantRule_142 (by decide) (by decide) ?_
      refine gd_ldc2 dX9_wantRule_151 l2_9_202 ?_
      refine gd_cV1i dX9_wantRule_154 ct_9_187 rc_72 ⟨Nat.le_of_ble_eq_true rfl, Nat.le_of_ble_eq_true rfl⟩ (Nat.le_of_ble_eq_true rfl) (Nat.le_of_ble_eq_true rfl) (mW_nm3_t t (mX_le t (mX_le t he)) a2) ?_
      refine gd_cV1v dX9_wantRule_157 ct_9_181 rc_72 ⟨Nat.le_of_ble_eq_true rfl, Nat.le_of_ble_eq_true rfl⟩ (Nat.le_of_ble_eq_true rfl) (Nat.le_of_ble_eq_true rfl) (mW_want_n t (mX_le t (mX_le t he))) ?_
      refine gd_ald0 dX9_wantRule_160 (by decide) ?_
      refine gd_ild3 dX9_wantRule_161 ?_
      refine gd_ic2 dX9_wantRule_162 ?_
      refine gd_icmp_ne_t 170 dX9_wantRule_163 (by decide) (by decide) ?_
      refine gd_ic0 dX9_wantRule_170 ?_
      refine gd_ild3 dX9_wantRule_171 ?_
      refine gd_if_ne_t 180 dX9_wantRule_172 (by decide) (by decide) ?_
      refine gd_ild3 dX9_wantRule_180 ?_
      refine gd_ic1 dX9_wantRule_181 ?_
      refine gd_icmp_ne_t 190 dX9_wantRule_182 (by decide) (by decide) ?_
      refine gd_ild3 dX9_wantRule_190 ?_
      refine gd_ic2 dX9_wantRule_191 ?_
      refine gd_icmp_ne_t 200 dX9_wantRule_192 (by decide) (by decide) ?_
      refine gd_bipush (v := nI 9) dX9_wantRule_200 (by decide) ?_
      refine gd_cV2i dX9_wantRule_202 ct_9_197 rc_72 ⟨Nat.le_of_ble_eq_true rfl, Nat.le_of_ble_eq_true rfl⟩ (Nat.le_of_ble_eq_true rfl) (Nat.le_of_ble_eq_true rfl) (mW_num_t t (mX_le t (mX_le t (mX_le t he))) (by decide) a3) ?_
      refine gd_ist5 dX9_wantRule_205 rfl ?_
      refine gd_ild5 dX9_wantRule_207 ?_
      refine gd_ist6 dX9_wantRule_209 rfl ?_
      refine gd_ild3 dX9_wantRule_211 ?_
      refine gd_if_ne_t 245 dX9_wantRule_212 (by decide) (by decide) ?_
      refine gd_ald0 dX9_wantRule_245 (by decide) ?_
      refine gd_getR (r := 80) dX9_wantRule_246 fl_9_31 rfl rfl rfl (by decide) ?_
      refine gd_ild2 dX9_wantRule_249 ?_
      refine gd_ild3 dX9_wantRule_250 ?_
      refine gd_iast (n := 192) dX9_wantRule_251 rfl (by decide) (by repeat' (first | with_reducible rfl | apply ni_add | apply ni_mul)) (by omega) ?_
      rw [hW_r, hW_80]
      refine gd_ald0 dX9_wantRule_252 (by decide) ?_
      refine gd_getR (r := 80) dX9_wantRule_253 fl_9_31 rfl rfl rfl (by decide) ?_
      refine gd_ild2 dX9_wantRule_256 ?_
      refine gd_ic1 dX9_wantRule_257 ?_
      refine gd_iadd dX9_wantRule_258 ?_
      refine gd_ild4 dX9_wantRule_259 ?_
      refine gd_iast (n := 192) dX9_wantRule_261 rfl (by decide) (by repeat' (first | with_reducible rfl | apply ni_add | apply ni_mul)) (by omega) ?_
      rw [hW_r, hW_80]
      refine gd_ald0 dX9_wantRule_262 (by decide) ?_
      refine gd_getR (r := 80) dX9_wantRule_263 fl_9_31 rfl rfl rfl (by decide) ?_
      refine gd_ild2 dX9_wantRule_266 ?_
      refine gd_ic2 dX9_wantRule_267 ?_
      refine gd_iadd dX9_wantRule_268 ?_
      refine gd_ild5 dX9_wantRule_269 ?_
      refine gd_iast (n := 192) dX9_wantRule_271 rfl (by decide) (by repeat' (first | with_reducible rfl | apply ni_add | apply ni_mul)) (by omega) ?_
      rw [hW_r, hW_80]
      refine gd_ald0 dX9_wantRule_272 (by decide) ?_
      refine gd_getR (r := 80) dX9_wantRule_273 fl_9_31 rfl rfl rfl (by decide) ?_
      refine gd_ild2 dX9_wantRule_276 ?_
      refine gd_ic3 dX9_wantRule_277 ?_
      refine gd_iadd dX9_wantRule_278 ?_
      refine gd_ild6 dX9_wantRule_279 ?_
      refine gd_iast (n := 192) dX9_wantRule_281 rfl (by decide) (by repeat' (first | with_reducible rfl | apply ni_add | apply ni_mul)) (by omega) ?_
      rw [hW_r, hW_80]
      refine gd_vret dX9_wantRule_282 rfl ?_
      rfl
    · exact up4_fr _ _ _ _ _ _
    · exact up4_0 _ _ _ _ _ _
    · exact up4_1 _ _ _ _ _ _
    · exact up4_2 _ _ _ _ _ _
    · exact up4_3 _ _ _ _ _ _
theorem rule_all {b : Nat → Nat} {N e : Nat} (hN : N ≤ 120) (he : e ≤ N) : (∃ e', RuF b N e e') ∨ ∃ w a u v e', RuO b N e w a u v e' := by
  by_cases nw : isNm b N e ch0 4
  · by_cases a1 : nOk b N (tkX b N e) 0 15
    · by_cases a2 : isNm b N (tkX b N (tkX b N e)) ch1 2
      · by_cases a3 : nOk b N (tkX b N (tkX b N (tkX b N e))) 0 11
        · by_cases a4 : sgn b N (tkX b N (tkX b N (tkX b N (tkX b N e)))) 45
          · by_cases a5 : nOk b N (tkX b N (tkX b N (tkX b N (tkX b N (tkX b N e))))) (tkV b N (tkX b N (tkX b N (tkX b N e)))) 11
            · exact Or.inr ⟨_, _, _, _, _, ru_Wok hN he nw a1 a2 a3 a4 a5⟩
            · exact Or.inl ⟨_, ru_W5 hN he nw a1 a2 a3 a4 a5⟩
          · exact Or.inr ⟨_, _, _, _, _, ru_W4 hN he nw a1 a2 a3 a4⟩
        · exact Or.inl ⟨_, ru_W3 hN he nw a1 a2 a3⟩
      · exact Or.inl ⟨_, ru_W2 hN he nw a1 a2⟩
    · exact Or.inl ⟨_, ru_W1 hN he nw a1⟩
  · by_cases nr : isNm b N e ch2 6
    · by_cases a1 : nOk b N (tkX b N e) 0 3
      · by_cases a2 : isNm b N (tkX b N (tkX b N e)) ch3 4
        · by_cases a3 : nOk b N (tkX b N (tkX b N (tkX b N e))) 0 99
          · exact Or.inr ⟨_, _, _, _, _, ru_Rok hN he nw nr a1 a2 a3⟩
          · exact Or.inl ⟨_, ru_R3 hN he nw nr a1 a2 a3⟩
        · exact Or.inl ⟨_, ru_R2 hN he nw nr a1 a2⟩
      · exact Or.inl ⟨_, ru_R1 hN he nw nr a1⟩
    · by_cases nf : isNm b N e ch4 5
      · by_cases a1 : nOk b N (tkX b N e) 1 20
        · exact Or.inr ⟨_, _, _, _, _, ru_Fok hN he nw nr nf a1⟩
        · exact Or.inl ⟨_, ru_F1 hN he nw nr nf a1⟩
      · by_cases ng : isNm b N e ch5 6
        · by_cases a1 : nOk b N (tkX b N e) 0 2
          · by_cases a2 : isNm b N (tkX b N (tkX b N e)) ch3 4
            · by_cases a3 : nOk b N (tkX b N (tkX b N (tkX b N e))) 0 9
              · exact Or.inr ⟨_, _, _, _, _, ru_Gok hN he nw nr nf ng a1 a2 a3⟩
              · exact Or.inl ⟨_, ru_G3 hN he nw nr nf ng a1 a2 a3⟩
            · exact Or.inl ⟨_, ru_G2 hN he nw nr nf ng a1 a2⟩
          · exact Or.inl ⟨_, ru_G1 hN he nw nr nf ng a1⟩
        · exact Or.inl ⟨_, ru_N hN he nw nr nf ng⟩
