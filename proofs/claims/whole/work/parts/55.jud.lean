
/-! ===== judge ===== -/
def inL (cl : Nat → Nat) : Nat → (Nat → Bool)
  | 0 => fun _ => false
  | k + 1 => inT (inL cl k) (cl k)
theorem inL_s (cl : Nat → Nat) (k c : Nat) : inL cl (k + 1) c = (inL cl k c || decide (cl k = c)) := rfl
theorem wid_ok {h : Hp} (i : Inv h) {q : Nat} (hq : q < 4) : h.1 90 q = nI 0 ∨ ∃ v, 0 < v ∧ v < 100 ∧ h.1 90 q = nI v := by
  rcases i.s.v q hq with e | e | e | e
  · exact Or.inl e
  · exact Or.inr ⟨8, by decide, by decide, e⟩
  · exact Or.inr ⟨16, by decide, by decide, e⟩
  · exact Or.inr ⟨64, by decide, by decide, e⟩

theorem c_judge {w cl : Nat → Nat} {d q A n : Nat} (hq : q < 4) (hn : n ≤ 40) (hw : ∀ c, w c < 2 ^ 31) (hA : A ≤ 6039797760) (A0 : 0 < A) (hs : sumN w 144 = A) (hc : ∀ k, k < n → cl k < 144) : ∀ (j : Nat), j ≤ n → ∀ (h : Hp), h.1 59 q = nI n → (∀ k, k < n → h.2 57 (40 * q + k) = lN (cl k)) → (∀ c, c < 144 → h.2 69 c = lN (tkA w (inL cl j) c)) → ∃ h2, Gd mX8_judge 102 [.ref 0, .int (nI d), .int (nI q), .long (lN A), .null, .long (lN (hdN w (inL cl j) 144)), .null, .int (nI j)] [] h (some (.int (nI (hdN w (inL cl n) 144 * 100 / A))), h2) ∧ FS h h2 := by
  refine loopG (P := fun j => ∀ (h : Hp), h.1 59 q = nI n → (∀ k, k < n → h.2 57 (40 * q + k) = lN (cl k)) → (∀ c, c < 144 → h.2 69 c = lN (tkA w (inL cl j) c)) → ∃ h2, Gd mX8_judge 102 [.ref 0, .int (nI d), .int (nI q), .long (lN A), .null, .long (lN (hdN w (inL cl j) 144)), .null, .int (nI j)] [] h (some (.int (nI (hdN w (inL cl n) 144 * 100 / A))), h2) ∧ FS h h2) (n := n) ?_ ?_
  · intro h e9 e7 eT
    have hl := hd_le w (inL cl n) 144
    refine ⟨h, ?_, FS.rf h⟩
    refine gd_ild7 dX8_judge_102 ?_
    refine gd_ald0 dX8_judge_104 (by decide) ?_
    refine gd_getR (r := 56) dX8_judge_105 fl_8_33 rfl rfl rfl (by decide) ?_
    refine gd_getR (r := 59) dX8_judge_108 fl_8_86 rfl rfl rfl (by decide) ?_
    refine gd_ild2 dX8_judge_111 ?_
    refine gd_iald (n := 4) dX8_judge_112 rfl (by decide) (by repeat' (first | with_reducible rfl | apply ni_add | apply ni_mul)) (by omega) ?_
    refine gd_icmp_ge_t 145 dX8_judge_113 (by decide) (by rw [e9]; exact nI_le (by omega) (by omega)) ?_
    refine gd_lld5 dX8_judge_145 ?_
    refine gd_ldc2 dX8_judge_147 l2_8_269 ?_
    refine gd_lmul dX8_judge_150 ?_
    rw [lN_mul]
    refine gd_lld3 dX8_judge_151 ?_
    refine gd_ldiv dX8_judge_152 (fun z => absurd ((pk_lEQ (a := A) (b := 0) (by omega) (by decide)).mp z) (by omega)) ?_
    rw [pk_lDiv (by omega) A0 (by omega)]
    refine gd_l2i dX8_judge_153 ?_
    rw [lN_i]
    refine gd_iret dX8_judge_154 rfl rfl ?_
    rfl
  · intro j hj ih h e9 e7 eT
    have cj := hc j hj
    have eh : hdN w (inL cl (j + 1)) 144 = hdN w (inL cl j) 144 + tkA w (inL cl j) (cl j) := by show hdN w (inT _ _) 144 = _; rw [hd_in, if_pos cj]
    obtain ⟨h2, gg, f2⟩ := ih (sL h 69 (vp_updL (h.2 69) (cl j) (lN 0))) e9 e7 (fun c hc => by
      rw [sL_s, updL_at]
      show _ = lN (tkA w (inT _ _) c)
      rw [tkA_in]
      split
      · rfl
      · exact eT c hc)
    refine ⟨h2, ?_, (FS.rf h).sl.tr f2⟩
    refine gd_ild7 dX8_judge_102 ?_
    refine gd_ald0 dX8_judge_104 (by decide) ?_
    refine gd_getR (r := 56) dX8_judge_105 fl_8_33 rfl rfl rfl (by decide) ?_
    refine gd_getR (r := 59) dX8_judge_108 fl_8_86 rfl rfl rfl (by decide) ?_
    refine gd_ild2 dX8_judge_111 ?_
    refine gd_iald (n := 4) dX8_judge_112 rfl (by decide) (by repeat' (first | with_reducible rfl | apply ni_add | apply ni_mul)) (by omega) ?_
    refine gd_icmp_ge_f 145 dX8_judge_113 (by decide) (by rw [e9]; exact nI_ge (by omega) (by omega)) ?_
    refine gd_lld5 dX8_judge_116 ?_
    refine gd_ald0 dX8_judge_118 (by decide) ?_
    refine gd_getR (r := 60) dX8_judge_119 fl_8_40 rfl rfl rfl (by decide) ?_
    refine gd_ald0 dX8_judge_122 (by decide) ?_
    refine gd_getR (r := 56) dX8_judge_123 fl_8_33 rfl rfl rfl (by decide) ?_
    refine gd_ild2 dX8_judge_126 ?_
    refine gd_ild7 dX8_judge_127 ?_
    refine gd_cV2l dX8_judge_129 ct_8_93 rc_56 ⟨Nat.le_of_ble_eq_true rfl, Nat.le_of_ble_eq_true rfl⟩ (Nat.le_of_ble_eq_true rfl) (Nat.le_of_ble_eq_true rfl) (c_at hq (by omega) _) ?_
    rw [e7 j hj]
    refine gd_l2i dX8_judge_132 ?_
    rw [lN_i]
    refine gd_cV1l dX8_judge_133 ct_8_274 rc_60 ⟨Nat.le_of_ble_eq_true rfl, Nat.le_of_ble_eq_true rfl⟩ (Nat.le_of_ble_eq_true rfl) (Nat.le_of_ble_eq_true rfl) (c_takeWeight cj _) ?_
    rw [eT _ cj]
    refine gd_ladd dX8_judge_136 ?_
    rw [lN_add, ← eh]
    refine gd_lst5 dX8_judge_137 rfl ?_
    refine gd_iinc7 (b := nI 1) dX8_judge_139 (by decide) rfl ?_
    rw [nI_add]
    refine gd_goto 102 dX8_judge_142 (by decide) ?_
    exact gg
theorem m_jud1_t {h : Hp} {d q n : Nat} {x : Option Value × Hp} (hq : q < 4) (hz : h.1 91 q = nI n) (hn : n ≤ 40) (ha : ∀ j, j < n → inB (fun j => h.2 92 (40 * q + j)) 144 j) (g : ∀ l4 l5, Gd mX9_judge 89 [.ref 72, .int (nI d), .int (nI q), .int (nI n), l4, l5, .null, .null] [] h x) : ∀ l4 l5, Gd mX9_judge 38 [.ref 72, .int (nI d), .int (nI q), .int (nI 0), l4, l5, .null, .null] [] h x := by
  refine loopG (P := fun j => ∀ l4 l5, Gd mX9_judge 38 [.ref 72, .int (nI d), .int (nI q), .int (nI j), l4, l5, .null, .null] [] h x) (n := n) ?_ ?_ 0 (by omega)
  · intro l4 l5
    refine gd_ild3 dX9_judge_38 ?_
    refine gd_ald0 dX9_judge_39 (by decide) ?_
    refine gd_getR (r := 91) dX9_judge_40 fl_9_66 rfl rfl rfl (by decide) ?_
    refine gd_ild2 dX9_judge_43 ?_
    refine gd_iald (n := 4) dX9_judge_44 rfl (by decide) (by repeat' (first | with_reducible rfl | apply ni_add | apply ni_mul)) (by omega) ?_
    refine gd_icmp_ge_t 89 dX9_judge_45 (by decide) (by rw [hz]; exact nI_le (by omega) (by omega)) ?_
    exact g _ _
  · intro j hj ih l4 l5
    obtain ⟨v, hv, e⟩ := ha j hj
    have e : h.2 92 (40 * q + j) = lN v := e
    refine gd_ild3 dX9_judge_38 ?_
    refine gd_ald0 dX9_judge_39 (by decide) ?_
    refine gd_getR (r := 91) dX9_judge_40 fl_9_66 rfl rfl rfl (by decide) ?_
    refine gd_ild2 dX9_judge_43 ?_
    refine gd_iald (n := 4) dX9_judge_44 rfl (by decide) (by repeat' (first | with_reducible rfl | apply ni_add | apply ni_mul)) (by omega) ?_
    refine gd_icmp_ge_f 89 dX9_judge_45 (by decide) (by rw [hz]; exact nI_ge (by omega) (by omega)) ?_
    refine gd_ald0 dX9_judge_48 (by decide) ?_
    refine gd_getR (r := 92) dX9_judge_49 fl_9_69 rfl rfl rfl (by decide) ?_
    refine gd_bipush (v := nI 40) dX9_judge_52 (by decide) ?_
    refine gd_ild2 dX9_judge_54 ?_
    refine gd_imul dX9_judge_55 ?_
    refine gd_ild3 dX9_judge_56 ?_
    refine gd_iadd dX9_judge_57 ?_
    refine gd_lald (n := 160) dX9_judge_58 rfl (by decide) (by rw [pk_mul, nI_add]) (by omega) ?_
    refine gd_lst4 dX9_judge_59 rfl ?_
    refine gd_lld4 dX9_judge_61 ?_
    refine gd_lc0 dX9_judge_63 ?_
    refine gd_lcmp dX9_judge_64 ?_
    refine gd_if_lt_f 77 dX9_judge_65 (by decide) (fun z => lnot v 0 (by omega) (by rw [lg_cmp_lt, e] at z; exact z)) ?_
    refine gd_lld4 dX9_judge_68 ?_
    refine gd_ldc2 dX9_judge_70 l2_9_267 ?_
    refine gd_lcmp dX9_judge_73 ?_
    refine gd_if_le_t 83 dX9_judge_74 (by decide) ((lg_cmp_le _ _).mpr (by rw [e, lN_le (by omega) (by decide)]; omega)) ?_
    refine gd_iinc3 (b := nI 1) dX9_judge_83 (by decide) rfl ?_
    rw [nI_add]
    refine gd_goto 38 dX9_judge_86 (by decide) ?_
    exact ih _ _
theorem m_jud1_f {h : Hp} {d q n k : Nat} (hq : q < 4) (hz : h.1 91 q = nI n) (hn : n ≤ 40) (hk : k < n) (ha : ∀ j, j < k → inB (fun j => h.2 92 (40 * q + j)) 144 j) (hx : ¬ (0 ≤ h.2 92 (40 * q + k) ∧ h.2 92 (40 * q + k) < lN 144)) : ∀ l4 l5, Gd mX9_judge 38 [.ref 72, .int (nI d), .int (nI q), .int (nI 0), l4, l5, .null, .null] [] h (some (.int ((-1000000000 : Int32) - nI 1)), hm h 0) := by
  refine loopG (P := fun j => ∀ l4 l5, Gd mX9_judge 38 [.ref 72, .int (nI d), .int (nI q), .int (nI j), l4, l5, .null, .null] [] h (some (.int ((-1000000000 : Int32) - nI 1)), hm h 0)) (n := k) ?_ ?_ 0 (by omega)
  · intro l4 l5
    have hle : ∀ v : Int64, v ≤ lN 143 → v < lN 144 := by
      intro v hv
      rw [Int64.le_iff_toInt_le, lN_toInt (by decide)] at hv
      rw [Int64.lt_iff_toInt_lt, lN_toInt (by decide)]
      omega
    by_cases z : h.2 92 (40 * q + k) < lN 0
    · refine gd_ild3 dX9_judge_38 ?_
      refine gd_ald0 dX9_judge_39 (by decide) ?_
      refine gd_getR (r := 91) dX9_judge_40 fl_9_66 rfl rfl rfl (by decide) ?_
      refine gd_ild2 dX9_judge_43 ?_
      refine gd_iald (n := 4) dX9_judge_44 rfl (by decide) (by repeat' (first | with_reducible rfl | apply ni_add | apply ni_mul)) (by omega) ?_
      refine gd_icmp_ge_f 89 dX9_judge_45 (by decide) (by rw [hz]; exact nI_ge (by omega) (by omega)) ?_
      refine gd_ald0 dX9_judge_48 (by decide) ?_
      refine gd_getR (r := 92) dX9_judge_49 fl_9_69 rfl rfl rfl (by decide) ?_
      refine gd_bipush (v := nI 40) dX9_judge_52 (by decide) ?_
      refine gd_ild2 dX9_judge_54 ?_
      refine gd_imul dX9_judge_55 ?_
      refine gd_ild3 dX9_judge_56 ?_
      refine gd_iadd dX9_judge_57 ?_
      refine gd_lald (n := 160) dX9_judge_58 rfl (by decide) (by rw [pk_mul, nI_add]) (by omega) ?_
      refine gd_lst4 dX9_judge_59 rfl ?_
      refine gd_lld4 dX9_judge_61 ?_
      refine gd_lc0 dX9_judge_63 ?_
      refine gd_lcmp dX9_judge_64 ?_
      refine gd_if_lt_t 77 dX9_judge_65 (by decide) ((lg_cmp_lt _ _).mpr z) ?_
      refine gd_ald0 dX9_judge_77 (by decide) ?_
      refine gd_ic1 dX9_judge_78 ?_
      refine gd_cV1i dX9_judge_79 ct_9_97 rc_72 ⟨Nat.le_of_ble_eq_true rfl, Nat.le_of_ble_eq_true rfl⟩ (Nat.le_of_ble_eq_true rfl) (Nat.le_of_ble_eq_true rfl) (m_f0 _) ?_
      refine gd_iret dX9_judge_82 rfl rfl ?_
      rfl
    · refine gd_ild3 dX9_judge_38 ?_
      refine gd_ald0 dX9_judge_39 (by decide) ?_
      refine gd_getR (r := 91) dX9_judge_40 fl_9_66 rfl rfl rfl (by decide) ?_
      refine gd_ild2 dX9_judge_43 ?_
      refine gd_iald (n := 4) dX9_judge_44 rfl (by decide) (by repeat' (first | with_reducible rfl | apply ni_add | apply ni_mul)) (by omega) ?_
      refine gd_icmp_ge_f 89 dX9_judge_45 (by decide) (by rw [hz]; exact nI_ge (by omega) (by omega)) ?_
      refine gd_ald0 dX9_judge_48 (by decide) ?_
      refine gd_getR (r := 92) dX9_judge_49 fl_9_69 rfl rfl rfl (by decide) ?_
      refine gd_bipush (v := nI 40) dX9_judge_52 (by decide) ?_
      refine gd_ild2 dX9_judge_54 ?_
      refine gd_imul dX9_judge_55 ?_
      refine gd_ild3 dX9_judge_56 ?_
      refine gd_iadd dX9_judge_57 ?_
      refine gd_lald (n := 160) dX9_judge_58 rfl (by decide) (by rw [pk_mul, nI_add]) (by omega) ?_
      refine gd_lst4 dX9_judge_59 rfl ?_
      refine gd_lld4 dX9_judge_61 ?_
      refine gd_lc0 dX9_judge_63 ?_
      refine gd_lcmp dX9_judge_64 ?_
      refine gd_if_lt_f 77 dX9_judge_65 (by decide) (fun y => z ((lg_cmp_lt _ _).mp y)) ?_
      refine gd_lld4 dX9_judge_68 ?_
      refine gd_ldc2 dX9_judge_70 l2_9_267 ?_
      refine gd_lcmp dX9_judge_73 ?_
      refine gd_if_le_f 83 dX9_judge_74 (by decide) (fun y => hx ⟨Int64.not_lt.mp z, hle _ ((lg_cmp_le _ _).mp y)⟩) ?_
      refine gd_ald0 dX9_judge_77 (by decide) ?_
      refine gd_ic1 dX9_judge_78 ?_
      refine gd_cV1i dX9_judge_79 ct_9_97 rc_72 ⟨Nat.le_of_ble_eq_true rfl, Nat.le_of_ble_eq_true rfl⟩ (Nat.le_of_ble_eq_true rfl) (Nat.le_of_ble_eq_true rfl) (m_f0 _) ?_
      refine gd_iret dX9_judge_82 rfl rfl ?_
      rfl
  · intro j hj ih l4 l5
    obtain ⟨v, hv, e⟩ := ha j hj
    have e : h.2 92 (40 * q + j) = lN v := e
    refine gd_ild3 dX9_judge_38 ?_
    refine gd_ald0 dX9_judge_39 (by decide) ?_
    refine gd_getR (r := 91) dX9_judge_40 fl_9_66 rfl rfl rfl (by decide) ?_
    refine gd_ild2 dX9_judge_43 ?_
    refine gd_iald (n := 4) dX9_judge_44 rfl (by decide) (by repeat' (first | with_reducible rfl | apply ni_add | apply ni_mul)) (by omega) ?_
    refine gd_icmp_ge_f 89 dX9_judge_45 (by decide) (by rw [hz]; exact nI_ge (by omega) (by omega)) ?_
    refine gd_ald0 dX9_judge_48 (by decide) ?_
    refine gd_getR (r := 92) dX9_judge_49 fl_9_69 rfl rfl rfl (by decide) ?_
    refine gd_bipush (v := nI 40) dX9_judge_52 (by decide) ?_
    refine gd_ild2 dX9_judge_54 ?_
    refine gd_imul dX9_judge_55 ?_
    refine gd_ild3 dX9_judge_56 ?_
    refine gd_iadd dX9_judge_57 ?_
    refine gd_lald (n := 160) dX9_judge_58 rfl (by decide) (by rw [pk_mul, nI_add]) (by omega) ?_
    refine gd_lst4 dX9_judge_59 rfl ?_
    refine gd_lld4 dX9_judge_61 ?_
    refine gd_lc0 dX9_judge_63 ?_
    refine gd_lcmp dX9_judge_64 ?_
    refine gd_if_lt_f 77 dX9_judge_65 (by decide) (fun z => lnot v 0 (by omega) (by rw [lg_cmp_lt, e] at z; exact z)) ?_
    refine gd_lld4 dX9_judge_68 ?_
    refine gd_ldc2 dX9_judge_70 l2_9_267 ?_
    refine gd_lcmp dX9_judge_73 ?_
    refine gd_if_le_t 83 dX9_judge_74 (by decide) ((lg_cmp_le _ _).mpr (by rw [e, lN_le (by omega) (by decide)]; omega)) ?_
    refine gd_iinc3 (b := nI 1) dX9_judge_83 (by decide) rfl ?_
    rw [nI_add]
    refine gd_goto 38 dX9_judge_86 (by decide) ?_
    exact ih _ _
theorem m_jud2 {h : Hp} {w cl : Nat → Nat} {d q n c : Nat} (hq : q < 4) (hn : n ≤ 40) (hc : ∀ k, k < n → cl k < 144) (hcc : c < 144) (e9 : h.1 91 q = nI n) (e7 : ∀ k, k < n → h.2 92 (40 * q + k) = lN (cl k)) {x : Option Value × Hp} (g : Gd mX9_judge 181 [.ref 72, .int (nI d), .int (nI q), .long (lN (hdN w (inL cl n) c)), .null, .int (nI c), .int (bi (inL cl n c)), .int (nI n)] [] h x) : Gd mX9_judge 133 [.ref 72, .int (nI d), .int (nI q), .long (lN (hdN w (inL cl n) c)), .null, .int (nI c), .int (bi (inL cl 0 c)), .int (nI 0)] [] h x := by
  refine loopG (P := fun k => Gd mX9_judge 133 [.ref 72, .int (nI d), .int (nI q), .long (lN (hdN w (inL cl n) c)), .null, .int (nI c), .int (bi (inL cl k c)), .int (nI k)] [] h x) (n := n) ?_ ?_ 0 (by omega)
  · refine gd_ild7 dX9_judge_133 ?_
    refine gd_ald0 dX9_judge_135 (by decide) ?_
    refine gd_getR (r := 91) dX9_judge_136 fl_9_66 rfl rfl rfl (by decide) ?_
    refine gd_ild2 dX9_judge_139 ?_
    refine gd_iald (n := 4) dX9_judge_140 rfl (by decide) (by repeat' (first | with_reducible rfl | apply ni_add | apply ni_mul)) (by omega) ?_
    refine gd_icmp_ge_t 181 dX9_judge_141 (by decide) (by rw [e9]; exact nI_le (by omega) (by omega)) ?_
    exact g
  · intro k hk ih
    have ck := hc k hk
    rw [inL_s] at ih
    cases b : inL cl k c with
    | true =>
      rw [b, Bool.true_or] at ih
      refine gd_ild7 dX9_judge_133 ?_
      refine gd_ald0 dX9_judge_135 (by decide) ?_
      refine gd_getR (r := 91) dX9_judge_136 fl_9_66 rfl rfl rfl (by decide) ?_
      refine gd_ild2 dX9_judge_139 ?_
      refine gd_iald (n := 4) dX9_judge_140 rfl (by decide) (by repeat' (first | with_reducible rfl | apply ni_add | apply ni_mul)) (by omega) ?_
      refine gd_icmp_ge_f 181 dX9_judge_141 (by decide) (by rw [e9]; exact nI_ge (by omega) (by omega)) ?_
      refine gd_ild6 dX9_judge_144 ?_
      refine gd_if_ne_t 168 dX9_judge_146 (by decide) (by decide) ?_
      refine gd_ic1 dX9_judge_168 ?_
      refine gd_goto 173 dX9_judge_169 (by decide) ?_
      refine gd_ist6 dX9_judge_173 rfl ?_
      refine gd_iinc7 (b := nI 1) dX9_judge_175 (by decide) rfl ?_
      rw [nI_add]
      refine gd_goto 133 dX9_judge_178 (by decide) ?_
      exact ih
    | false =>
      rw [b, Bool.false_or] at ih
      by_cases e : cl k = c
      · rw [decide_eq_true e] at ih
        refine gd_ild7 dX9_judge_133 ?_
        refine gd_ald0 dX9_judge_135 (by decide) ?_
        refine gd_getR (r := 91) dX9_judge_136 fl_9_66 rfl rfl rfl (by decide) ?_
        refine gd_ild2 dX9_judge_139 ?_
        refine gd_iald (n := 4) dX9_judge_140 rfl (by decide) (by repeat' (first | with_reducible rfl | apply ni_add | apply ni_mul)) (by omega) ?_
        refine gd_icmp_ge_f 181 dX9_judge_141 (by decide) (by rw [e9]; exact nI_ge (by omega) (by omega)) ?_
        refine gd_ild6 dX9_judge_144 ?_
        refine gd_if_ne_f 168 dX9_judge_146 (by decide) (by decide) ?_
        refine gd_ald0 dX9_judge_149 (by decide) ?_
        refine gd_getR (r := 92) dX9_judge_150 fl_9_69 rfl rfl rfl (by decide) ?_
        refine gd_bipush (v := nI 40) dX9_judge_153 (by decide) ?_
        refine gd_ild2 dX9_judge_155 ?_
        refine gd_imul dX9_judge_156 ?_
        refine gd_ild7 dX9_judge_157 ?_
        refine gd_iadd dX9_judge_159 ?_
        refine gd_lald (n := 160) dX9_judge_160 rfl (by decide) (by rw [pk_mul, nI_add]) (by omega) ?_
        rw [e7 k hk]
        refine gd_ild5 dX9_judge_161 ?_
        refine gd_i2l dX9_judge_163 ?_
        rw [i2l_n (by omega)]
        refine gd_lcmp dX9_judge_164 ?_
        refine gd_if_ne_f 172 dX9_judge_165 (by decide) ((lg_cmp_eq _ _).mpr (by rw [e])) ?_
        refine gd_ic1 dX9_judge_168 ?_
        refine gd_goto 173 dX9_judge_169 (by decide) ?_
        refine gd_ist6 dX9_judge_173 rfl ?_
        refine gd_iinc7 (b := nI 1) dX9_judge_175 (by decide) rfl ?_
        rw [nI_add]
        refine gd_goto 133 dX9_judge_178 (by decide) ?_
        exact ih
      · rw [decide_eq_false e] at ih
        refine gd_ild7 dX9_judge_133 ?_
        refine gd_ald0 dX9_judge_135 (by decide) ?_
        refine gd_getR (r := 91) dX9_judge_136 fl_9_66 rfl rfl rfl (by decide) ?_
        refine gd_ild2 dX9_judge_139 ?_
        refine gd_iald (n := 4) dX9_judge_140 rfl (by decide) (by repeat' (first | with_reducible rfl | apply ni_add | apply ni_mul)) (by omega) ?_
        refine gd_icmp_ge_f 181 dX9_judge_141 (by decide) (by rw [e9]; exact nI_ge (by omega) (by omega)) ?_
        refine gd_ild6 dX9_judge_144 ?_
        refine gd_if_ne_f 168 dX9_judge_146 (by decide) (by decide) ?_
        refine gd_ald0 dX9_judge_149 (by decide) ?_
        refine gd_getR (r := 92) dX9_judge_150 fl_9_69 rfl rfl rfl (by decide) ?_
        refine gd_bipush (v := nI 40) dX9_judge_153 (by decide) ?_
        refine gd_ild2 dX9_judge_155 ?_
        refine gd_imul dX9_judge_156 ?_
        refine gd_ild7 dX9_judge_157 ?_
        refine gd_iadd dX9_judge_159 ?_
        refine gd_lald (n := 160) dX9_judge_160 rfl (by decide) (by rw [pk_mul, nI_add]) (by omega) ?_
        rw [e7 k hk]
        refine gd_ild5 dX9_judge_161 ?_
        refine gd_i2l dX9_judge_163 ?_
        rw [i2l_n (by omega)]
        refine gd_lcmp dX9_judge_164 ?_
        refine gd_if_ne_t 172 dX9_judge_165 (by decide) (fun z => e ((lN_eq (by omega) (by omega)).mp ((lg_cmp_eq _ _).mp z))) ?_
        refine gd_ic0 dX9_judge_172 ?_
        refine gd_ist6 dX9_judge_173 rfl ?_
        refine gd_iinc7 (b := nI 1) dX9_judge_175 (by decide) rfl ?_
        rw [nI_add]
        refine gd_goto 133 dX9_judge_178 (by decide) ?_
        exact ih
theorem m_jud3 {h : Hp} {w cl : Nat → Nat} {d q n A : Nat} (hq : q < 4) (hn : n ≤ 40) (hA : A ≤ 6039797760) (A0 : 0 < A) (hs : sumN w 144 = A) (hc : ∀ k, k < n → cl k < 144) (e9 : h.1 91 q = nI n) (e7 : ∀ k, k < n → h.2 92 (40 * q + k) = lN (cl k)) (e8 : ∀ c, c < 144 → h.2 88 c = lN (w c)) (e2 : h.2 72 24 = lN A) : ∀ l6 l7, Gd mX9_judge 119 [.ref 72, .int (nI d), .int (nI q), .long (lN (hdN w (inL cl n) 0)), .null, .int (nI 0), l6, l7] [] h (some (.int (nI (hdN w (inL cl n) 144 * 100 / A))), h) := by
  refine loopG (P := fun c => ∀ l6 l7, Gd mX9_judge 119 [.ref 72, .int (nI d), .int (nI q), .long (lN (hdN w (inL cl n) c)), .null, .int (nI c), l6, l7] [] h (some (.int (nI (hdN w (inL cl n) 144 * 100 / A))), h)) (n := 144) ?_ ?_ 0 (by omega)
  · intro l6 l7
    have hl := hd_le w (inL cl n) 144
    rw [Nat.mul_comm (hdN w (inL cl n) 144) 100]
    refine gd_ild5 dX9_judge_119 ?_
    refine gd_sipush (v := nI 144) dX9_judge_121 (by decide) ?_
    refine gd_icmp_ge_t 206 dX9_judge_124 (by decide) (by exact nI_le (by omega) (by omega)) ?_
    refine gd_ldc2 dX9_judge_206 l2_9_265 ?_
    refine gd_lld3 dX9_judge_209 ?_
    refine gd_lmul dX9_judge_210 ?_
    rw [lN_mul]
    refine gd_ald0 dX9_judge_211 (by decide) ?_
    refine gd_getJ dX9_judge_212 fl_9_250 rfl rfl ?_
    rw [e2]
    refine gd_ldiv dX9_judge_215 (fun z => absurd ((pk_lEQ (a := A) (b := 0) (by omega) (by decide)).mp z) (by omega)) ?_
    rw [pk_lDiv (by omega) A0 (by omega)]
    refine gd_l2i dX9_judge_216 ?_
    rw [lN_i]
    refine gd_iret dX9_judge_217 rfl rfl ?_
    rfl
  · intro c hcc ih l6 l7
    have es : hdN w (inL cl n) (c + 1) = hdN w (inL cl n) c + (if inL cl n c = true then w c else 0) := rfl
    refine gd_ild5 dX9_judge_119 ?_
    refine gd_sipush (v := nI 144) dX9_judge_121 (by decide) ?_
    refine gd_icmp_ge_f 206 dX9_judge_124 (by decide) (by exact nI_ge (by omega) (by omega)) ?_
    refine gd_ic0 dX9_judge_127 ?_
    refine gd_ist6 dX9_judge_128 rfl ?_
    refine gd_ic0 dX9_judge_130 ?_
    refine gd_ist7 dX9_judge_131 rfl ?_
    refine m_jud2 hq hn hc hcc e9 e7 ?_
    cases b : inL cl n c with
    | true =>
      have ih := ih (.int (bi true)) (.int (nI n))
      rw [es, b, if_pos rfl] at ih
      refine gd_lld3 dX9_judge_181 ?_
      refine gd_ild6 dX9_judge_182 ?_
      refine gd_if_eq_f 197 dX9_judge_184 (by decide) (by decide) ?_
      refine gd_ald0 dX9_judge_187 (by decide) ?_
      refine gd_getR (r := 88) dX9_judge_188 fl_9_56 rfl rfl rfl (by decide) ?_
      refine gd_ild5 dX9_judge_191 ?_
      refine gd_lald (n := 144) dX9_judge_193 rfl (by decide) (by repeat' (first | with_reducible rfl | apply ni_add | apply ni_mul)) (by omega) ?_
      rw [e8 c hcc]
      refine gd_goto 198 dX9_judge_194 (by decide) ?_
      refine gd_ladd dX9_judge_198 ?_
      rw [lN_add]
      refine gd_lst3 dX9_judge_199 rfl ?_
      refine gd_iinc5 (b := nI 1) dX9_judge_200 (by decide) rfl ?_
      rw [nI_add]
      refine gd_goto 119 dX9_judge_203 (by decide) ?_
      exact ih
    | false =>
      have ih := ih (.int (bi false)) (.int (nI n))
      rw [es, b, if_neg (by decide)] at ih
      refine gd_lld3 dX9_judge_181 ?_
      refine gd_ild6 dX9_judge_182 ?_
      refine gd_if_eq_t 197 dX9_judge_184 (by decide) (by decide) ?_
      refine gd_lc0 dX9_judge_197 ?_
      refine gd_ladd dX9_judge_198 ?_
      rw [lN_add]
      refine gd_lst3 dX9_judge_199 rfl ?_
      refine gd_iinc5 (b := nI 1) dX9_judge_200 (by decide) rfl ?_
      rw [nI_add]
      refine gd_goto 119 dX9_judge_203 (by decide) ?_
      exact ih
set_option maxHeartbeats 2000000 in
theorem p_judge {h : Hp} (i : Inv h) (a b : Int32) : Pas mX8_judge mX9_judge [.ref 0, .int a, .int b, .null, .null, .null, .null, .null] [.ref 72, .int a, .int b, .null, .null, .null, .null, .null] h := by
  rcases rng a (4) (by decide) with ⟨d, hd, rfl⟩ | ha
  · rcases rng b (4) (by decide) with ⟨q, hq, rfl⟩ | hb
    · have e91 := (i.s.n q hq).1
      have l91 := (i.s.n q hq).2
      have e59 : h.1 59 q = nI (tn (h.1 91 q)) := (i.s.z q hq).trans e91
      rcases wid_ok i hq with e90 | ⟨wd, w0, w1, e90⟩
      · have e58 : h.1 58 q = nI 0 := (i.s.w q hq).trans e90
        refine Pas.find (h1 := h) (h2 := hf (h) 5) (v := -1000000006) (w := (-1000000000 : Int32) - nI 6) 5 i (by decide) (by decide) (by decide) (Same.rf _) (Same.rf _) ?_ ?_
        · refine gd_ild1 dX8_judge_0 ?_
          refine gd_ic4 dX8_judge_1 ?_
          refine gd_cS2i dX8_judge_2 ct_8_48 ⟨Nat.le_of_ble_eq_true rfl, Nat.le_of_ble_eq_true rfl⟩ (Nat.le_of_ble_eq_true rfl) (Nat.le_of_ble_eq_true rfl) (c_isBelow_t hd (by decide) _) ?_
          refine gd_if_eq_f 16 dX8_judge_5 (by decide) (by decide) ?_
          refine gd_ild2 dX8_judge_8 ?_
          refine gd_ic4 dX8_judge_9 ?_
          refine gd_cS2i dX8_judge_10 ct_8_48 ⟨Nat.le_of_ble_eq_true rfl, Nat.le_of_ble_eq_true rfl⟩ (Nat.le_of_ble_eq_true rfl) (Nat.le_of_ble_eq_true rfl) (c_isBelow_t hq (by decide) _) ?_
          refine gd_if_ne_t 23 dX8_judge_13 (by decide) (by decide) ?_
          refine gd_ald0 dX8_judge_23 (by decide) ?_
          refine gd_getR (r := 56) dX8_judge_24 fl_8_33 rfl rfl rfl (by decide) ?_
          refine gd_ild2 dX8_judge_27 ?_
          refine gd_cV1i dX8_judge_28 ct_8_82 rc_56 ⟨Nat.le_of_ble_eq_true rfl, Nat.le_of_ble_eq_true rfl⟩ (Nat.le_of_ble_eq_true rfl) (Nat.le_of_ble_eq_true rfl) (c_isMissing1 hq e58) ?_
          refine gd_if_eq_f 41 dX8_judge_31 (by decide) (by decide) ?_
          refine gd_ald0 dX8_judge_34 (by decide) ?_
          refine gd_ldc dX8_judge_35 ld_8_85 ?_
          refine gd_cV1i dX8_judge_37 ct_8_53 rc_0 ⟨Nat.le_of_ble_eq_true rfl, Nat.le_of_ble_eq_true rfl⟩ (Nat.le_of_ble_eq_true rfl) (Nat.le_of_ble_eq_true rfl) (c_f5 _) ?_
          refine gd_iret dX8_judge_40 rfl rfl ?_
          rfl
        · refine gd_ild1 dX9_judge_0 ?_
          refine gd_cS1i dX9_judge_1 ct_9_259 ⟨Nat.le_of_ble_eq_true rfl, Nat.le_of_ble_eq_true rfl⟩ (Nat.le_of_ble_eq_true rfl) (Nat.le_of_ble_eq_true rfl) (m_isDepth_t hd _) ?_
          refine gd_if_eq_f 14 dX9_judge_4 (by decide) (by decide) ?_
          refine gd_ild2 dX9_judge_7 ?_
          refine gd_cS1i dX9_judge_8 ct_9_104 ⟨Nat.le_of_ble_eq_true rfl, Nat.le_of_ble_eq_true rfl⟩ (Nat.le_of_ble_eq_true rfl) (Nat.le_of_ble_eq_true rfl) (m_isSheet_t hq _) ?_
          refine gd_if_ne_t 20 dX9_judge_11 (by decide) (by decide) ?_
          refine gd_ald0 dX9_judge_20 (by decide) ?_
          refine gd_getR (r := 90) dX9_judge_21 fl_9_63 rfl rfl rfl (by decide) ?_
          refine gd_ild2 dX9_judge_24 ?_
          refine gd_iald (n := 4) dX9_judge_25 rfl (by decide) (by repeat' (first | with_reducible rfl | apply ni_add | apply ni_mul)) (by omega) ?_
          refine gd_if_ne_f 36 dX9_judge_26 (by decide) (by rw [show (hf h 5).1 90 q = nI 0 from e90]; decide) ?_
          refine gd_ald0 dX9_judge_29 (by decide) ?_
          refine gd_bipush (v := nI 6) dX9_judge_30 (by decide) ?_
          refine gd_cV1i dX9_judge_32 ct_9_97 rc_72 ⟨Nat.le_of_ble_eq_true rfl, Nat.le_of_ble_eq_true rfl⟩ (Nat.le_of_ble_eq_true rfl) (Nat.le_of_ble_eq_true rfl) (m_f5 _) ?_
          refine gd_iret dX9_judge_35 rfl rfl ?_
          rfl
      · have e58 : h.1 58 q = nI wd := (i.s.w q hq).trans e90
        rcases belD (fun j => h.2 92 (40 * q + j)) 144 (by decide) (tn (h.1 91 q)) with ha2 | ⟨k, hk, ha2, hx⟩
        · obtain ⟨h1, gt, f1, v1⟩ := c_take i.w i.c (-1)
          have c1 := f1.cr i.c
          obtain ⟨h3, g3, f3, v3, r3⟩ := c_weighGrid i.w v1 hd
          have al := al_le (ms h) (-1) d
          have f13 := f1.tr f3
          have ec : ∀ k, k < (tn (h.1 91 q)) → h.2 92 (40 * q + k) = lN ((fun k => tn (h.2 92 (40 * q + k)).toInt32) k) ∧ (fun k => tn (h.2 92 (40 * q + k)).toInt32) k < 144 := by
            intro k hk
            obtain ⟨v, hv, e⟩ := ha2 k hk
            have e : h.2 92 (40 * q + k) = lN v := e
            show _ = lN (tn (h.2 92 (40 * q + k)).toInt32) ∧ tn (h.2 92 (40 * q + k)).toInt32 < 144
            rw [e, lN_i, tn_nI (by omega)]
            exact ⟨rfl, hv⟩
          by_cases z0 : (alN (ms h) (-1) d) = 0
          · have e1 : ms (hf h3 3) = ms h := by rw [ms_hf]; exact f13.same.msE
            obtain ⟨h2, gp, f2, v2⟩ := m_prepare (h := hf h3 3) (by rw [e1]; exact i.w) (-1)
            rw [e1] at v2
            obtain ⟨h4, gs, sw⟩ := m_sweep i.w v2 hd
            have ao : h4.2 72 24 = lN 0 := sw.2.2.2.1.trans (congrArg lN z0)
            have z91 : (hf h3 3).1 91 q = nI (tn (h.1 91 q)) := (congrFun (f13.1 91 (by decide)) q).trans e91
            have z90 : (hf h3 3).1 90 q = nI wd := (congrFun (f13.1 90 (by decide)) q).trans e90
            have zB : ∀ j, j < (tn (h.1 91 q)) → inB (fun j => (hf h3 3).2 92 (40 * q + j)) 144 j := fun j hj => by
              obtain ⟨v, hv, e⟩ := ha2 j hj
              exact ⟨v, hv, (congrFun (f13.2 92 (by decide)) _).trans e⟩
            refine Pas.find (h1 := h3) (h2 := h4) (v := -1000000004) (w := (-1000000000 : Int32) - nI 4) 3 i (by decide) (by decide) (by decide) f13.same (f2.tr sw.1).same ?_ ?_
            · refine gd_ild1 dX8_judge_0 ?_
              refine gd_ic4 dX8_judge_1 ?_
              refine gd_cS2i dX8_judge_2 ct_8_48 ⟨Nat.le_of_ble_eq_true rfl, Nat.le_of_ble_eq_true rfl⟩ (Nat.le_of_ble_eq_true rfl) (Nat.le_of_ble_eq_true rfl) (c_isBelow_t hd (by decide) _) ?_
              refine gd_if_eq_f 16 dX8_judge_5 (by decide) (by decide) ?_
              refine gd_ild2 dX8_judge_8 ?_
              refine gd_ic4 dX8_judge_9 ?_
              refine gd_cS2i dX8_judge_10 ct_8_48 ⟨Nat.le_of_ble_eq_true rfl, Nat.le_of_ble_eq_true rfl⟩ (Nat.le_of_ble_eq_true rfl) (Nat.le_of_ble_eq_true rfl) (c_isBelow_t hq (by decide) _) ?_
              refine gd_if_ne_t 23 dX8_judge_13 (by decide) (by decide) ?_
              refine gd_ald0 dX8_judge_23 (by decide) ?_
              refine gd_getR (r := 56) dX8_judge_24 fl_8_33 rfl rfl rfl (by decide) ?_
              refine gd_ild2 dX8_judge_27 ?_
              refine gd_cV1i dX8_judge_28 ct_8_82 rc_56 ⟨Nat.le_of_ble_eq_true rfl, Nat.le_of_ble_eq_true rfl⟩ (Nat.le_of_ble_eq_true rfl) (Nat.le_of_ble_eq_true rfl) (c_isMissing0 hq e58 w0 w1) ?_
              refine gd_if_eq_t 41 dX8_judge_31 (by decide) (by decide) ?_
              refine gd_ald0 dX8_judge_41 (by decide) ?_
              refine gd_getR (r := 56) dX8_judge_42 fl_8_33 rfl rfl rfl (by decide) ?_
              refine gd_ild2 dX8_judge_45 ?_
              refine gd_sipush (v := nI 144) dX8_judge_46 (by decide) ?_
              refine gd_cV2i dX8_judge_49 ct_8_90 rc_56 ⟨Nat.le_of_ble_eq_true rfl, Nat.le_of_ble_eq_true rfl⟩ (Nat.le_of_ble_eq_true rfl) (Nat.le_of_ble_eq_true rfl) (c_allBelow_t hq e59 l91 (by decide) (fun j hj => by obtain ⟨v, hv, e⟩ := ha2 j hj; exact ⟨v, hv, (i.s.x _ (by omega)).trans e⟩)) ?_
              refine gd_if_ne_t 62 dX8_judge_52 (by decide) (by decide) ?_
              refine gd_ald0 dX8_judge_62 (by decide) ?_
              refine gd_getR (r := 60) dX8_judge_63 fl_8_40 rfl rfl rfl (by decide) ?_
              refine gd_ald0 dX8_judge_66 (by decide) ?_
              refine gd_getR (r := 1) dX8_judge_67 fl_8_12 rfl rfl rfl (by decide) ?_
              refine gd_icm1 dX8_judge_70 ?_
              refine gd_cV2v dX8_judge_71 ct_8_211 rc_60 ⟨Nat.le_of_ble_eq_true rfl, Nat.le_of_ble_eq_true rfl⟩ (Nat.le_of_ble_eq_true rfl) (Nat.le_of_ble_eq_true rfl) (gt) ?_
              refine gd_ald0 dX8_judge_74 (by decide) ?_
              refine gd_getR (r := 60) dX8_judge_75 fl_8_40 rfl rfl rfl (by decide) ?_
              refine gd_ild1 dX8_judge_78 ?_
              refine gd_cV1l dX8_judge_79 ct_8_259 rc_60 ⟨Nat.le_of_ble_eq_true rfl, Nat.le_of_ble_eq_true rfl⟩ (Nat.le_of_ble_eq_true rfl) (Nat.le_of_ble_eq_true rfl) (g3) ?_
              refine gd_lst3 dX8_judge_82 rfl ?_
              refine gd_lld3 dX8_judge_83 ?_
              refine gd_lc0 dX8_judge_84 ?_
              refine gd_lcmp dX8_judge_85 ?_
              refine gd_if_ne_f 96 dX8_judge_86 (by decide) ((lg_cmp_eq _ _).mpr (congrArg lN z0)) ?_
              refine gd_ald0 dX8_judge_89 (by decide) ?_
              refine gd_ldc dX8_judge_90 ld_8_174 ?_
              refine gd_cV1i dX8_judge_92 ct_8_53 rc_0 ⟨Nat.le_of_ble_eq_true rfl, Nat.le_of_ble_eq_true rfl⟩ (Nat.le_of_ble_eq_true rfl) (Nat.le_of_ble_eq_true rfl) (c_f3 _) ?_
              refine gd_iret dX8_judge_95 rfl rfl ?_
              rfl
            · refine gd_ild1 dX9_judge_0 ?_
              refine gd_cS1i dX9_judge_1 ct_9_259 ⟨Nat.le_of_ble_eq_true rfl, Nat.le_of_ble_eq_true rfl⟩ (Nat.le_of_ble_eq_true rfl) (Nat.le_of_ble_eq_true rfl) (m_isDepth_t hd _) ?_
              refine gd_if_eq_f 14 dX9_judge_4 (by decide) (by decide) ?_
              refine gd_ild2 dX9_judge_7 ?_
              refine gd_cS1i dX9_judge_8 ct_9_104 ⟨Nat.le_of_ble_eq_true rfl, Nat.le_of_ble_eq_true rfl⟩ (Nat.le_of_ble_eq_true rfl) (Nat.le_of_ble_eq_true rfl) (m_isSheet_t hq _) ?_
              refine gd_if_ne_t 20 dX9_judge_11 (by decide) (by decide) ?_
              refine gd_ald0 dX9_judge_20 (by decide) ?_
              refine gd_getR (r := 90) dX9_judge_21 fl_9_63 rfl rfl rfl (by decide) ?_
              refine gd_ild2 dX9_judge_24 ?_
              refine gd_iald (n := 4) dX9_judge_25 rfl (by decide) (by repeat' (first | with_reducible rfl | apply ni_add | apply ni_mul)) (by omega) ?_
              refine gd_if_ne_t 36 dX9_judge_26 (by decide) (by rw [z90]; exact nI_ne0 w0 (by omega)) ?_
              refine gd_ic0 dX9_judge_36 ?_
              refine gd_ist3 dX9_judge_37 rfl ?_
              exact m_jud1_t (h := hf h3 3) (n := (tn (h.1 91 q))) hq z91 l91 zB (fun l4 l5 => by
                refine gd_ald0 dX9_judge_89 (by decide) ?_
                refine gd_icm1 dX9_judge_90 ?_
                refine gd_cV1v dX9_judge_91 ct_9_216 rc_72 ⟨Nat.le_of_ble_eq_true rfl, Nat.le_of_ble_eq_true rfl⟩ (Nat.le_of_ble_eq_true rfl) (Nat.le_of_ble_eq_true rfl) (gp) ?_
                refine gd_ald0 dX9_judge_94 (by decide) ?_
                refine gd_ild1 dX9_judge_95 ?_
                refine gd_cV1v dX9_judge_96 ct_9_262 rc_72 ⟨Nat.le_of_ble_eq_true rfl, Nat.le_of_ble_eq_true rfl⟩ (Nat.le_of_ble_eq_true rfl) (Nat.le_of_ble_eq_true rfl) (gs) ?_
                refine gd_ald0 dX9_judge_99 (by decide) ?_
                refine gd_getJ dX9_judge_100 fl_9_250 rfl rfl ?_
                refine gd_lc0 dX9_judge_103 ?_
                refine gd_lcmp dX9_judge_104 ?_
                refine gd_if_ne_f 114 dX9_judge_105 (by decide) ((lg_cmp_eq _ _).mpr ao) ?_
                refine gd_ald0 dX9_judge_108 (by decide) ?_
                refine gd_ic4 dX9_judge_109 ?_
                refine gd_cV1i dX9_judge_110 ct_9_97 rc_72 ⟨Nat.le_of_ble_eq_true rfl, Nat.le_of_ble_eq_true rfl⟩ (Nat.le_of_ble_eq_true rfl) (Nat.le_of_ble_eq_true rfl) (m_f3 _) ?_
                refine gd_iret dX9_judge_113 rfl rfl ?_
                rfl) _ _
          · obtain ⟨h5, g5, f5⟩ := c_judge (w := (owN (ms h) (-1) d)) (cl := (fun k => tn (h.2 92 (40 * q + k)).toInt32)) (d := d) (q := q) (A := (alN (ms h) (-1) d)) (n := (tn (h.1 91 q))) hq l91 (fun c => by have := ow_le (ms h) (-1) d c; omega) al (by omega) rfl (fun k hk => (ec k hk).2) 0 (by omega) h3 ((congrFun (f13.1 59 (by decide)) q).trans e59) (fun k hk => (congrFun (f13.2 57 (by decide)) _).trans ((i.s.x _ (by omega)).trans (ec k hk).1)) r3
            have f15 := f13.tr f5
            have e1 : ms h5 = ms h := f15.same.msE
            obtain ⟨h2, gp, f2, v2⟩ := m_prepare (h := h5) (by rw [e1]; exact i.w) (-1)
            rw [e1] at v2
            obtain ⟨h4, gs, sw⟩ := m_sweep i.w v2 hd
            have f24 := f2.tr sw.1
            have z91 : h5.1 91 q = nI (tn (h.1 91 q)) := (congrFun (f15.1 91 (by decide)) q).trans e91
            have z90 : h5.1 90 q = nI wd := (congrFun (f15.1 90 (by decide)) q).trans e90
            have zB : ∀ j, j < (tn (h.1 91 q)) → inB (fun j => h5.2 92 (40 * q + j)) 144 j := fun j hj => by
              obtain ⟨v, hv, e⟩ := ha2 j hj
              exact ⟨v, hv, (congrFun (f15.2 92 (by decide)) _).trans e⟩
            have g6 := m_jud3 (h := h4) (w := (owN (ms h) (-1) d)) (cl := (fun k => tn (h.2 92 (40 * q + k)).toInt32)) (d := d) (q := q) (n := (tn (h.1 91 q))) (A := (alN (ms h) (-1) d)) hq l91 al (by omega) rfl (fun k hk => (ec k hk).2) ((congrFun (f24.1 91 (by decide) (by decide) (by decide) (by decide) (by decide)) q).trans z91) (fun k hk => (congrFun (f24.2.2 92 (by decide) (by decide)) _).trans ((congrFun (f15.2 92 (by decide)) _).trans (ec k hk).1)) sw.2.2.1 sw.2.2.2.1
            have h00 : hdN (owN (ms h) (-1) d) (inL (fun k => tn (h.2 92 (40 * q + k)).toInt32) 0) 144 = 0 := sum_z _ (fun _ => rfl)
            rw [h00] at g5
            refine Pas.read (h1 := h5) (h2 := h4) (r := .int (nI (hdN (owN (ms h) (-1) d) (inL (fun k => tn (h.2 92 (40 * q + k)).toInt32) (tn (h.1 91 q))) 144 * 100 / (alN (ms h) (-1) d)))) i rfl (f15).same (f24).same ?_ ?_
            · refine gd_ild1 dX8_judge_0 ?_
              refine gd_ic4 dX8_judge_1 ?_
              refine gd_cS2i dX8_judge_2 ct_8_48 ⟨Nat.le_of_ble_eq_true rfl, Nat.le_of_ble_eq_true rfl⟩ (Nat.le_of_ble_eq_true rfl) (Nat.le_of_ble_eq_true rfl) (c_isBelow_t hd (by decide) _) ?_
              refine gd_if_eq_f 16 dX8_judge_5 (by decide) (by decide) ?_
              refine gd_ild2 dX8_judge_8 ?_
              refine gd_ic4 dX8_judge_9 ?_
              refine gd_cS2i dX8_judge_10 ct_8_48 ⟨Nat.le_of_ble_eq_true rfl, Nat.le_of_ble_eq_true rfl⟩ (Nat.le_of_ble_eq_true rfl) (Nat.le_of_ble_eq_true rfl) (c_isBelow_t hq (by decide) _) ?_
              refine gd_if_ne_t 23 dX8_judge_13 (by decide) (by decide) ?_
              refine gd_ald0 dX8_judge_23 (by decide) ?_
              refine gd_getR (r := 56) dX8_judge_24 fl_8_33 rfl rfl rfl (by decide) ?_
              refine gd_ild2 dX8_judge_27 ?_
              refine gd_cV1i dX8_judge_28 ct_8_82 rc_56 ⟨Nat.le_of_ble_eq_true rfl, Nat.le_of_ble_eq_true rfl⟩ (Nat.le_of_ble_eq_true rfl) (Nat.le_of_ble_eq_true rfl) (c_isMissing0 hq e58 w0 w1) ?_
              refine gd_if_eq_t 41 dX8_judge_31 (by decide) (by decide) ?_
              refine gd_ald0 dX8_judge_41 (by decide) ?_
              refine gd_getR (r := 56) dX8_judge_42 fl_8_33 rfl rfl rfl (by decide) ?_
              refine gd_ild2 dX8_judge_45 ?_
              refine gd_sipush (v := nI 144) dX8_judge_46 (by decide) ?_
              refine gd_cV2i dX8_judge_49 ct_8_90 rc_56 ⟨Nat.le_of_ble_eq_true rfl, Nat.le_of_ble_eq_true rfl⟩ (Nat.le_of_ble_eq_true rfl) (Nat.le_of_ble_eq_true rfl) (c_allBelow_t hq e59 l91 (by decide) (fun j hj => by obtain ⟨v, hv, e⟩ := ha2 j hj; exact ⟨v, hv, (i.s.x _ (by omega)).trans e⟩)) ?_
              refine gd_if_ne_t 62 dX8_judge_52 (by decide) (by decide) ?_
              refine gd_ald0 dX8_judge_62 (by decide) ?_
              refine gd_getR (r := 60) dX8_judge_63 fl_8_40 rfl rfl rfl (by decide) ?_
              refine gd_ald0 dX8_judge_66 (by decide) ?_
              refine gd_getR (r := 1) dX8_judge_67 fl_8_12 rfl rfl rfl (by decide) ?_
              refine gd_icm1 dX8_judge_70 ?_
              refine gd_cV2v dX8_judge_71 ct_8_211 rc_60 ⟨Nat.le_of_ble_eq_true rfl, Nat.le_of_ble_eq_true rfl⟩ (Nat.le_of_ble_eq_true rfl) (Nat.le_of_ble_eq_true rfl) (gt) ?_
              refine gd_ald0 dX8_judge_74 (by decide) ?_
              refine gd_getR (r := 60) dX8_judge_75 fl_8_40 rfl rfl rfl (by decide) ?_
              refine gd_ild1 dX8_judge_78 ?_
              refine gd_cV1l dX8_judge_79 ct_8_259 rc_60 ⟨Nat.le_of_ble_eq_true rfl, Nat.le_of_ble_eq_true rfl⟩ (Nat.le_of_ble_eq_true rfl) (Nat.le_of_ble_eq_true rfl) (g3) ?_
              refine gd_lst3 dX8_judge_82 rfl ?_
              refine gd_lld3 dX8_judge_83 ?_
              refine gd_lc0 dX8_judge_84 ?_
              refine gd_lcmp dX8_judge_85 ?_
              refine gd_if_ne_t 96 dX8_judge_86 (by decide) (fun y => z0 ((pk_lEQ (by omega) (by decide)).mp ((lg_cmp_eq _ _).mp y))) ?_
              refine gd_lc0 dX8_judge_96 ?_
              refine gd_lst5 dX8_judge_97 rfl ?_
              refine gd_ic0 dX8_judge_99 ?_
              refine gd_ist7 dX8_judge_100 rfl ?_
              exact g5
            · refine gd_ild1 dX9_judge_0 ?_
              refine gd_cS1i dX9_judge_1 ct_9_259 ⟨Nat.le_of_ble_eq_true rfl, Nat.le_of_ble_eq_true rfl⟩ (Nat.le_of_ble_eq_true rfl) (Nat.le_of_ble_eq_true rfl) (m_isDepth_t hd _) ?_
              refine gd_if_eq_f 14 dX9_judge_4 (by decide) (by decide) ?_
              refine gd_ild2 dX9_judge_7 ?_
              refine gd_cS1i dX9_judge_8 ct_9_104 ⟨Nat.le_of_ble_eq_true rfl, Nat.le_of_ble_eq_true rfl⟩ (Nat.le_of_ble_eq_true rfl) (Nat.le_of_ble_eq_true rfl) (m_isSheet_t hq _) ?_
              refine gd_if_ne_t 20 dX9_judge_11 (by decide) (by decide) ?_
              refine gd_ald0 dX9_judge_20 (by decide) ?_
              refine gd_getR (r := 90) dX9_judge_21 fl_9_63 rfl rfl rfl (by decide) ?_
              refine gd_ild2 dX9_judge_24 ?_
              refine gd_iald (n := 4) dX9_judge_25 rfl (by decide) (by repeat' (first | with_reducible rfl | apply ni_add | apply ni_mul)) (by omega) ?_
              refine gd_if_ne_t 36 dX9_judge_26 (by decide) (by rw [z90]; exact nI_ne0 w0 (by omega)) ?_
              refine gd_ic0 dX9_judge_36 ?_
              refine gd_ist3 dX9_judge_37 rfl ?_
              exact m_jud1_t (h := h5) (n := (tn (h.1 91 q))) hq z91 l91 zB (fun l4 l5 => by
                refine gd_ald0 dX9_judge_89 (by decide) ?_
                refine gd_icm1 dX9_judge_90 ?_
                refine gd_cV1v dX9_judge_91 ct_9_216 rc_72 ⟨Nat.le_of_ble_eq_true rfl, Nat.le_of_ble_eq_true rfl⟩ (Nat.le_of_ble_eq_true rfl) (Nat.le_of_ble_eq_true rfl) (gp) ?_
                refine gd_ald0 dX9_judge_94 (by decide) ?_
                refine gd_ild1 dX9_judge_95 ?_
                refine gd_cV1v dX9_judge_96 ct_9_262 rc_72 ⟨Nat.le_of_ble_eq_true rfl, Nat.le_of_ble_eq_true rfl⟩ (Nat.le_of_ble_eq_true rfl) (Nat.le_of_ble_eq_true rfl) (gs) ?_
                refine gd_ald0 dX9_judge_99 (by decide) ?_
                refine gd_getJ dX9_judge_100 fl_9_250 rfl rfl ?_
                rw [show h4.2 72 24 = lN (alN (ms h) (-1) d) from sw.2.2.2.1]
                refine gd_lc0 dX9_judge_103 ?_
                refine gd_lcmp dX9_judge_104 ?_
                refine gd_if_ne_t 114 dX9_judge_105 (by decide) (fun y => z0 ((pk_lEQ (by omega) (by decide)).mp ((lg_cmp_eq _ _).mp y))) ?_
                refine gd_lc0 dX9_judge_114 ?_
                refine gd_lst3 dX9_judge_115 rfl ?_
                refine gd_ic0 dX9_judge_116 ?_
                refine gd_ist5 dX9_judge_117 rfl ?_
                exact g6 _ _) _ _
        · refine Pas.find (h1 := h) (h2 := hf (h) 0) (v := -1000000001) (w := (-1000000000 : Int32) - nI 1) 0 i (by decide) (by decide) (by decide) (Same.rf _) (Same.rf _) ?_ ?_
          · refine gd_ild1 dX8_judge_0 ?_
            refine gd_ic4 dX8_judge_1 ?_
            refine gd_cS2i dX8_judge_2 ct_8_48 ⟨Nat.le_of_ble_eq_true rfl, Nat.le_of_ble_eq_true rfl⟩ (Nat.le_of_ble_eq_true rfl) (Nat.le_of_ble_eq_true rfl) (c_isBelow_t hd (by decide) _) ?_
            refine gd_if_eq_f 16 dX8_judge_5 (by decide) (by decide) ?_
            refine gd_ild2 dX8_judge_8 ?_
            refine gd_ic4 dX8_judge_9 ?_
            refine gd_cS2i dX8_judge_10 ct_8_48 ⟨Nat.le_of_ble_eq_true rfl, Nat.le_of_ble_eq_true rfl⟩ (Nat.le_of_ble_eq_true rfl) (Nat.le_of_ble_eq_true rfl) (c_isBelow_t hq (by decide) _) ?_
            refine gd_if_ne_t 23 dX8_judge_13 (by decide) (by decide) ?_
            refine gd_ald0 dX8_judge_23 (by decide) ?_
            refine gd_getR (r := 56) dX8_judge_24 fl_8_33 rfl rfl rfl (by decide) ?_
            refine gd_ild2 dX8_judge_27 ?_
            refine gd_cV1i dX8_judge_28 ct_8_82 rc_56 ⟨Nat.le_of_ble_eq_true rfl, Nat.le_of_ble_eq_true rfl⟩ (Nat.le_of_ble_eq_true rfl) (Nat.le_of_ble_eq_true rfl) (c_isMissing0 hq e58 w0 w1) ?_
            refine gd_if_eq_t 41 dX8_judge_31 (by decide) (by decide) ?_
            refine gd_ald0 dX8_judge_41 (by decide) ?_
            refine gd_getR (r := 56) dX8_judge_42 fl_8_33 rfl rfl rfl (by decide) ?_
            refine gd_ild2 dX8_judge_45 ?_
            refine gd_sipush (v := nI 144) dX8_judge_46 (by decide) ?_
            refine gd_cV2i dX8_judge_49 ct_8_90 rc_56 ⟨Nat.le_of_ble_eq_true rfl, Nat.le_of_ble_eq_true rfl⟩ (Nat.le_of_ble_eq_true rfl) (Nat.le_of_ble_eq_true rfl) (c_allBelow_f hq e59 l91 (by decide) hk (fun j hj => by obtain ⟨v, hv, e⟩ := ha2 j hj; exact ⟨v, hv, (i.s.x _ (by omega)).trans e⟩) (by rw [i.s.x _ (by omega)]; exact hx)) ?_
            refine gd_if_ne_f 62 dX8_judge_52 (by decide) (by decide) ?_
            refine gd_ald0 dX8_judge_55 (by decide) ?_
            refine gd_ldc dX8_judge_56 ld_8_52 ?_
            refine gd_cV1i dX8_judge_58 ct_8_53 rc_0 ⟨Nat.le_of_ble_eq_true rfl, Nat.le_of_ble_eq_true rfl⟩ (Nat.le_of_ble_eq_true rfl) (Nat.le_of_ble_eq_true rfl) (c_f0 _) ?_
            refine gd_iret dX8_judge_61 rfl rfl ?_
            rfl
          · refine gd_ild1 dX9_judge_0 ?_
            refine gd_cS1i dX9_judge_1 ct_9_259 ⟨Nat.le_of_ble_eq_true rfl, Nat.le_of_ble_eq_true rfl⟩ (Nat.le_of_ble_eq_true rfl) (Nat.le_of_ble_eq_true rfl) (m_isDepth_t hd _) ?_
            refine gd_if_eq_f 14 dX9_judge_4 (by decide) (by decide) ?_
            refine gd_ild2 dX9_judge_7 ?_
            refine gd_cS1i dX9_judge_8 ct_9_104 ⟨Nat.le_of_ble_eq_true rfl, Nat.le_of_ble_eq_true rfl⟩ (Nat.le_of_ble_eq_true rfl) (Nat.le_of_ble_eq_true rfl) (m_isSheet_t hq _) ?_
            refine gd_if_ne_t 20 dX9_judge_11 (by decide) (by decide) ?_
            refine gd_ald0 dX9_judge_20 (by decide) ?_
            refine gd_getR (r := 90) dX9_judge_21 fl_9_63 rfl rfl rfl (by decide) ?_
            refine gd_ild2 dX9_judge_24 ?_
            refine gd_iald (n := 4) dX9_judge_25 rfl (by decide) (by repeat' (first | with_reducible rfl | apply ni_add | apply ni_mul)) (by omega) ?_
            refine gd_if_ne_t 36 dX9_judge_26 (by decide) (by rw [show (hf h 0).1 90 q = nI wd from e90]; exact nI_ne0 w0 (by omega)) ?_
            refine gd_ic0 dX9_judge_36 ?_
            refine gd_ist3 dX9_judge_37 rfl ?_
            exact m_jud1_f (h := hf h 0) hq e91 l91 hk ha2 hx _ _
    · refine Pas.find (h1 := h) (h2 := hf (h) 0) (v := -1000000001) (w := (-1000000000 : Int32) - nI 1) 0 i (by decide) (by decide) (by decide) (Same.rf _) (Same.rf _) ?_ ?_
      · refine gd_ild1 dX8_judge_0 ?_
        refine gd_ic4 dX8_judge_1 ?_
        refine gd_cS2i dX8_judge_2 ct_8_48 ⟨Nat.le_of_ble_eq_true rfl, Nat.le_of_ble_eq_true rfl⟩ (Nat.le_of_ble_eq_true rfl) (Nat.le_of_ble_eq_true rfl) (c_isBelow_t hd (by decide) _) ?_
        refine gd_if_eq_f 16 dX8_judge_5 (by decide) (by decide) ?_
        refine gd_ild2 dX8_judge_8 ?_
        refine gd_ic4 dX8_judge_9 ?_
        refine gd_cS2i dX8_judge_10 ct_8_48 ⟨Nat.le_of_ble_eq_true rfl, Nat.le_of_ble_eq_true rfl⟩ (Nat.le_of_ble_eq_true rfl) (Nat.le_of_ble_eq_true rfl) (c_isBelow_f hb _) ?_
        refine gd_if_ne_f 23 dX8_judge_13 (by decide) (by decide) ?_
        refine gd_ald0 dX8_judge_16 (by decide) ?_
        refine gd_ldc dX8_judge_17 ld_8_52 ?_
        refine gd_cV1i dX8_judge_19 ct_8_53 rc_0 ⟨Nat.le_of_ble_eq_true rfl, Nat.le_of_ble_eq_true rfl⟩ (Nat.le_of_ble_eq_true rfl) (Nat.le_of_ble_eq_true rfl) (c_f0 _) ?_
        refine gd_iret dX8_judge_22 rfl rfl ?_
        rfl
      · refine gd_ild1 dX9_judge_0 ?_
        refine gd_cS1i dX9_judge_1 ct_9_259 ⟨Nat.le_of_ble_eq_true rfl, Nat.le_of_ble_eq_true rfl⟩ (Nat.le_of_ble_eq_true rfl) (Nat.le_of_ble_eq_true rfl) (m_isDepth_t hd _) ?_
        refine gd_if_eq_f 14 dX9_judge_4 (by decide) (by decide) ?_
        refine gd_ild2 dX9_judge_7 ?_
        refine gd_cS1i dX9_judge_8 ct_9_104 ⟨Nat.le_of_ble_eq_true rfl, Nat.le_of_ble_eq_true rfl⟩ (Nat.le_of_ble_eq_true rfl) (Nat.le_of_ble_eq_true rfl) (m_isSheet_f hb _) ?_
        refine gd_if_ne_f 20 dX9_judge_11 (by decide) (by decide) ?_
        refine gd_ald0 dX9_judge_14 (by decide) ?_
        refine gd_ic1 dX9_judge_15 ?_
        refine gd_cV1i dX9_judge_16 ct_9_97 rc_72 ⟨Nat.le_of_ble_eq_true rfl, Nat.le_of_ble_eq_true rfl⟩ (Nat.le_of_ble_eq_true rfl) (Nat.le_of_ble_eq_true rfl) (m_f0 _) ?_
        refine gd_iret dX9_judge_19 rfl rfl ?_
        rfl
  · refine Pas.find (h1 := h) (h2 := hf (h) 0) (v := -1000000001) (w := (-1000000000 : Int32) - nI 1) 0 i (by decide) (by decide) (by decide) (Same.rf _) (Same.rf _) ?_ ?_
    · refine gd_ild1 dX8_judge_0 ?_
      refine gd_ic4 dX8_judge_1 ?_
      refine gd_cS2i dX8_judge_2 ct_8_48 ⟨Nat.le_of_ble_eq_true rfl, Nat.le_of_ble_eq_true rfl⟩ (Nat.le_of_ble_eq_true rfl) (Nat.le_of_ble_eq_true rfl) (c_isBelow_f ha _) ?_
      refine gd_if_eq_t 16 dX8_judge_5 (by decide) (by decide) ?_
      refine gd_ald0 dX8_judge_16 (by decide) ?_
      refine gd_ldc dX8_judge_17 ld_8_52 ?_
      refine gd_cV1i dX8_judge_19 ct_8_53 rc_0 ⟨Nat.le_of_ble_eq_true rfl, Nat.le_of_ble_eq_true rfl⟩ (Nat.le_of_ble_eq_true rfl) (Nat.le_of_ble_eq_true rfl) (c_f0 _) ?_
      refine gd_iret dX8_judge_22 rfl rfl ?_
      rfl
    · refine gd_ild1 dX9_judge_0 ?_
      refine gd_cS1i dX9_judge_1 ct_9_259 ⟨Nat.le_of_ble_eq_true rfl, Nat.le_of_ble_eq_true rfl⟩ (Nat.le_of_ble_eq_true rfl) (Nat.le_of_ble_eq_true rfl) (m_isDepth_f ha _) ?_
      refine gd_if_eq_t 14 dX9_judge_4 (by decide) (by decide) ?_
      refine gd_ald0 dX9_judge_14 (by decide) ?_
      refine gd_ic1 dX9_judge_15 ?_
      refine gd_cV1i dX9_judge_16 ct_9_97 rc_72 ⟨Nat.le_of_ble_eq_true rfl, Nat.le_of_ble_eq_true rfl⟩ (Nat.le_of_ble_eq_true rfl) (Nat.le_of_ble_eq_true rfl) (m_f0 _) ?_
      refine gd_iret dX9_judge_19 rfl rfl ?_
      rfl
