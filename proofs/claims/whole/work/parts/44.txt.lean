
/-! ===== all rules of a text ===== -/
def h5 (h : Hp) (v : Int32) : Hp := sI h 51 (upd (h.1 51) 5 v)
theorem h5_h5 (h : Hp) (u v : Int32) : h5 (h5 h u) v = h5 h v := by unfold h5; rw [sI_s, upd_upd, sI_sI]
theorem h5_t {h : Hp} {b : Nat → Nat} {N : Nat} (t : TPB h b N) (v : Int32) : TPB (h5 h v) b N := ⟨t.1, t.2.1, t.2.2⟩
theorem tpF_5 (f : Nat → Int32) (s x k v u : Int32) : upd (tpF f s x k v) 5 u = tpF (upd f 5 u) s x k v := by
  funext j; unfold tpF; rw [upd_at, upd_at]
  by_cases a : j = 5
  · rw [if_pos a, if_neg (by omega), if_neg (by omega), if_neg (by omega), if_neg (by omega), if_pos a]
  · rw [if_neg a, if_neg a]
theorem tpF_u7 (f : Nat → Int32) (s x k v u : Int32) : tpF (upd f 7 u) s x k v = tpF f s x k v := by
  funext j; unfold tpF; rw [upd_at]
  by_cases a : j = 7
  · rw [if_neg (by omega), if_pos a, if_neg (by omega), if_pos a]
  · simp only [if_neg a]
theorem mpF_u16 (f : Nat → Int32) (s x k u : Int32) : mpF (upd f 16 u) s x k = mpF f s x k := by
  funext j; unfold mpF; rw [upd_at]
  by_cases a : j = 16
  · rw [if_neg (by omega), if_pos a, if_neg (by omega), if_pos a]
  · simp only [if_neg a]
theorem hR_5 (h : Hp) (b : Nat → Nat) (N e : Nat) (K L G : Nat → Int32) (v : Int32) : sI (hR h b N e K L G) 51 (upd ((hR h b N e K L G).1 51) 5 v) = hR (h5 h v) b N e K L G := by
  have e1 : (hR h b N e K L G).1 51 = tpF (h.1 51) (nI (tkS b N e)) (nI (tkX b N e)) (nI (tkK b N e)) (nI (tkV b N e)) := rfl
  rw [e1, tpF_5]
  unfold hR hTk hT h5
  rw [sI_s, sI_cm (k := 55) (j := 51) (by decide), sI_cm (k := 54) (j := 51) (by decide), sI_cm (k := 53) (j := 51) (by decide), sI_sI, sI_sI]
theorem hR_id (h : Hp) (b : Nat → Nat) (N e : Nat) : hR h b N e (h.1 53) (h.1 54) (h.1 55) = hTk h b N e := by
  unfold hR
  rw [show h.1 53 = (hTk h b N e).1 53 from rfl, sI_id, show h.1 54 = (hTk h b N e).1 54 from rfl, sI_id, show h.1 55 = (hTk h b N e).1 55 from rfl, sI_id]
def pcT (k : Nat) : Nat := if k < 6 then 22 else 80
def tEnd (H : Hp) (x : Nat) (fr n : Int32) : Hp := sI (sI (sI (sI H 79 (upd (H.1 79) (2 * x) fr)) 79 (upd (upd (H.1 79) (2 * x) fr) (2 * x + 1) n)) 74 (upd (H.1 74) 2 (H.1 74 2 + nI 1))) 72 (upd (H.1 72) 14 (nI 0))
def TxF (b : Nat → Nat) (N k e f : Nat) : Prop := f ≤ 120 ∧
  (∀ (h : Hp) (K L G : Nat → Int32), TPB h b N → ∃ n e' K' L' G', Gd mX5_readText (pcT k) [.ref 51, .int (nI k)] [] (hR (h5 h (nI k)) b N e K L G) (some (.int (nI f)), hR (h5 h (nI n)) b N e' K' L' G')) ∧
  (∀ (h : Hp) (R : Nat → Int32) (x : Nat) (fr : Int32), MPB h b N → h.1 74 2 = nI x → x < 8 → ∃ e' R', Gd mX9_text 52 [.ref 72, .int fr, .int (nI k), .int (nI 1)] [] (hW h b N e (-1) R) (some (.int (-1 - nI f)), hW h b N e' (nI f) R') ∧ ∀ j, j < 4 * (6 * x + k) → R' j = R j)
def TxO (b : Nat → Nat) (N k e n : Nat) (Q : Nat → Nat × Nat × Nat × Nat) : Prop := k < n ∧ n ≤ 6 ∧ (∀ r, k ≤ r → r < n → RulOK (nI (Q r).1) (nI (Q r).2.1) (nI (Q r).2.2.1) (nI (Q r).2.2.2)) ∧
  (∀ (h : Hp) (K L G : Nat → Int32), TPB h b N → ∃ e' K' L' G', Gd mX5_readText (pcT k) [.ref 51, .int (nI k)] [] (hR (h5 h (nI k)) b N e K L G) (some (.int (-1)), hR (h5 h (nI n)) b N e' K' L' G') ∧ (∀ j, j < k → K' j = K j ∧ L' j = L j ∧ G' j = G j) ∧ ∀ r, k ≤ r → r < n → K' r = keyI (nI (Q r).1) (nI (Q r).2.1) ∧ L' r = nI (Q r).2.2.1 ∧ G' r = nI (Q r).2.2.2) ∧
  (∀ (h : Hp) (R : Nat → Int32) (x : Nat) (fr : Int32), MPB h b N → h.1 74 2 = nI x → x < 8 → ∃ e' R', Gd mX9_text 52 [.ref 72, .int fr, .int (nI k), .int (nI 1)] [] (hW h b N e (-1) R) (some (.int (nI x)), tEnd (hW h b N e' (-1) R') x fr (nI n)) ∧ (∀ j, j < 4 * (6 * x + k) → R' j = R j) ∧ ∀ r, k ≤ r → r < n → R' (4 * (6 * x + r)) = nI (Q r).1 ∧ R' (4 * (6 * x + r) + 1) = nI (Q r).2.1 ∧ R' (4 * (6 * x + r) + 2) = nI (Q r).2.2.1 ∧ R' (4 * (6 * x + r) + 3) = nI (Q r).2.2.2)

theorem c_rt70 {h : Hp} {b : Nat → Nat} {N k e : Nat} {K L G : Nat → Int32} {x : Option Value × Hp} (t : TPB h b N) (he : e ≤ N) (hk : k < 6) (g : Gd mX5_readText (pcT (k + 1)) [.ref 51, .int (nI (k + 1))] [] (hR h b N (tkX b N e) K L G) x) : Gd mX5_readText 70 [.ref 51, .int (nI k)] [] (hR h b N e K L G) x := by
  by_cases q : k + 1 < 6
  · rw [show pcT (k + 1) = 22 from if_pos q] at g
    refine gd_iinc1 (b := nI 1) dX5_readText_70 (by decide) rfl ?_
    rw [nI_add]
    refine gd_goto 12 dX5_readText_73 (by decide) ?_
    refine gd_ild1 dX5_readText_12 ?_
    refine gd_bipush (v := nI 6) dX5_readText_13 (by decide) ?_
    refine gd_icmp_ge_f 76 dX5_readText_15 (by decide) (by exact nI_ge (by omega) (by omega)) ?_
    refine gd_ald0 dX5_readText_18 (by decide) ?_
    refine gd_cV0v dX5_readText_19 ct_5_34 rc_51 ⟨Nat.le_of_ble_eq_true rfl, Nat.le_of_ble_eq_true rfl⟩ (Nat.le_of_ble_eq_true rfl) (Nat.le_of_ble_eq_true rfl) (cR_adv t he) ?_
    exact g
  · rw [show pcT (k + 1) = 80 from if_neg q] at g
    refine gd_iinc1 (b := nI 1) dX5_readText_70 (by decide) rfl ?_
    rw [nI_add]
    refine gd_goto 12 dX5_readText_73 (by decide) ?_
    refine gd_ild1 dX5_readText_12 ?_
    refine gd_bipush (v := nI 6) dX5_readText_13 (by decide) ?_
    refine gd_icmp_ge_t 76 dX5_readText_15 (by decide) (by exact nI_le (by omega) (by omega)) ?_
    refine gd_ald0 dX5_readText_76 (by decide) ?_
    refine gd_cV0v dX5_readText_77 ct_5_34 rc_51 ⟨Nat.le_of_ble_eq_true rfl, Nat.le_of_ble_eq_true rfl⟩ (Nat.le_of_ble_eq_true rfl) (Nat.le_of_ble_eq_true rfl) (cR_adv t he) ?_
    exact g
theorem mW_rule6 {h : Hp} {b : Nat → Nat} {N e x : Nat} {R : Nat → Int32} (t : MPB h b N) (he : e ≤ N) (hx : h.1 74 2 = nI x) : Gd mX9_wantRule 0 [.ref 72, .int (nI 6), .null, .null, .null, .null, .null] [] (hW h b N e (-1) R) (none, hW h b N e (nI (tkS b N e)) R) := by
  by_cases nw : isNm b N e ch0 4
  · refine gd_ic4 dX9_wantRule_0 ?_
    refine gd_bipush (v := nI 6) dX9_wantRule_1 (by decide) ?_
    refine gd_ald0 dX9_wantRule_3 (by decide) ?_
    refine gd_getR (r := 74) dX9_wantRule_4 fl_9_13 rfl rfl rfl (by decide) ?_
    refine gd_ic2 dX9_wantRule_7 ?_
    refine gd_iald (n := 5) dX9_wantRule_8 rfl (by decide) (by repeat' (first | with_reducible rfl | apply ni_add | apply ni_mul)) (by omega) ?_
    refine gd_imul dX9_wantRule_9 ?_
    refine gd_ild1 dX9_wantRule_10 ?_
    refine gd_iadd dX9_wantRule_11 ?_
    refine gd_imul dX9_wantRule_12 ?_
    refine gd_ist2 dX9_wantRule_13 rfl ?_
    refine gd_ald0 dX9_wantRule_14 (by decide) ?_
    refine gd_ldc2 dX9_wantRule_15 l2_9_185 ?_
    refine gd_cV1i dX9_wantRule_18 ct_9_187 rc_72 ⟨Nat.le_of_ble_eq_true rfl, Nat.le_of_ble_eq_true rfl⟩ (Nat.le_of_ble_eq_true rfl) (Nat.le_of_ble_eq_true rfl) (mW_nm0_t t he nw) ?_
    refine gd_if_eq_f 28 dX9_wantRule_21 (by decide) (by decide) ?_
    refine gd_ic0 dX9_wantRule_24 ?_
    refine gd_goto 71 dX9_wantRule_25 (by decide) ?_
    refine gd_ist3 dX9_wantRule_71 rfl ?_
    refine gd_ald0 dX9_wantRule_72 (by decide) ?_
    refine gd_ild3 dX9_wantRule_73 ?_
    refine gd_if_lt_f 87 dX9_wantRule_74 (by decide) (by decide) ?_
    refine gd_ild1 dX9_wantRule_77 ?_
    refine gd_bipush (v := nI 6) dX9_wantRule_78 (by decide) ?_
    refine gd_icmp_ge_t 87 dX9_wantRule_80 (by decide) (by decide) ?_
    refine gd_ic0 dX9_wantRule_87 ?_
    refine gd_cV1v dX9_wantRule_88 ct_9_181 rc_72 ⟨Nat.le_of_ble_eq_true rfl, Nat.le_of_ble_eq_true rfl⟩ (Nat.le_of_ble_eq_true rfl) (Nat.le_of_ble_eq_true rfl) (mW_want_f t he) ?_
    refine gd_ald0 dX9_wantRule_91 (by decide) ?_
    refine gd_getI dX9_wantRule_92 fl_9_175 rfl rfl ?_
    rw [hW_19]
    refine gd_if_lt_f 99 dX9_wantRule_95 (by decide) (nI_pos (by have := mS_le t he; omega)) ?_
    refine gd_vret dX9_wantRule_98 rfl ?_
    rfl
  · by_cases nr : isNm b N e ch2 6
    · refine gd_ic4 dX9_wantRule_0 ?_
      refine gd_bipush (v := nI 6) dX9_wantRule_1 (by decide) ?_
      refine gd_ald0 dX9_wantRule_3 (by decide) ?_
      refine gd_getR (r := 74) dX9_wantRule_4 fl_9_13 rfl rfl rfl (by decide) ?_
      refine gd_ic2 dX9_wantRule_7 ?_
      refine gd_iald (n := 5) dX9_wantRule_8 rfl (by decide) (by repeat' (first | with_reducible rfl | apply ni_add | apply ni_mul)) (by omega) ?_
      refine gd_imul dX9_wantRule_9 ?_
      refine gd_ild1 dX9_wantRule_10 ?_
      refine gd_iadd dX9_wantRule_11 ?_
      refine gd_imul dX9_wantRule_12 ?_
      refine gd_ist2 dX9_wantRule_13 rfl ?_
      refine gd_ald0 dX9_wantRule_14 (by decide) ?_
      refine gd_ldc2 dX9_wantRule_15 l2_9_185 ?_
      refine gd_cV1i dX9_wantRule_18 ct_9_187 rc_72 ⟨Nat.le_of_ble_eq_true rfl, Nat.le_of_ble_eq_true rfl⟩ (Nat.le_of_ble_eq_true rfl) (Nat.le_of_ble_eq_true rfl) (mW_nm0_f t he nw) ?_
      refine gd_if_eq_t 28 dX9_wantRule_21 (by decide) (by decide) ?_
      refine gd_ald0 dX9_wantRule_28 (by decide) ?_
      refine gd_ldc2 dX9_wantRule_29 l2_9_191 ?_
      refine gd_cV1i dX9_wantRule_32 ct_9_187 rc_72 ⟨Nat.le_of_ble_eq_true rfl, Nat.le_of_ble_eq_true rfl⟩ (Nat.le_of_ble_eq_true rfl) (Nat.le_of_ble_eq_true rfl) (mW_nm2_t t he nr) ?_
      refine gd_if_eq_f 42 dX9_wantRule_35 (by decide) (by decide) ?_
      refine gd_ic1 dX9_wantRule_38 ?_
      refine gd_goto 71 dX9_wantRule_39 (by decide) ?_
      refine gd_ist3 dX9_wantRule_71 rfl ?_
      refine gd_ald0 dX9_wantRule_72 (by decide) ?_
      refine gd_ild3 dX9_wantRule_73 ?_
      refine gd_if_lt_f 87 dX9_wantRule_74 (by decide) (by decide) ?_
      refine gd_ild1 dX9_wantRule_77 ?_
      refine gd_bipush (v := nI 6) dX9_wantRule_78 (by decide) ?_
      refine gd_icmp_ge_t 87 dX9_wantRule_80 (by decide) (by decide) ?_
      refine gd_ic0 dX9_wantRule_87 ?_
      refine gd_cV1v dX9_wantRule_88 ct_9_181 rc_72 ⟨Nat.le_of_ble_eq_true rfl, Nat.le_of_ble_eq_true rfl⟩ (Nat.le_of_ble_eq_true rfl) (Nat.le_of_ble_eq_true rfl) (mW_want_f t he) ?_
      refine gd_ald0 dX9_wantRule_91 (by decide) ?_
      refine gd_getI dX9_wantRule_92 fl_9_175 rfl rfl ?_
      rw [hW_19]
      refine gd_if_lt_f 99 dX9_wantRule_95 (by decide) (nI_pos (by have := mS_le t he; omega)) ?_
      refine gd_vret dX9_wantRule_98 rfl ?_
      rfl
    · by_cases nf : isNm b N e ch4 5
      · refine gd_ic4 dX9_wantRule_0 ?_
        refine gd_bipush (v := nI 6) dX9_wantRule_1 (by decide) ?_
        refine gd_ald0 dX9_wantRule_3 (by decide) ?_
        refine gd_getR (r := 74) dX9_wantRule_4 fl_9_13 rfl rfl rfl (by decide) ?_
        refine gd_ic2 dX9_wantRule_7 ?_
        refine gd_iald (n := 5) dX9_wantRule_8 rfl (by decide) (by repeat' (first | with_reducible rfl | apply ni_add | apply ni_mul)) (by omega) ?_
        refine gd_imul dX9_wantRule_9 ?_
        refine gd_ild1 dX9_wantRule_10 ?_
        refine gd_iadd dX9_wantRule_11 ?_
        refine gd_imul dX9_wantRule_12 ?_
        refine gd_ist2 dX9_wantRule_13 rfl ?_
        refine gd_ald0 dX9_wantRule_14 (by decide) ?_
        refine gd_ldc2 dX9_wantRule_15 l2_9_185 ?_
        refine gd_cV1i dX9_wantRule_18 ct_9_187 rc_72 ⟨Nat.le_of_ble_eq_true rfl, Nat.le_of_ble_eq_true rfl⟩ (Nat.le_of_ble_eq_true rfl) (Nat.le_of_ble_eq_true rfl) (mW_nm0_f t he nw) ?_
        refine gd_if_eq_t 28 dX9_wantRule_21 (by decide) (by decide) ?_
        refine gd_ald0 dX9_wantRule_28 (by decide) ?_
        refine gd_ldc2 dX9_wantRule_29 l2_9_191 ?_
        refine gd_cV1i dX9_wantRule_32 ct_9_187 rc_72 ⟨Nat.le_of_ble_eq_true rfl, Nat.le_of_ble_eq_true rfl⟩ (Nat.le_of_ble_eq_true rfl) (Nat.le_of_ble_eq_true rfl) (mW_nm2_f t he nr) ?_
        refine gd_if_eq_t 42 dX9_wantRule_35 (by decide) (by decide) ?_
        refine gd_ald0 dX9_wantRule_42 (by decide) ?_
        refine gd_ldc2 dX9_wantRule_43 l2_9_193 ?_
        refine gd_cV1i dX9_wantRule_46 ct_9_187 rc_72 ⟨Nat.le_of_ble_eq_true rfl, Nat.le_of_ble_eq_true rfl⟩ (Nat.le_of_ble_eq_true rfl) (Nat.le_of_ble_eq_true rfl) (mW_nm4_t t he nf) ?_
        refine gd_if_eq_f 56 dX9_wantRule_49 (by decide) (by decide) ?_
        refine gd_ic2 dX9_wantRule_52 ?_
        refine gd_goto 71 dX9_wantRule_53 (by decide) ?_
        refine gd_ist3 dX9_wantRule_71 rfl ?_
        refine gd_ald0 dX9_wantRule_72 (by decide) ?_
        refine gd_ild3 dX9_wantRule_73 ?_
        refine gd_if_lt_f 87 dX9_wantRule_74 (by decide) (by decide) ?_
        refine gd_ild1 dX9_wantRule_77 ?_
        refine gd_bipush (v := nI 6) dX9_wantRule_78 (by decide) ?_
        refine gd_icmp_ge_t 87 dX9_wantRule_80 (by decide) (by decide) ?_
        refine gd_ic0 dX9_wantRule_87 ?_
        refine gd_cV1v dX9_wantRule_88 ct_9_181 rc_72 ⟨Nat.le_of_ble_eq_true rfl, Nat.le_of_ble_eq_true rfl⟩ (Nat.le_of_ble_eq_true rfl) (Nat.le_of_ble_eq_true rfl) (mW_want_f t he) ?_
        refine gd_ald0 dX9_wantRule_91 (by decide) ?_
        refine gd_getI dX9_wantRule_92 fl_9_175 rfl rfl ?_
        rw [hW_19]
        refine gd_if_lt_f 99 dX9_wantRule_95 (by decide) (nI_pos (by have := mS_le t he; omega)) ?_
        refine gd_vret dX9_wantRule_98 rfl ?_
        rfl
      · by_cases ng : isNm b N e ch5 6
        · refine gd_ic4 dX9_wantRule_0 ?_
          refine gd_bipush (v := nI 6) dX9_wantRule_1 (by decide) ?_
          refine gd_ald0 dX9_wantRule_3 (by decide) ?_
          refine gd_getR (r := 74) dX9_wantRule_4 fl_9_13 rfl rfl rfl (by decide) ?_
          refine gd_ic2 dX9_wantRule_7 ?_
          refine gd_iald (n := 5) dX9_wantRule_8 rfl (by decide) (by repeat' (first | with_reducible rfl | apply ni_add | apply ni_mul)) (by omega) ?_
          refine gd_imul dX9_wantRule_9 ?_
          refine gd_ild1 dX9_wantRule_10 ?_
          refine gd_iadd dX9_wantRule_11 ?_
          refine gd_imul dX9_wantRule_12 ?_
          refine gd_ist2 dX9_wantRule_13 rfl ?_
          refine gd_ald0 dX9_wantRule_14 (by decide) ?_
          refine gd_ldc2 dX9_wantRule_15 l2_9_185 ?_
          refine gd_cV1i dX9_wantRule_18 ct_9_187 rc_72 ⟨Nat.le_of_ble_eq_true rfl, Nat.le_of_ble_eq_true rfl⟩ (Nat.le_of_ble_eq_true rfl) (Nat.le_of_ble_eq_true rfl) (mW_nm0_f t he nw) ?_
          refine gd_if_eq_t 28 dX9_wantRule_21 (by decide) (by decide) ?_
          refine gd_ald0 dX9_wantRule_28 (by decide) ?_
          refine gd_ldc2 dX9_wantRule_29 l2_9_191 ?_
          refine gd_cV1i dX9_wantRule_32 ct_9_187 rc_72 ⟨Nat.le_of_ble_eq_true rfl, Nat.le_of_ble_eq_true rfl⟩ (Nat.le_of_ble_eq_true rfl) (Nat.le_of_ble_eq_true rfl) (mW_nm2_f t he nr) ?_
          refine gd_if_eq_t 42 dX9_wantRule_35 (by decide) (by decide) ?_
          refine gd_ald0 dX9_wantRule_42 (by decide) ?_
          refine gd_ldc2 dX9_wantRule_43 l2_9_193 ?_
          refine gd_cV1i dX9_wantRule_46 ct_9_187 rc_72 ⟨Nat.le_of_ble_eq_true rfl, Nat.le_of_ble_eq_true rfl⟩ (Nat.le_of_ble_eq_true rfl) (Nat.le_of_ble_eq_true rfl) (mW_nm4_f t he nf) ?_
          refine gd_if_eq_t 56 dX9_wantRule_49 (by decide) (by decide) ?_
          refine gd_ald0 dX9_wantRule_56 (by decide) ?_
          refine gd_ldc2 dX9_wantRule_57 l2_9_195 ?_
          refine gd_cV1i dX9_wantRule_60 ct_9_187 rc_72 ⟨Nat.le_of_ble_eq_true rfl, Nat.le_of_ble_eq_true rfl⟩ (Nat.le_of_ble_eq_true rfl) (Nat.le_of_ble_eq_true rfl) (mW_nm5_t t he ng) ?_
          refine gd_if_eq_f 70 dX9_wantRule_63 (by decide) (by decide) ?_
          refine gd_ic3 dX9_wantRule_66 ?_
          refine gd_goto 71 dX9_wantRule_67 (by decide) ?_
          refine gd_ist3 dX9_wantRule_71 rfl ?_
          refine gd_ald0 dX9_wantRule_72 (by decide) ?_
          refine gd_ild3 dX9_wantRule_73 ?_
          refine gd_if_lt_f 87 dX9_wantRule_74 (by decide) (by decide) ?_
          refine gd_ild1 dX9_wantRule_77 ?_
          refine gd_bipush (v := nI 6) dX9_wantRule_78 (by decide) ?_
          refine gd_icmp_ge_t 87 dX9_wantRule_80 (by decide) (by decide) ?_
          refine gd_ic0 dX9_wantRule_87 ?_
          refine gd_cV1v dX9_wantRule_88 ct_9_181 rc_72 ⟨Nat.le_of_ble_eq_true rfl, Nat.le_of_ble_eq_true rfl⟩ (Nat.le_of_ble_eq_true rfl) (Nat.le_of_ble_eq_true rfl) (mW_want_f t he) ?_
          refine gd_ald0 dX9_wantRule_91 (by decide) ?_
          refine gd_getI dX9_wantRule_92 fl_9_175 rfl rfl ?_
          rw [hW_19]
          refine gd_if_lt_f 99 dX9_wantRule_95 (by decide) (nI_pos (by have := mS_le t he; omega)) ?_
          refine gd_vret dX9_wantRule_98 rfl ?_
          rfl
        · refine gd_ic4 dX9_wantRule_0 ?_
          refine gd_bipush (v := nI 6) dX9_wantRule_1 (by decide) ?_
          refine gd_ald0 dX9_wantRule_3 (by decide) ?_
          refine gd_getR (r := 74) dX9_wantRule_4 fl_9_13 rfl rfl rfl (by decide) ?_
          refine gd_ic2 dX9_wantRule_7 ?_
          refine gd_iald (n := 5) dX9_wantRule_8 rfl (by decide) (by repeat' (first | with_reducible rfl | apply ni_add | apply ni_mul)) (by omega) ?_
          refine gd_imul dX9_wantRule_9 ?_
          refine gd_ild1 dX9_wantRule_10 ?_
          refine gd_iadd dX9_wantRule_11 ?_
          refine gd_imul dX9_wantRule_12 ?_
          refine gd_ist2 dX9_wantRule_13 rfl ?_
          refine gd_ald0 dX9_wantRule_14 (by decide) ?_
          refine gd_ldc2 dX9_wantRule_15 l2_9_185 ?_
          refine gd_cV1i dX9_wantRule_18 ct_9_187 rc_72 ⟨Nat.le_of_ble_eq_true rfl, Nat.le_of_ble_eq_true rfl⟩ (Nat.le_of_ble_eq_true rfl) (Nat.le_of_ble_eq_true rfl) (mW_nm0_f t he nw) ?_
          refine gd_if_eq_t 28 dX9_wantRule_21 (by decide) (by decide) ?_
          refine gd_ald0 dX9_wantRule_28 (by decide) ?_
          refine gd_ldc2 dX9_wantRule_29 l2_9_191 ?_
          refine gd_cV1i dX9_wantRule_32 ct_9_187 rc_72 ⟨Nat.le_of_ble_eq_true rfl, Nat.le_of_ble_eq_true rfl⟩ (Nat.le_of_ble_eq_true rfl) (Nat.le_of_ble_eq_true rfl) (mW_nm2_f t he nr) ?_
          refine gd_if_eq_t 42 dX9_wantRule_35 (by decide) (by decide) ?_
          refine gd_ald0 dX9_wantRule_42 (by decide) ?_
          refine gd_ldc2 dX9_wantRule_43 l2_9_193 ?_
          refine gd_cV1i dX9_wantRule_46 ct_9_187 rc_72 ⟨Nat.le_of_ble_eq_true rfl, Nat.le_of_ble_eq_true rfl⟩ (Nat.le_of_ble_eq_true rfl) (Nat.le_of_ble_eq_true rfl) (mW_nm4_f t he nf) ?_
          refine gd_if_eq_t 56 dX9_wantRule_49 (by decide) (by decide) ?_
          refine gd_ald0 dX9_wantRule_56 (by decide) ?_
          refine gd_ldc2 dX9_wantRule_57 l2_9_195 ?_
          refine gd_cV1i dX9_wantRule_60 ct_9_187 rc_72 ⟨Nat.le_of_ble_eq_true rfl, Nat.le_of_ble_eq_true rfl⟩ (Nat.le_of_ble_eq_true rfl) (Nat.le_of_ble_eq_true rfl) (mW_nm5_f t he ng) ?_
          refine gd_if_eq_t 70 dX9_wantRule_63 (by decide) (by decide) ?_
          refine gd_icm1 dX9_wantRule_70 ?_
          refine gd_ist3 dX9_wantRule_71 rfl ?_
          refine gd_ald0 dX9_wantRule_72 (by decide) ?_
          refine gd_ild3 dX9_wantRule_73 ?_
          refine gd_if_lt_t 87 dX9_wantRule_74 (by decide) (by decide) ?_
          refine gd_ic0 dX9_wantRule_87 ?_
          refine gd_cV1v dX9_wantRule_88 ct_9_181 rc_72 ⟨Nat.le_of_ble_eq_true rfl, Nat.le_of_ble_eq_true rfl⟩ (Nat.le_of_ble_eq_true rfl) (Nat.le_of_ble_eq_true rfl) (mW_want_f t he) ?_
          refine gd_ald0 dX9_wantRule_91 (by decide) ?_
          refine gd_getI dX9_wantRule_92 fl_9_175 rfl rfl ?_
          rw [hW_19]
          refine gd_if_lt_f 99 dX9_wantRule_95 (by decide) (nI_pos (by have := mS_le t he; omega)) ?_
          refine gd_vret dX9_wantRule_98 rfl ?_
          rfl
theorem m_txd {h : Hp} {b : Nat → Nat} {N k e f : Nat} {R : Nat → Int32} {fr : Int32} (hf : f ≤ 120) : Gd mX9_text 97 [.ref 72, .int fr, .int (nI k), .int (nI 0)] [] (hW h b N e (nI f) R) (some (.int (-1 - nI f)), hW h b N e (nI f) R) := by
  refine gd_ald0 dX9_text_97 (by decide) ?_
  refine gd_ald0 dX9_text_98 (by decide) ?_
  refine gd_getI dX9_text_99 fl_9_162 rfl rfl ?_
  rw [hW_17]
  refine gd_if_ne 109 dX9_text_102 (by decide) (fun c102 => ?_) (fun c102 => ?_)
  · refine gd_ic0 dX9_text_109 ?_
    refine gd_cV1v dX9_text_110 ct_9_181 rc_72 ⟨Nat.le_of_ble_eq_true rfl, Nat.le_of_ble_eq_true rfl⟩ (Nat.le_of_ble_eq_true rfl) (Nat.le_of_ble_eq_true rfl) (mW_want_d hf _) ?_
    refine gd_ald0 dX9_text_113 (by decide) ?_
    refine gd_getI dX9_text_114 fl_9_175 rfl rfl ?_
    rw [hW_19]
    refine gd_if_lt_f 127 dX9_text_117 (by decide) (by exact nI_pos (by omega)) ?_
    refine gd_icm1 dX9_text_120 ?_
    refine gd_ald0 dX9_text_121 (by decide) ?_
    refine gd_getI dX9_text_122 fl_9_175 rfl rfl ?_
    rw [hW_19]
    refine gd_isub dX9_text_125 ?_
    refine gd_iret dX9_text_126 rfl rfl ?_
    rfl
  · refine gd_ic1 dX9_text_105 ?_
    refine gd_goto 110 dX9_text_106 (by decide) ?_
    refine gd_cV1v dX9_text_110 ct_9_181 rc_72 ⟨Nat.le_of_ble_eq_true rfl, Nat.le_of_ble_eq_true rfl⟩ (Nat.le_of_ble_eq_true rfl) (Nat.le_of_ble_eq_true rfl) (mW_want_d hf _) ?_
    refine gd_ald0 dX9_text_113 (by decide) ?_
    refine gd_getI dX9_text_114 fl_9_175 rfl rfl ?_
    rw [hW_19]
    refine gd_if_lt_f 127 dX9_text_117 (by decide) (by exact nI_pos (by omega)) ?_
    refine gd_icm1 dX9_text_120 ?_
    refine gd_ald0 dX9_text_121 (by decide) ?_
    refine gd_getI dX9_text_122 fl_9_175 rfl rfl ?_
    rw [hW_19]
    refine gd_isub dX9_text_125 ?_
    refine gd_iret dX9_text_126 rfl rfl ?_
    rfl
theorem m_txf {h : Hp} {b : Nat → Nat} {N k e : Nat} {R : Nat → Int32} {fr : Int32} (t : MPB h b N) (he : e ≤ N) (q : ¬ tkK b N e = 0) : Gd mX9_text 97 [.ref 72, .int fr, .int (nI k), .int (nI 0)] [] (hW h b N e (-1) R) (some (.int (-1 - nI (tkS b N e))), hW h b N e (nI (tkS b N e)) R) := by
  have ll := tkL_lt (b := b) (N := N) (e := e)
  have l : ¬ tkL b N e = 0 := fun z => q (tkL_0.mp z)
  have := mS_le t he
  refine gd_ald0 dX9_text_97 (by decide) ?_
  refine gd_ald0 dX9_text_98 (by decide) ?_
  refine gd_getI dX9_text_99 fl_9_162 rfl rfl ?_
  rw [hW_17]
  refine gd_if_ne_t 109 dX9_text_102 (by decide) (by exact nI_ne0 (by omega) (by omega)) ?_
  refine gd_ic0 dX9_text_109 ?_
  refine gd_cV1v dX9_text_110 ct_9_181 rc_72 ⟨Nat.le_of_ble_eq_true rfl, Nat.le_of_ble_eq_true rfl⟩ (Nat.le_of_ble_eq_true rfl) (Nat.le_of_ble_eq_true rfl) (mW_want_f t he) ?_
  refine gd_ald0 dX9_text_113 (by decide) ?_
  refine gd_getI dX9_text_114 fl_9_175 rfl rfl ?_
  rw [hW_19]
  refine gd_if_lt_f 127 dX9_text_117 (by decide) (by exact nI_pos (by omega)) ?_
  refine gd_icm1 dX9_text_120 ?_
  refine gd_ald0 dX9_text_121 (by decide) ?_
  refine gd_getI dX9_text_122 fl_9_175 rfl rfl ?_
  rw [hW_19]
  refine gd_isub dX9_text_125 ?_
  refine gd_iret dX9_text_126 rfl rfl ?_
  rfl
theorem m_txo {h : Hp} {b : Nat → Nat} {N k e x : Nat} {R : Nat → Int32} {fr : Int32} (t : MPB h b N) (he : e ≤ N) (hx : h.1 74 2 = nI x) (hx8 : x < 8) (q : tkK b N e = 0) : Gd mX9_text 97 [.ref 72, .int fr, .int (nI k), .int (nI 0)] [] (hW h b N e (-1) R) (some (.int (nI x)), tEnd (hW h b N (tkX b N e) (-1) R) x fr (nI k)) := by
  have l := tkL_0.mpr q
  refine gd_ald0 dX9_text_97 (by decide) ?_
  refine gd_ald0 dX9_text_98 (by decide) ?_
  refine gd_getI dX9_text_99 fl_9_162 rfl rfl ?_
  rw [hW_17]
  refine gd_if_ne_f 109 dX9_text_102 (by decide) (congrArg nI l) ?_
  refine gd_ic1 dX9_text_105 ?_
  refine gd_goto 110 dX9_text_106 (by decide) ?_
  refine gd_cV1v dX9_text_110 ct_9_181 rc_72 ⟨Nat.le_of_ble_eq_true rfl, Nat.le_of_ble_eq_true rfl⟩ (Nat.le_of_ble_eq_true rfl) (Nat.le_of_ble_eq_true rfl) (mW_want_n t he) ?_
  refine gd_ald0 dX9_text_113 (by decide) ?_
  refine gd_getI dX9_text_114 fl_9_175 rfl rfl ?_
  rw [hW_19]
  refine gd_if_lt_t 127 dX9_text_117 (by decide) (by decide) ?_
  refine gd_ald0 dX9_text_127 (by decide) ?_
  refine gd_getR (r := 79) dX9_text_128 fl_9_28 rfl rfl rfl (by decide) ?_
  refine gd_ic2 dX9_text_131 ?_
  refine gd_ald0 dX9_text_132 (by decide) ?_
  refine gd_getR (r := 74) dX9_text_133 fl_9_13 rfl rfl rfl (by decide) ?_
  refine gd_ic2 dX9_text_136 ?_
  refine gd_iald (n := 5) dX9_text_137 rfl (by decide) (by repeat' (first | with_reducible rfl | apply ni_add | apply ni_mul)) (by omega) ?_
  refine gd_imul dX9_text_138 ?_
  refine gd_ild1 dX9_text_139 ?_
  refine gd_iast (j := 2 * x) (n := 16) dX9_text_140 rfl (by decide) ((congrArg (nI 2 * ·) hx).trans (pk_mul _ _)) (by omega) ?_
  refine gd_ald0 dX9_text_141 (by decide) ?_
  refine gd_getR (r := 79) dX9_text_142 fl_9_28 rfl rfl rfl (by decide) ?_
  refine gd_ic2 dX9_text_145 ?_
  refine gd_ald0 dX9_text_146 (by decide) ?_
  refine gd_getR (r := 74) dX9_text_147 fl_9_13 rfl rfl rfl (by decide) ?_
  refine gd_ic2 dX9_text_150 ?_
  refine gd_iald (n := 5) dX9_text_151 rfl (by decide) (by repeat' (first | with_reducible rfl | apply ni_add | apply ni_mul)) (by omega) ?_
  refine gd_imul dX9_text_152 ?_
  refine gd_ic1 dX9_text_153 ?_
  refine gd_iadd dX9_text_154 ?_
  refine gd_ild2 dX9_text_155 ?_
  refine gd_iast (j := 2 * x + 1) (n := 16) dX9_text_156 rfl (by decide) (by refine ni_add (i := 2 * x) (j := 1) ?_ rfl; exact (congrArg (nI 2 * ·) hx).trans (pk_mul _ _)) (by omega) ?_
  refine gd_ald0 dX9_text_157 (by decide) ?_
  refine gd_getR (r := 74) dX9_text_158 fl_9_13 rfl rfl rfl (by decide) ?_
  refine gd_ic2 dX9_text_161 ?_
  refine gd_dup2 (by decide) dX9_text_162 ?_
  refine gd_iald (n := 5) dX9_text_163 rfl (by decide) (by repeat' (first | with_reducible rfl | apply ni_add | apply ni_mul)) (by omega) ?_
  refine gd_ic1 dX9_text_164 ?_
  refine gd_iadd dX9_text_165 ?_
  refine gd_iast (n := 5) dX9_text_166 rfl (by decide) (by repeat' (first | with_reducible rfl | apply ni_add | apply ni_mul)) (by omega) ?_
  refine gd_ald0 dX9_text_167 (by decide) ?_
  refine gd_ic0 dX9_text_168 ?_
  refine gd_putI dX9_text_169 fl_9_149 rfl rfl (fun _ _ _ e => by cases e; rfl) ?_
  refine gd_ald0 dX9_text_172 (by decide) ?_
  refine gd_getR (r := 74) dX9_text_173 fl_9_13 rfl rfl rfl (by decide) ?_
  refine gd_ic2 dX9_text_176 ?_
  refine gd_iald (n := 5) dX9_text_177 rfl (by decide) (by repeat' (first | with_reducible rfl | apply ni_add | apply ni_mul)) (by omega) ?_
  refine gd_ic1 dX9_text_178 ?_
  refine gd_isub dX9_text_179 ?_
  refine gd_iret dX9_text_180 rfl rfl ?_
  refine Prod.ext ?_ rfl
  show some (Value.int (nI x)) = some (.int (h.1 74 2 + nI 1 - nI 1))
  rw [hx, nI_add, pk_sub (by omega), Nat.add_sub_cancel]
set_option maxHeartbeats 2000000 in
theorem text_all {b : Nat → Nat} {N : Nat} (hN : N ≤ 120) : ∀ m k, k + m = 6 → ∀ e, e ≤ N → (∃ f, TxF b N k e f) ∨ ∃ n Q, TxO b N k e n Q := by
  intro m
  induction m with
  | zero =>
    intro k hk e he
    have k6 : k = 6 := by omega
    subst k6
    refine Or.inl ⟨tkS b N e, ?_, ?_, ?_⟩
    · have := (tkS_ok (b := b) hN he).2.1; omega
    · intro h K L G t
      refine ⟨6, e, K, L, G, ?_⟩
      show Gd mX5_readText 80 _ _ _ _
      refine gd_ald0 dX5_readText_80 (by decide) ?_
      refine gd_getI dX5_readText_81 fl_5_41 rfl rfl ?_
      rw [hR_v6]
      refine gd_iret dX5_readText_84 rfl rfl ?_
      rfl
    · intro h R x fr t hx hx8
      refine ⟨e, R, ?_, fun _ _ => rfl⟩
      have hs := mS_le t he
      refine gd_ild3 dX9_text_52 ?_
      refine gd_if_eq_f 97 dX9_text_53 (by decide) (by decide) ?_
      refine gd_ald0 dX9_text_56 (by decide) ?_
      refine gd_ild2 dX9_text_57 ?_
      refine gd_cV1v dX9_text_58 ct_9_207 rc_72 ⟨Nat.le_of_ble_eq_true rfl, Nat.le_of_ble_eq_true rfl⟩ (Nat.le_of_ble_eq_true rfl) (Nat.le_of_ble_eq_true rfl) (mW_rule6 t he hx) ?_
      refine gd_iinc2 (b := nI 1) dX9_text_61 (by decide) rfl ?_
      rw [nI_add]
      refine gd_ald0 dX9_text_64 (by decide) ?_
      refine gd_getI dX9_text_65 fl_9_175 rfl rfl ?_
      rw [hW_19]
      refine gd_if_ge_t 84 dX9_text_68 (by decide) (nI_pos' (by omega)) ?_
      refine gd_ic0 dX9_text_84 ?_
      refine gd_ist3 dX9_text_85 rfl ?_
      refine gd_ild3 dX9_text_86 ?_
      refine gd_if_eq_t 52 dX9_text_87 (by decide) (by decide) ?_
      refine gd_ild3 dX9_text_52 ?_
      refine gd_if_eq_t 97 dX9_text_53 (by decide) (by decide) ?_
      exact m_txd hs
  | succ m ih =>
    intro k hk e he
    have hk6 : k < 6 := by omega
    rcases rule_all (b := b) hN he with ⟨e1, hru⟩ | ⟨w, a, u, v, e1, hru⟩
    · refine Or.inl ⟨tkS b N e1, ?_, ?_, ?_⟩
      · have := (tkS_ok (b := b) hN hru.1).2.1; omega
      · intro h K L G t
        obtain ⟨K1, L1, G1, g, _⟩ := hru.2.1 (h5 h (nI k)) K L G k (h5_t t _) hk6
        refine ⟨k, e1, K1, L1, G1, ?_⟩
        rw [show pcT k = 22 from if_pos hk6]
        refine gd_ald0 dX5_readText_22 (by decide) ?_
        refine gd_ild1 dX5_readText_23 ?_
        refine gd_cV1i dX5_readText_24 ct_5_37 rc_51 ⟨Nat.le_of_ble_eq_true rfl, Nat.le_of_ble_eq_true rfl⟩ (Nat.le_of_ble_eq_true rfl) (Nat.le_of_ble_eq_true rfl) (g) ?_
        refine gd_if_ne_f 35 dX5_readText_27 (by decide) (by decide) ?_
        refine gd_ald0 dX5_readText_30 (by decide) ?_
        refine gd_getI dX5_readText_31 fl_5_41 rfl rfl ?_
        rw [hR_v6]
        refine gd_iret dX5_readText_34 rfl rfl ?_
        rfl
      · intro h R x fr t hx hx8
        obtain ⟨R1, g, f1⟩ := hru.2.2 h R x k t hx hx8 hk6
        refine ⟨e1, R1, ?_, fun j hj => f1 j (Or.inl hj)⟩
        have hs := mS_le t hru.1
        refine gd_ild3 dX9_text_52 ?_
        refine gd_if_eq_f 97 dX9_text_53 (by decide) (by decide) ?_
        refine gd_ald0 dX9_text_56 (by decide) ?_
        refine gd_ild2 dX9_text_57 ?_
        refine gd_cV1v dX9_text_58 ct_9_207 rc_72 ⟨Nat.le_of_ble_eq_true rfl, Nat.le_of_ble_eq_true rfl⟩ (Nat.le_of_ble_eq_true rfl) (Nat.le_of_ble_eq_true rfl) (g) ?_
        refine gd_iinc2 (b := nI 1) dX9_text_61 (by decide) rfl ?_
        rw [nI_add]
        refine gd_ald0 dX9_text_64 (by decide) ?_
        refine gd_getI dX9_text_65 fl_9_175 rfl rfl ?_
        rw [hW_19]
        refine gd_if_ge_t 84 dX9_text_68 (by decide) (nI_pos' (by omega)) ?_
        refine gd_ic0 dX9_text_84 ?_
        refine gd_ist3 dX9_text_85 rfl ?_
        refine gd_ild3 dX9_text_86 ?_
        refine gd_if_eq_t 52 dX9_text_87 (by decide) (by decide) ?_
        refine gd_ild3 dX9_text_52 ?_
        refine gd_if_eq_t 97 dX9_text_53 (by decide) (by decide) ?_
        exact m_txd hs
    · by_cases sg : sgn b N e1 59
      · rcases ih (k + 1) (by omega) (tkX b N e1) (tkX_ok hN hru.1).2.1 with ⟨f, f0, fc, fm⟩ | ⟨n, Q, n1, n2, qr, oc, om⟩
        · refine Or.inl ⟨f, f0, ?_, ?_⟩
          · intro h K L G t
            obtain ⟨K1, L1, G1, g, ⟨fk, fl, fg⟩, vk, vl, vg⟩ := hru.2.2.1 (h5 h (nI k)) K L G k (h5_t t _) hk6
            obtain ⟨n, e2, K2, L2, G2, g2⟩ := fc h K1 L1 G1 t
            refine ⟨n, e2, K2, L2, G2, ?_⟩
            rw [show pcT k = 22 from if_pos hk6]
            refine gd_ald0 dX5_readText_22 (by decide) ?_
            refine gd_ild1 dX5_readText_23 ?_
            refine gd_cV1i dX5_readText_24 ct_5_37 rc_51 ⟨Nat.le_of_ble_eq_true rfl, Nat.le_of_ble_eq_true rfl⟩ (Nat.le_of_ble_eq_true rfl) (Nat.le_of_ble_eq_true rfl) (g) ?_
            refine gd_if_ne_t 35 dX5_readText_27 (by decide) (by decide) ?_
            refine gd_ald0 dX5_readText_35 (by decide) ?_
            refine gd_dupr (by decide) dX5_readText_36 ?_
            refine gd_getI dX5_readText_37 fl_5_28 rfl rfl ?_
            rw [show ∀ (e1 : Nat) (A B C : Nat → Int32), (hR (h5 h (nI k)) b N e1 A B C).1 51 5 = nI k from fun _ _ _ _ => rfl]
            refine gd_ic1 dX5_readText_40 ?_
            refine gd_iadd dX5_readText_41 ?_
            rw [nI_add]
            refine gd_putI dX5_readText_42 fl_5_28 rfl rfl (fun _ _ _ e => by cases e; rfl) ?_
            rw [hR_5, h5_h5]
            refine gd_ald0 dX5_readText_45 (by decide) ?_
            refine gd_bipush (v := nI 59) dX5_readText_46 (by decide) ?_
            refine gd_cV1i dX5_readText_48 ct_5_44 rc_51 ⟨Nat.le_of_ble_eq_true rfl, Nat.le_of_ble_eq_true rfl⟩ (Nat.le_of_ble_eq_true rfl) (Nat.le_of_ble_eq_true rfl) (cR_sgn_t (h5_t t (nI (k + 1))) hru.1 sg) ?_
            refine gd_if_ne_t 70 dX5_readText_51 (by decide) (by decide) ?_
            exact c_rt70 (h5_t t (nI (k + 1))) hru.1 hk6 g2
          · intro h R x fr t hx hx8
            obtain ⟨R1, g, f1, v0, v1, v2, v3⟩ := hru.2.2.2 h R x k t hx hx8 hk6
            obtain ⟨e2, R2, g2, f2⟩ := fm h R1 x fr t hx hx8
            refine ⟨e2, R2, ?_, fun j hj => (f2 j (by omega)).trans (f1 j (Or.inl hj))⟩
            refine gd_ild3 dX9_text_52 ?_
            refine gd_if_eq_f 97 dX9_text_53 (by decide) (by decide) ?_
            refine gd_ald0 dX9_text_56 (by decide) ?_
            refine gd_ild2 dX9_text_57 ?_
            refine gd_cV1v dX9_text_58 ct_9_207 rc_72 ⟨Nat.le_of_ble_eq_true rfl, Nat.le_of_ble_eq_true rfl⟩ (Nat.le_of_ble_eq_true rfl) (Nat.le_of_ble_eq_true rfl) (g) ?_
            refine gd_iinc2 (b := nI 1) dX9_text_61 (by decide) rfl ?_
            rw [nI_add]
            refine gd_ald0 dX9_text_64 (by decide) ?_
            refine gd_getI dX9_text_65 fl_9_175 rfl rfl ?_
            rw [hW_19]
            refine gd_if_ge_f 84 dX9_text_68 (by decide) (by decide) ?_
            refine gd_ald0 dX9_text_71 (by decide) ?_
            refine gd_bipush (v := nI 59) dX9_text_72 (by decide) ?_
            refine gd_cV1i dX9_text_74 ct_9_204 rc_72 ⟨Nat.le_of_ble_eq_true rfl, Nat.le_of_ble_eq_true rfl⟩ (Nat.le_of_ble_eq_true rfl) (Nat.le_of_ble_eq_true rfl) (mW_sgn_t t hru.1 (Or.inl rfl) sg) ?_
            refine gd_if_eq_f 84 dX9_text_77 (by decide) (by decide) ?_
            refine gd_ic1 dX9_text_80 ?_
            refine gd_goto 85 dX9_text_81 (by decide) ?_
            refine gd_ist3 dX9_text_85 rfl ?_
            refine gd_ild3 dX9_text_86 ?_
            refine gd_if_eq_f 52 dX9_text_87 (by decide) (by decide) ?_
            refine gd_ald0 dX9_text_90 (by decide) ?_
            refine gd_cV0v dX9_text_91 ct_9_178 rc_72 ⟨Nat.le_of_ble_eq_true rfl, Nat.le_of_ble_eq_true rfl⟩ (Nat.le_of_ble_eq_true rfl) (Nat.le_of_ble_eq_true rfl) (mW_nx t hru.1) ?_
            refine gd_goto 52 dX9_text_94 (by decide) ?_
            exact g2
        · refine Or.inr ⟨n, fun r => if r = k then (w, a, u, v) else Q r, by omega, n2, ?_, ?_, ?_⟩
          · intro r h1 h2
            by_cases z : r = k
            · simp only [if_pos z]; exact hru.2.1
            · simp only [if_neg z]; exact qr r (by omega) h2
          · intro h K L G t
            obtain ⟨K1, L1, G1, g, ⟨fk, fl, fg⟩, vk, vl, vg⟩ := hru.2.2.1 (h5 h (nI k)) K L G k (h5_t t _) hk6
            obtain ⟨e2, K2, L2, G2, g2, a2, c2⟩ := oc h K1 L1 G1 t
            refine ⟨e2, K2, L2, G2, ?_, ?_, ?_⟩
            · rw [show pcT k = 22 from if_pos hk6]
              refine gd_ald0 dX5_readText_22 (by decide) ?_
              refine gd_ild1 dX5_readText_23 ?_
              refine gd_cV1i dX5_readText_24 ct_5_37 rc_51 ⟨Nat.le_of_ble_eq_true rfl, Nat.le_of_ble_eq_true rfl⟩ (Nat.le_of_ble_eq_true rfl) (Nat.le_of_ble_eq_true rfl) (g) ?_
              refine gd_if_ne_t 35 dX5_readText_27 (by decide) (by decide) ?_
              refine gd_ald0 dX5_readText_35 (by decide) ?_
              refine gd_dupr (by decide) dX5_readText_36 ?_
              refine gd_getI dX5_readText_37 fl_5_28 rfl rfl ?_
              rw [show ∀ (e1 : Nat) (A B C : Nat → Int32), (hR (h5 h (nI k)) b N e1 A B C).1 51 5 = nI k from fun _ _ _ _ => rfl]
              refine gd_ic1 dX5_readText_40 ?_
              refine gd_iadd dX5_readText_41 ?_
              rw [nI_add]
              refine gd_putI dX5_readText_42 fl_5_28 rfl rfl (fun _ _ _ e => by cases e; rfl) ?_
              rw [hR_5, h5_h5]
              refine gd_ald0 dX5_readText_45 (by decide) ?_
              refine gd_bipush (v := nI 59) dX5_readText_46 (by decide) ?_
              refine gd_cV1i dX5_readText_48 ct_5_44 rc_51 ⟨Nat.le_of_ble_eq_true rfl, Nat.le_of_ble_eq_true rfl⟩ (Nat.le_of_ble_eq_true rfl) (Nat.le_of_ble_eq_true rfl) (cR_sgn_t (h5_t t (nI (k + 1))) hru.1 sg) ?_
              refine gd_if_ne_t 70 dX5_readText_51 (by decide) (by decide) ?_
              exact c_rt70 (h5_t t (nI (k + 1))) hru.1 hk6 g2
            · intro j hj
              have z := a2 j (by omega)
              rw [z.1, z.2.1, z.2.2]
              exact ⟨fk j (by omega), fl j (by omega), fg j (by omega)⟩
            · intro r h1 h2
              by_cases z : r = k
              · simp only [if_pos z]; have y := a2 r (by omega); rw [y.1, y.2.1, y.2.2, z]; exact ⟨vk, vl, vg⟩
              · simp only [if_neg z]; exact c2 r (by omega) h2
          · intro h R x fr t hx hx8
            obtain ⟨R1, g, f1, v0, v1, v2, v3⟩ := hru.2.2.2 h R x k t hx hx8 hk6
            obtain ⟨e2, R2, g2, a2, c2⟩ := om h R1 x fr t hx hx8
            refine ⟨e2, R2, ?_, fun j hj => (a2 j (by omega)).trans (f1 j (Or.inl hj)), ?_⟩
            · refine gd_ild3 dX9_text_52 ?_
              refine gd_if_eq_f 97 dX9_text_53 (by decide) (by decide) ?_
              refine gd_ald0 dX9_text_56 (by decide) ?_
              refine gd_ild2 dX9_text_57 ?_
              refine gd_cV1v dX9_text_58 ct_9_207 rc_72 ⟨Nat.le_of_ble_eq_true rfl, Nat.le_of_ble_eq_true rfl⟩ (Nat.le_of_ble_eq_true rfl) (Nat.le_of_ble_eq_true rfl) (g) ?_
              refine gd_iinc2 (b := nI 1) dX9_text_61 (by decide) rfl ?_
              rw [nI_add]
              refine gd_ald0 dX9_text_64 (by decide) ?_
              refine gd_getI dX9_text_65 fl_9_175 rfl rfl ?_
              rw [hW_19]
              refine gd_if_ge_f 84 dX9_text_68 (by decide) (by decide) ?_
              refine gd_ald0 dX9_text_71 (by decide) ?_
              refine gd_bipush (v := nI 59) dX9_text_72 (by decide) ?_
              refine gd_cV1i dX9_text_74 ct_9_204 rc_72 ⟨Nat.le_of_ble_eq_true rfl, Nat.le_of_ble_eq_true rfl⟩ (Nat.le_of_ble_eq_true rfl) (Nat.le_of_ble_eq_true rfl) (mW_sgn_t t hru.1 (Or.inl rfl) sg) ?_
              refine gd_if_eq_f 84 dX9_text_77 (by decide) (by decide) ?_
              refine gd_ic1 dX9_text_80 ?_
              refine gd_goto 85 dX9_text_81 (by decide) ?_
              refine gd_ist3 dX9_text_85 rfl ?_
              refine gd_ild3 dX9_text_86 ?_
              refine gd_if_eq_f 52 dX9_text_87 (by decide) (by decide) ?_
              refine gd_ald0 dX9_text_90 (by decide) ?_
              refine gd_cV0v dX9_text_91 ct_9_178 rc_72 ⟨Nat.le_of_ble_eq_true rfl, Nat.le_of_ble_eq_true rfl⟩ (Nat.le_of_ble_eq_true rfl) (Nat.le_of_ble_eq_true rfl) (mW_nx t hru.1) ?_
              refine gd_goto 52 dX9_text_94 (by decide) ?_
              exact g2
            · intro r h1 h2
              by_cases z : r = k
              · simp only [if_pos z]; subst z; rw [a2 _ (by omega), a2 _ (by omega), a2 _ (by omega), a2 _ (by omega)]; exact ⟨v0, v1, v2, v3⟩
              · simp only [if_neg z]; exact c2 r (by omega) h2
      · by_cases q : tkK b N e1 = 0
        · refine Or.inr ⟨k + 1, fun _ => (w, a, u, v), by omega, by omega, fun r _ _ => hru.2.1, ?_, ?_⟩
          · intro h K L G t
            obtain ⟨K1, L1, G1, g, ⟨fk, fl, fg⟩, vk, vl, vg⟩ := hru.2.2.1 (h5 h (nI k)) K L G k (h5_t t _) hk6
            refine ⟨e1, K1, L1, G1, ?_, fun j hj => ⟨fk j (by omega), fl j (by omega), fg j (by omega)⟩, ?_⟩
            · rw [show pcT k = 22 from if_pos hk6]
              refine gd_ald0 dX5_readText_22 (by decide) ?_
              refine gd_ild1 dX5_readText_23 ?_
              refine gd_cV1i dX5_readText_24 ct_5_37 rc_51 ⟨Nat.le_of_ble_eq_true rfl, Nat.le_of_ble_eq_true rfl⟩ (Nat.le_of_ble_eq_true rfl) (Nat.le_of_ble_eq_true rfl) (g) ?_
              refine gd_if_ne_t 35 dX5_readText_27 (by decide) (by decide) ?_
              refine gd_ald0 dX5_readText_35 (by decide) ?_
              refine gd_dupr (by decide) dX5_readText_36 ?_
              refine gd_getI dX5_readText_37 fl_5_28 rfl rfl ?_
              rw [show ∀ (e1 : Nat) (A B C : Nat → Int32), (hR (h5 h (nI k)) b N e1 A B C).1 51 5 = nI k from fun _ _ _ _ => rfl]
              refine gd_ic1 dX5_readText_40 ?_
              refine gd_iadd dX5_readText_41 ?_
              rw [nI_add]
              refine gd_putI dX5_readText_42 fl_5_28 rfl rfl (fun _ _ _ e => by cases e; rfl) ?_
              rw [hR_5, h5_h5]
              refine gd_ald0 dX5_readText_45 (by decide) ?_
              refine gd_bipush (v := nI 59) dX5_readText_46 (by decide) ?_
              refine gd_cV1i dX5_readText_48 ct_5_44 rc_51 ⟨Nat.le_of_ble_eq_true rfl, Nat.le_of_ble_eq_true rfl⟩ (Nat.le_of_ble_eq_true rfl) (Nat.le_of_ble_eq_true rfl) (cR_sgn_f (h5_t t (nI (k + 1))) hru.1 (by decide) sg) ?_
              refine gd_if_ne_f 70 dX5_readText_51 (by decide) (by decide) ?_
              refine gd_ald0 dX5_readText_54 (by decide) ?_
              refine gd_getI dX5_readText_55 fl_5_48 rfl rfl ?_
              rw [hR_v8]
              refine gd_if_ne_f 65 dX5_readText_58 (by decide) (congrArg nI q) ?_
              refine gd_icm1 dX5_readText_61 ?_
              refine gd_goto 69 dX5_readText_62 (by decide) ?_
              refine gd_iret dX5_readText_69 rfl rfl ?_
              rfl
            · intro r h1 h2
              have z : r = k := by omega
              subst z
              exact ⟨vk, vl, vg⟩
          · intro h R x fr t hx hx8
            obtain ⟨R1, g, f1, v0, v1, v2, v3⟩ := hru.2.2.2 h R x k t hx hx8 hk6
            refine ⟨tkX b N e1, R1, ?_, fun j hj => f1 j (Or.inl hj), ?_⟩
            · refine gd_ild3 dX9_text_52 ?_
              refine gd_if_eq_f 97 dX9_text_53 (by decide) (by decide) ?_
              refine gd_ald0 dX9_text_56 (by decide) ?_
              refine gd_ild2 dX9_text_57 ?_
              refine gd_cV1v dX9_text_58 ct_9_207 rc_72 ⟨Nat.le_of_ble_eq_true rfl, Nat.le_of_ble_eq_true rfl⟩ (Nat.le_of_ble_eq_true rfl) (Nat.le_of_ble_eq_true rfl) (g) ?_
              refine gd_iinc2 (b := nI 1) dX9_text_61 (by decide) rfl ?_
              rw [nI_add]
              refine gd_ald0 dX9_text_64 (by decide) ?_
              refine gd_getI dX9_text_65 fl_9_175 rfl rfl ?_
              rw [hW_19]
              refine gd_if_ge_f 84 dX9_text_68 (by decide) (by decide) ?_
              refine gd_ald0 dX9_text_71 (by decide) ?_
              refine gd_bipush (v := nI 59) dX9_text_72 (by decide) ?_
              refine gd_cV1i dX9_text_74 ct_9_204 rc_72 ⟨Nat.le_of_ble_eq_true rfl, Nat.le_of_ble_eq_true rfl⟩ (Nat.le_of_ble_eq_true rfl) (Nat.le_of_ble_eq_true rfl) (mW_sgn_f t hru.1 (Or.inl rfl) sg) ?_
              refine gd_if_eq_t 84 dX9_text_77 (by decide) (by decide) ?_
              refine gd_ic0 dX9_text_84 ?_
              refine gd_ist3 dX9_text_85 rfl ?_
              refine gd_ild3 dX9_text_86 ?_
              refine gd_if_eq_t 52 dX9_text_87 (by decide) (by decide) ?_
              refine gd_ild3 dX9_text_52 ?_
              refine gd_if_eq_t 97 dX9_text_53 (by decide) (by decide) ?_
              exact m_txo t hru.1 hx hx8 q
            · intro r h1 h2
              have z : r = k := by omega
              subst z
              exact ⟨v0, v1, v2, v3⟩
        · refine Or.inl ⟨tkS b N e1, ?_, ?_, ?_⟩
          · have := (tkS_ok (b := b) hN hru.1).2.1; omega
          · intro h K L G t
            obtain ⟨K1, L1, G1, g, ⟨fk, fl, fg⟩, vk, vl, vg⟩ := hru.2.2.1 (h5 h (nI k)) K L G k (h5_t t _) hk6
            have kl := tkK_lt (b := b) (N := N) (e := e1)
            refine ⟨k + 1, e1, K1, L1, G1, ?_⟩
            rw [show pcT k = 22 from if_pos hk6]
            refine gd_ald0 dX5_readText_22 (by decide) ?_
            refine gd_ild1 dX5_readText_23 ?_
            refine gd_cV1i dX5_readText_24 ct_5_37 rc_51 ⟨Nat.le_of_ble_eq_true rfl, Nat.le_of_ble_eq_true rfl⟩ (Nat.le_of_ble_eq_true rfl) (Nat.le_of_ble_eq_true rfl) (g) ?_
            refine gd_if_ne_t 35 dX5_readText_27 (by decide) (by decide) ?_
            refine gd_ald0 dX5_readText_35 (by decide) ?_
            refine gd_dupr (by decide) dX5_readText_36 ?_
            refine gd_getI dX5_readText_37 fl_5_28 rfl rfl ?_
            rw [show ∀ (e1 : Nat) (A B C : Nat → Int32), (hR (h5 h (nI k)) b N e1 A B C).1 51 5 = nI k from fun _ _ _ _ => rfl]
            refine gd_ic1 dX5_readText_40 ?_
            refine gd_iadd dX5_readText_41 ?_
            rw [nI_add]
            refine gd_putI dX5_readText_42 fl_5_28 rfl rfl (fun _ _ _ e => by cases e; rfl) ?_
            rw [hR_5, h5_h5]
            refine gd_ald0 dX5_readText_45 (by decide) ?_
            refine gd_bipush (v := nI 59) dX5_readText_46 (by decide) ?_
            refine gd_cV1i dX5_readText_48 ct_5_44 rc_51 ⟨Nat.le_of_ble_eq_true rfl, Nat.le_of_ble_eq_true rfl⟩ (Nat.le_of_ble_eq_true rfl) (Nat.le_of_ble_eq_true rfl) (cR_sgn_f (h5_t t (nI (k + 1))) hru.1 (by decide) sg) ?_
            refine gd_if_ne_f 70 dX5_readText_51 (by decide) (by decide) ?_
            refine gd_ald0 dX5_readText_54 (by decide) ?_
            refine gd_getI dX5_readText_55 fl_5_48 rfl rfl ?_
            rw [hR_v8]
            refine gd_if_ne_t 65 dX5_readText_58 (by decide) (by exact nI_ne0 (by omega) (by omega)) ?_
            refine gd_ald0 dX5_readText_65 (by decide) ?_
            refine gd_getI dX5_readText_66 fl_5_41 rfl rfl ?_
            rw [hR_v6]
            refine gd_iret dX5_readText_69 rfl rfl ?_
            rfl
          · intro h R x fr t hx hx8
            obtain ⟨R1, g, f1, v0, v1, v2, v3⟩ := hru.2.2.2 h R x k t hx hx8 hk6
            refine ⟨e1, R1, ?_, fun j hj => f1 j (Or.inl hj)⟩
            refine gd_ild3 dX9_text_52 ?_
            refine gd_if_eq_f 97 dX9_text_53 (by decide) (by decide) ?_
            refine gd_ald0 dX9_text_56 (by decide) ?_
            refine gd_ild2 dX9_text_57 ?_
            refine gd_cV1v dX9_text_58 ct_9_207 rc_72 ⟨Nat.le_of_ble_eq_true rfl, Nat.le_of_ble_eq_true rfl⟩ (Nat.le_of_ble_eq_true rfl) (Nat.le_of_ble_eq_true rfl) (g) ?_
            refine gd_iinc2 (b := nI 1) dX9_text_61 (by decide) rfl ?_
            rw [nI_add]
            refine gd_ald0 dX9_text_64 (by decide) ?_
            refine gd_getI dX9_text_65 fl_9_175 rfl rfl ?_
            rw [hW_19]
            refine gd_if_ge_f 84 dX9_text_68 (by decide) (by decide) ?_
            refine gd_ald0 dX9_text_71 (by decide) ?_
            refine gd_bipush (v := nI 59) dX9_text_72 (by decide) ?_
            refine gd_cV1i dX9_text_74 ct_9_204 rc_72 ⟨Nat.le_of_ble_eq_true rfl, Nat.le_of_ble_eq_true rfl⟩ (Nat.le_of_ble_eq_true rfl) (Nat.le_of_ble_eq_true rfl) (mW_sgn_f t hru.1 (Or.inl rfl) sg) ?_
            refine gd_if_eq_t 84 dX9_text_77 (by decide) (by decide) ?_
            refine gd_ic0 dX9_text_84 ?_
            refine gd_ist3 dX9_text_85 rfl ?_
            refine gd_ild3 dX9_text_86 ?_
            refine gd_if_eq_t 52 dX9_text_87 (by decide) (by decide) ?_
            refine gd_ild3 dX9_text_52 ?_
            refine gd_if_eq_t 97 dX9_text_53 (by decide) (by decide) ?_
            exact m_txf t hru.1 q
theorem c_rt0 {h : Hp} {b : Nat → Nat} {N : Nat} {x : Option Value × Hp} (t : TPB h b N) (g : Gd mX5_readText 22 [.ref 51, .int (nI 0)] [] (hR (h5 h (nI 0)) b N 0 (h.1 53) (h.1 54) (h.1 55)) x) : Gd mX5_readText 0 [.ref 51, .null] [] h x := by
  have ga := c_advance (h := sI (h5 h (nI 0)) 51 (upd ((h5 h (nI 0)).1 51) 7 (nI 0))) (b := b) (N := N) (e := 0) ⟨t.1, t.2.1, t.2.2⟩ (Nat.zero_le _) rfl
  rw [show hT (sI (h5 h (nI 0)) 51 (upd ((h5 h (nI 0)).1 51) 7 (nI 0))) (nI (tkS b N 0)) (nI (tkX b N 0)) (nI (tkK b N 0)) (nI (tkV b N 0)) = hR (h5 h (nI 0)) b N 0 (h.1 53) (h.1 54) (h.1 55) by
    rw [show h.1 53 = (h5 h (nI 0)).1 53 from rfl, show h.1 54 = (h5 h (nI 0)).1 54 from rfl, show h.1 55 = (h5 h (nI 0)).1 55 from rfl, hR_id]
    unfold hTk hT
    rw [sI_s, sI_sI, tpF_u7]] at ga
  refine gd_ald0 dX5_readText_0 (by decide) ?_
  refine gd_ic0 dX5_readText_1 ?_
  refine gd_putI dX5_readText_2 fl_5_28 rfl rfl (fun _ _ _ e => by cases e; rfl) ?_
  refine gd_ald0 dX5_readText_5 (by decide) ?_
  refine gd_ic0 dX5_readText_6 ?_
  refine gd_putI dX5_readText_7 fl_5_31 rfl rfl (fun _ _ _ e => by cases e; rfl) ?_
  refine gd_ic0 dX5_readText_10 ?_
  refine gd_ist1 dX5_readText_11 rfl ?_
  refine gd_ild1 dX5_readText_12 ?_
  refine gd_bipush (v := nI 6) dX5_readText_13 (by decide) ?_
  refine gd_icmp_ge_f 76 dX5_readText_15 (by decide) (by decide) ?_
  refine gd_ald0 dX5_readText_18 (by decide) ?_
  refine gd_cV0v dX5_readText_19 ct_5_34 rc_51 ⟨Nat.le_of_ble_eq_true rfl, Nat.le_of_ble_eq_true rfl⟩ (Nat.le_of_ble_eq_true rfl) (Nat.le_of_ble_eq_true rfl) (ga) ?_
  exact g
theorem m_tx0 {h : Hp} {b : Nat → Nat} {N : Nat} {fr : Int32} {x : Option Value × Hp} (t : MPB h b N) (g : Gd mX9_text 52 [.ref 72, .int fr, .int (nI 0), .int (nI 1)] [] (hW h b N 0 (-1) (h.1 80)) x) : Gd mX9_text 34 [.ref 72, .int fr, .null, .null] [] h x := by
  have ga := m_next (h := sI (sI h 72 (upd (h.1 72) 19 (-1))) 72 (upd ((sI h 72 (upd (h.1 72) 19 (-1))).1 72) 16 (nI 0))) (b := b) (N := N) (e := 0) ⟨t.1, t.2.1, t.2.2⟩ (Nat.zero_le _) rfl
  rw [show hM (sI (sI h 72 (upd (h.1 72) 19 (-1))) 72 (upd ((sI h 72 (upd (h.1 72) 19 (-1))).1 72) 16 (nI 0))) (nI (tkS b N 0)) (nI (tkX b N 0)) (nI (tkL b N 0)) (tkM b N 0) = hW h b N 0 (-1) (h.1 80) by
    unfold hW hMk
    rw [show h.1 80 = (sI h 72 (upd (h.1 72) 19 (-1))).1 80 from rfl, sI_id]
    unfold hM
    rw [sI_s, sI_sI, sI_s, mpF_u16]
    rfl] at ga
  refine gd_ald0 dX9_text_34 (by decide) ?_
  refine gd_icm1 dX9_text_35 ?_
  refine gd_putI dX9_text_36 fl_9_175 rfl rfl (fun _ _ _ e => by cases e; rfl) ?_
  refine gd_ald0 dX9_text_39 (by decide) ?_
  refine gd_ic0 dX9_text_40 ?_
  refine gd_putI dX9_text_41 fl_9_152 rfl rfl (fun _ _ _ e => by cases e; rfl) ?_
  refine gd_ald0 dX9_text_44 (by decide) ?_
  refine gd_cV0v dX9_text_45 ct_9_178 rc_72 ⟨Nat.le_of_ble_eq_true rfl, Nat.le_of_ble_eq_true rfl⟩ (Nat.le_of_ble_eq_true rfl) (Nat.le_of_ble_eq_true rfl) (ga) ?_
  refine gd_ic0 dX9_text_48 ?_
  refine gd_ist2 dX9_text_49 rfl ?_
  refine gd_ic1 dX9_text_50 ?_
  refine gd_ist3 dX9_text_51 rfl ?_
  exact g
