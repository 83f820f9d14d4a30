theorem gd_eqh {M : MD} {pc : Nat} {ls st : List Value} {h : Hp} {x : Option Value × Hp} {f : Nat → Int64} (e : f = h.2 57) (g : Gd M pc ls st (sL h 57 f) x) : Gd M pc ls st h x := by
  rw [e, sL_id] at g; exact g

def filL (f : Nat → Int64) (lo hi : Nat) (v : Int64) : Nat → Int64 := fun j => if lo ≤ j ∧ j < hi then v else f j
theorem filL_0 (f : Nat → Int64) (lo : Nat) (v : Int64) : filL f lo lo v = f := by
  funext j; unfold filL; rw [if_neg (by omega)]
theorem filL_s (f : Nat → Int64) {lo hi : Nat} (v : Int64) (h : lo ≤ hi) : vp_updL (filL f lo hi v) hi v = filL f lo (hi + 1) v := by
  funext j; rw [updL_at]; unfold filL
  by_cases e : j = hi
  · rw [if_pos e, if_pos (by omega)]
  · rw [if_neg e]
    by_cases e2 : lo ≤ j ∧ j < hi
    · rw [if_pos e2, if_pos (by omega)]
    · rw [if_neg e2, if_neg (by omega)]
theorem j_rangeCheck {n lo hi : Nat} (h1 : lo ≤ hi) (h2 : hi ≤ n) (hn : n < 2 ^ 31) (h : Hp) : Gd mJ7_rangeCheck_23922 0 [.int (nI n), .int (nI lo), .int (nI hi)] [] h (none, h) := by
  refine gd_ild1 dJ7_rangeCheck_23922_0 ?_
  refine gd_ild2 dJ7_rangeCheck_23922_1 ?_
  refine gd_icmp_le_t 46 dJ7_rangeCheck_23922_2 (by decide) (by exact nI_le (by omega) (by omega)) ?_
  refine gd_ild1 dJ7_rangeCheck_23922_46 ?_
  refine gd_if_ge_t 59 dJ7_rangeCheck_23922_47 (by decide) (by exact nI_pos' (by omega)) ?_
  refine gd_ild2 dJ7_rangeCheck_23922_59 ?_
  refine gd_ild0 dJ7_rangeCheck_23922_60 ?_
  refine gd_icmp_le_t 73 dJ7_rangeCheck_23922_61 (by decide) (by exact nI_le (by omega) (by omega)) ?_
  refine gd_vret dJ7_rangeCheck_23922_73 rfl ?_
  rfl
theorem c_fillL {lo hi : Nat} (h1 : lo ≤ hi) (h2 : hi ≤ 160) (v : Int64) (h : Hp) : Gd mJ7_fill_bad5a 0 [.ref 57, .int (nI lo), .int (nI hi), .long v, .null, .null] [] h (none, sL h 57 (filL (h.2 57) lo hi v)) := by
  refine gd_ald0 dJ7_fill_bad5a_0 (by decide) ?_
  refine gd_alenJ (n := 160) (v := nI 160) dJ7_fill_bad5a_1 rfl rfl ?_
  refine gd_ild1 dJ7_fill_bad5a_2 ?_
  refine gd_ild2 dJ7_fill_bad5a_3 ?_
  refine gd_cS3v dJ7_fill_bad5a_4 ct_16_13 ⟨Nat.le_of_ble_eq_true rfl, Nat.le_of_ble_eq_true rfl⟩ (Nat.le_of_ble_eq_true rfl) (Nat.le_of_ble_eq_true rfl) (j_rangeCheck (n := 160) h1 h2 (by decide) _) ?_
  refine gd_ild1 dJ7_fill_bad5a_7 ?_
  refine gd_ist5 dJ7_fill_bad5a_8 rfl ?_
  refine gd_eqh (filL_0 (h.2 57) lo v) ?_
  refine loopG (P := fun j => lo ≤ j → Gd mJ7_fill_bad5a 10 [.ref 57, .int (nI lo), .int (nI hi), .long v, .null, .int (nI j)] [] (sL h 57 (filL (h.2 57) lo j v)) (none, sL h 57 (filL (h.2 57) lo hi v))) (n := hi) ?_ ?_ lo h1 (Nat.le_refl _)
  · intro _
    refine gd_ild5 dJ7_fill_bad5a_10 ?_
    refine gd_ild2 dJ7_fill_bad5a_12 ?_
    refine gd_icmp_ge_t 27 dJ7_fill_bad5a_13 (by decide) (by exact nI_le (by omega) (by omega)) ?_
    refine gd_vret dJ7_fill_bad5a_27 rfl ?_
    rfl
  · intro j hj ih hlo
    have ih := ih (by omega)
    refine gd_ild5 dJ7_fill_bad5a_10 ?_
    refine gd_ild2 dJ7_fill_bad5a_12 ?_
    refine gd_icmp_ge_f 27 dJ7_fill_bad5a_13 (by decide) (by exact nI_ge (by omega) (by omega)) ?_
    refine gd_ald0 dJ7_fill_bad5a_16 (by decide) ?_
    refine gd_ild5 dJ7_fill_bad5a_17 ?_
    refine gd_lld3 dJ7_fill_bad5a_19 ?_
    refine gd_last (n := 160) dJ7_fill_bad5a_20 rfl (by decide) (by repeat' (first | with_reducible rfl | apply ni_add | apply ni_mul)) (by omega) ?_
    refine gd_iinc5 (b := nI 1) dJ7_fill_bad5a_21 (by decide) rfl ?_
    rw [nI_add]
    refine gd_goto 10 dJ7_fill_bad5a_24 (by decide) ?_
    rw [sL_s, filL_s _ _ hlo, sL_sL]
    exact ih
theorem c_layAnew0 {q n : Nat} (hq : q < 4) (h : Hp) : Gd mX3_layAnew 0 [.ref 56, .int (nI q), .int (nI 0), .int (nI n)] [] h (some (.int (nI 0)), sL (sI (sI h 58 (upd (h.1 58) q (nI 0))) 59 (upd (h.1 59) q (nI 0))) 57 (filL (h.2 57) (40 * q) (40 * q + 40) (lN 0))) := by
  refine gd_ald0 dX3_layAnew_0 (by decide) ?_
  refine gd_getR (r := 58) dX3_layAnew_1 fl_3_15 rfl rfl rfl (by decide) ?_
  refine gd_ild1 dX3_layAnew_4 ?_
  refine gd_ild2 dX3_layAnew_5 ?_
  refine gd_iast (n := 4) dX3_layAnew_6 rfl (by decide) (by repeat' (first | with_reducible rfl | apply ni_add | apply ni_mul)) (by omega) ?_
  refine gd_ald0 dX3_layAnew_7 (by decide) ?_
  refine gd_getR (r := 59) dX3_layAnew_8 fl_3_19 rfl rfl rfl (by decide) ?_
  refine gd_ild1 dX3_layAnew_11 ?_
  refine gd_ild2 dX3_layAnew_12 ?_
  refine gd_if_ne_f 20 dX3_layAnew_13 (by decide) (by decide) ?_
  refine gd_ic0 dX3_layAnew_16 ?_
  refine gd_goto 21 dX3_layAnew_17 (by decide) ?_
  refine gd_iast (n := 4) dX3_layAnew_21 rfl (by decide) (by repeat' (first | with_reducible rfl | apply ni_add | apply ni_mul)) (by omega) ?_
  refine gd_ald0 dX3_layAnew_22 (by decide) ?_
  refine gd_getR (r := 57) dX3_layAnew_23 fl_3_9 rfl rfl rfl (by decide) ?_
  refine gd_ild1 dX3_layAnew_26 ?_
  refine gd_bipush (v := nI 40) dX3_layAnew_27 (by decide) ?_
  refine gd_imul dX3_layAnew_29 ?_
  rw [show nI q * nI 40 = nI (40 * q) by rw [pk_mul, Nat.mul_comm]]
  refine gd_ild1 dX3_layAnew_30 ?_
  refine gd_ic1 dX3_layAnew_31 ?_
  refine gd_iadd dX3_layAnew_32 ?_
  refine gd_bipush (v := nI 40) dX3_layAnew_33 (by decide) ?_
  refine gd_imul dX3_layAnew_35 ?_
  rw [show (nI q + nI 1) * nI 40 = nI (40 * q + 40) by rw [nI_add, pk_mul, show (q + 1) * 40 = 40 * q + 40 by omega]]
  refine gd_lc0 dX3_layAnew_36 ?_
  refine gd_cS4v dX3_layAnew_37 ct_3_22 ⟨Nat.le_of_ble_eq_true rfl, Nat.le_of_ble_eq_true rfl⟩ (Nat.le_of_ble_eq_true rfl) (Nat.le_of_ble_eq_true rfl) (c_fillL (by omega) (by omega) _ _) ?_
  refine gd_ald0 dX3_layAnew_40 (by decide) ?_
  refine gd_getR (r := 59) dX3_layAnew_41 fl_3_19 rfl rfl rfl (by decide) ?_
  refine gd_ild1 dX3_layAnew_44 ?_
  refine gd_iald (n := 4) dX3_layAnew_45 rfl (by decide) (by repeat' (first | with_reducible rfl | apply ni_add | apply ni_mul)) (by omega) ?_
  rw [show (sL (sI (sI h 58 (upd (h.1 58) q (nI 0))) 59 (upd ((sI h 58 (upd (h.1 58) q (nI 0))).1 59) q (nI 0))) 57 (filL ((sI (sI h 58 (upd (h.1 58) q (nI 0))) 59 (upd ((sI h 58 (upd (h.1 58) q (nI 0))).1 59) q (nI 0))).2 57) (40 * q) (40 * q + 40) (lN 0))).1 59 q = nI 0 from if_pos rfl]
  refine gd_iret dX3_layAnew_46 rfl rfl ?_
  rfl
theorem c_layAnew8 {q n : Nat} (hq : q < 4) (h : Hp) : Gd mX3_layAnew 0 [.ref 56, .int (nI q), .int (nI 8), .int (nI n)] [] h (some (.int (nI n)), sL (sI (sI h 58 (upd (h.1 58) q (nI 8))) 59 (upd (h.1 59) q (nI n))) 57 (filL (h.2 57) (40 * q) (40 * q + 40) (lN 0))) := by
  refine gd_ald0 dX3_layAnew_0 (by decide) ?_
  refine gd_getR (r := 58) dX3_layAnew_1 fl_3_15 rfl rfl rfl (by decide) ?_
  refine gd_ild1 dX3_layAnew_4 ?_
  refine gd_ild2 dX3_layAnew_5 ?_
  refine gd_iast (n := 4) dX3_layAnew_6 rfl (by decide) (by repeat' (first | with_reducible rfl | apply ni_add | apply ni_mul)) (by omega) ?_
  refine gd_ald0 dX3_layAnew_7 (by decide) ?_
  refine gd_getR (r := 59) dX3_layAnew_8 fl_3_19 rfl rfl rfl (by decide) ?_
  refine gd_ild1 dX3_layAnew_11 ?_
  refine gd_ild2 dX3_layAnew_12 ?_
  refine gd_if_ne_t 20 dX3_layAnew_13 (by decide) (by decide) ?_
  refine gd_ild3 dX3_layAnew_20 ?_
  refine gd_iast (n := 4) dX3_layAnew_21 rfl (by decide) (by repeat' (first | with_reducible rfl | apply ni_add | apply ni_mul)) (by omega) ?_
  refine gd_ald0 dX3_layAnew_22 (by decide) ?_
  refine gd_getR (r := 57) dX3_layAnew_23 fl_3_9 rfl rfl rfl (by decide) ?_
  refine gd_ild1 dX3_layAnew_26 ?_
  refine gd_bipush (v := nI 40) dX3_layAnew_27 (by decide) ?_
  refine gd_imul dX3_layAnew_29 ?_
  rw [show nI q * nI 40 = nI (40 * q) by rw [pk_mul, Nat.mul_comm]]
  refine gd_ild1 dX3_layAnew_30 ?_
  refine gd_ic1 dX3_layAnew_31 ?_
  refine gd_iadd dX3_layAnew_32 ?_
  refine gd_bipush (v := nI 40) dX3_layAnew_33 (by decide) ?_
  refine gd_imul dX3_layAnew_35 ?_
  rw [show (nI q + nI 1) * nI 40 = nI (40 * q + 40) by rw [nI_add, pk_mul, show (q + 1) * 40 = 40 * q + 40 by omega]]
  refine gd_lc0 dX3_layAnew_36 ?_
  refine gd_cS4v dX3_layAnew_37 ct_3_22 ⟨Nat.le_of_ble_eq_true rfl, Nat.le_of_ble_eq_true rfl⟩ (Nat.le_of_ble_eq_true rfl) (Nat.le_of_ble_eq_true rfl) (c_fillL (by omega) (by omega) _ _) ?_
  refine gd_ald0 dX3_layAnew_40 (by decide) ?_
  refine gd_getR (r := 59) dX3_layAnew_41 fl_3_19 rfl rfl rfl (by decide) ?_
  refine gd_ild1 dX3_layAnew_44 ?_
  refine gd_iald (n := 4) dX3_layAnew_45 rfl (by decide) (by repeat' (first | with_reducible rfl | apply ni_add | apply ni_mul)) (by omega) ?_
  rw [show (sL (sI (sI h 58 (upd (h.1 58) q (nI 8))) 59 (upd ((sI h 58 (upd (h.1 58) q (nI 8))).1 59) q (nI n))) 57 (filL ((sI (sI h 58 (upd (h.1 58) q (nI 8))) 59 (upd ((sI h 58 (upd (h.1 58) q (nI 8))).1 59) q (nI n))).2 57) (40 * q) (40 * q + 40) (lN 0))).1 59 q = nI n from if_pos rfl]
  refine gd_iret dX3_layAnew_46 rfl rfl ?_
  rfl
theorem c_layAnew16 {q n : Nat} (hq : q < 4) (h : Hp) : Gd mX3_layAnew 0 [.ref 56, .int (nI q), .int (nI 16), .int (nI n)] [] h (some (.int (nI n)), sL (sI (sI h 58 (upd (h.1 58) q (nI 16))) 59 (upd (h.1 59) q (nI n))) 57 (filL (h.2 57) (40 * q) (40 * q + 40) (lN 0))) := by
  refine gd_ald0 dX3_layAnew_0 (by decide) ?_
  refine gd_getR (r := 58) dX3_layAnew_1 fl_3_15 rfl rfl rfl (by decide) ?_
  refine gd_ild1 dX3_layAnew_4 ?_
  refine gd_ild2 dX3_layAnew_5 ?_
  refine gd_iast (n := 4) dX3_layAnew_6 rfl (by decide) (by repeat' (first | with_reducible rfl | apply ni_add | apply ni_mul)) (by omega) ?_
  refine gd_ald0 dX3_layAnew_7 (by decide) ?_
  refine gd_getR (r := 59) dX3_layAnew_8 fl_3_19 rfl rfl rfl (by decide) ?_
  refine gd_ild1 dX3_layAnew_11 ?_
  refine gd_ild2 dX3_layAnew_12 ?_
  refine gd_if_ne_t 20 dX3_layAnew_13 (by decide) (by decide) ?_
  refine gd_ild3 dX3_layAnew_20 ?_
  refine gd_iast (n := 4) dX3_layAnew_21 rfl (by decide) (by repeat' (first | with_reducible rfl | apply ni_add | apply ni_mul)) (by omega) ?_
  refine gd_ald0 dX3_layAnew_22 (by decide) ?_
  refine gd_getR (r := 57) dX3_layAnew_23 fl_3_9 rfl rfl rfl (by decide) ?_
  refine gd_ild1 dX3_layAnew_26 ?_
  refine gd_bipush (v := nI 40) dX3_layAnew_27 (by decide) ?_
  refine gd_imul dX3_layAnew_29 ?_
  rw [show nI q * nI 40 = nI (40 * q) by rw [pk_mul, Nat.mul_comm]]
  refine gd_ild1 dX3_layAnew_30 ?_
  refine gd_ic1 dX3_layAnew_31 ?_
  refine gd_iadd dX3_layAnew_32 ?_
  refine gd_bipush (v := nI 40) dX3_layAnew_33 (by decide) ?_
  refine gd_imul dX3_layAnew_35 ?_
  rw [show (nI q + nI 1) * nI 40 = nI (40 * q + 40) by rw [nI_add, pk_mul, show (q + 1) * 40 = 40 * q + 40 by omega]]
  refine gd_lc0 dX3_layAnew_36 ?_
  refine gd_cS4v dX3_layAnew_37 ct_3_22 ⟨Nat.le_of_ble_eq_true rfl, Nat.le_of_ble_eq_true rfl⟩ (Nat.le_of_ble_eq_true rfl) (Nat.le_of_ble_eq_true rfl) (c_fillL (by omega) (by omega) _ _) ?_
  refine gd_ald0 dX3_layAnew_40 (by decide) ?_
  refine gd_getR (r := 59) dX3_layAnew_41 fl_3_19 rfl rfl rfl (by decide) ?_
  refine gd_ild1 dX3_layAnew_44 ?_
  refine gd_iald (n := 4) dX3_layAnew_45 rfl (by decide) (by repeat' (first | with_reducible rfl | apply ni_add | apply ni_mul)) (by omega) ?_
  rw [show (sL (sI (sI h 58 (upd (h.1 58) q (nI 16))) 59 (upd ((sI h 58 (upd (h.1 58) q (nI 16))).1 59) q (nI n))) 57 (filL ((sI (sI h 58 (upd (h.1 58) q (nI 16))) 59 (upd ((sI h 58 (upd (h.1 58) q (nI 16))).1 59) q (nI n))).2 57) (40 * q) (40 * q + 40) (lN 0))).1 59 q = nI n from if_pos rfl]
  refine gd_iret dX3_layAnew_46 rfl rfl ?_
  rfl
theorem c_layAnew64 {q n : Nat} (hq : q < 4) (h : Hp) : Gd mX3_layAnew 0 [.ref 56, .int (nI q), .int (nI 64), .int (nI n)] [] h (some (.int (nI n)), sL (sI (sI h 58 (upd (h.1 58) q (nI 64))) 59 (upd (h.1 59) q (nI n))) 57 (filL (h.2 57) (40 * q) (40 * q + 40) (lN 0))) := by
  refine gd_ald0 dX3_layAnew_0 (by decide) ?_
  refine gd_getR (r := 58) dX3_layAnew_1 fl_3_15 rfl rfl rfl (by decide) ?_
  refine gd_ild1 dX3_layAnew_4 ?_
  refine gd_ild2 dX3_layAnew_5 ?_
  refine gd_iast (n := 4) dX3_layAnew_6 rfl (by decide) (by repeat' (first | with_reducible rfl | apply ni_add | apply ni_mul)) (by omega) ?_
  refine gd_ald0 dX3_layAnew_7 (by decide) ?_
  refine gd_getR (r := 59) dX3_layAnew_8 fl_3_19 rfl rfl rfl (by decide) ?_
  refine gd_ild1 dX3_layAnew_11 ?_
  refine gd_ild2 dX3_layAnew_12 ?_
  refine gd_if_ne_t 20 dX3_layAnew_13 (by decide) (by decide) ?_
  refine gd_ild3 dX3_layAnew_20 ?_
  refine gd_iast (n := 4) dX3_layAnew_21 rfl (by decide) (by repeat' (first | with_reducible rfl | apply ni_add | apply ni_mul)) (by omega) ?_
  refine gd_ald0 dX3_layAnew_22 (by decide) ?_
  refine gd_getR (r := 57) dX3_layAnew_23 fl_3_9 rfl rfl rfl (by decide) ?_
  refine gd_ild1 dX3_layAnew_26 ?_
  refine gd_bipush (v := nI 40) dX3_layAnew_27 (by decide) ?_
  refine gd_imul dX3_layAnew_29 ?_
  rw [show nI q * nI 40 = nI (40 * q) by rw [pk_mul, Nat.mul_comm]]
  refine gd_ild1 dX3_layAnew_30 ?_
  refine gd_ic1 dX3_layAnew_31 ?_
  refine gd_iadd dX3_layAnew_32 ?_
  refine gd_bipush (v := nI 40) dX3_layAnew_33 (by decide) ?_
  refine gd_imul dX3_layAnew_35 ?_
  rw [show (nI q + nI 1) * nI 40 = nI (40 * q + 40) by rw [nI_add, pk_mul, show (q + 1) * 40 = 40 * q + 40 by omega]]
  refine gd_lc0 dX3_layAnew_36 ?_
  refine gd_cS4v dX3_layAnew_37 ct_3_22 ⟨Nat.le_of_ble_eq_true rfl, Nat.le_of_ble_eq_true rfl⟩ (Nat.le_of_ble_eq_true rfl) (Nat.le_of_ble_eq_true rfl) (c_fillL (by omega) (by omega) _ _) ?_
  refine gd_ald0 dX3_layAnew_40 (by decide) ?_
  refine gd_getR (r := 59) dX3_layAnew_41 fl_3_19 rfl rfl rfl (by decide) ?_
  refine gd_ild1 dX3_layAnew_44 ?_
  refine gd_iald (n := 4) dX3_layAnew_45 rfl (by decide) (by repeat' (first | with_reducible rfl | apply ni_add | apply ni_mul)) (by omega) ?_
  rw [show (sL (sI (sI h 58 (upd (h.1 58) q (nI 64))) 59 (upd ((sI h 58 (upd (h.1 58) q (nI 64))).1 59) q (nI n))) 57 (filL ((sI (sI h 58 (upd (h.1 58) q (nI 64))) 59 (upd ((sI h 58 (upd (h.1 58) q (nI 64))).1 59) q (nI n))).2 57) (40 * q) (40 * q + 40) (lN 0))).1 59 q = nI n from if_pos rfl]
  refine gd_iret dX3_layAnew_46 rfl rfl ?_
  rfl
theorem lp_sheet {q : Nat} {b n : Int32} {v : Int32} (hq : q < 4) (h : Hp) (hv : h.1 91 q = v) : Gd mX9_sheet 83 [.ref 72, .int (nI q), .int b, .int n, .int (nI 0)] [] h (some (.int v), sL h 92 (filL (h.2 92) (40 * q) (40 * q + 40) (lN 0))) := by
  have key := loopG (P := fun j => Gd mX9_sheet 83 [.ref 72, .int (nI q), .int b, .int n, .int (nI j)] [] (sL h 92 (filL (h.2 92) (40 * q) (40 * q + j) (lN 0))) (some (.int v), sL h 92 (filL (h.2 92) (40 * q) (40 * q + 40) (lN 0)))) (n := 40) ?_ ?_ 0 (by decide)
  · rw [show 40 * q + 0 = 40 * q by omega, filL_0, sL_id] at key
    exact key
  · refine gd_ild4 dX9_sheet_83 ?_
    refine gd_bipush (v := nI 40) dX9_sheet_85 (by decide) ?_
    refine gd_icmp_ge_t 109 dX9_sheet_87 (by decide) (by exact nI_le (by omega) (by omega)) ?_
    refine gd_ald0 dX9_sheet_109 (by decide) ?_
    refine gd_getR (r := 91) dX9_sheet_110 fl_9_66 rfl rfl rfl (by decide) ?_
    refine gd_ild1 dX9_sheet_113 ?_
    refine gd_iald (n := 4) dX9_sheet_114 rfl (by decide) (by repeat' (first | with_reducible rfl | apply ni_add | apply ni_mul)) (by omega) ?_
    refine gd_iret dX9_sheet_115 rfl rfl ?_
    rw [show (sL h 92 (filL (h.2 92) (40 * q) (40 * q + 40) (lN 0))).1 91 q = v from hv]
  · intro j hj ih
    refine gd_ild4 dX9_sheet_83 ?_
    refine gd_bipush (v := nI 40) dX9_sheet_85 (by decide) ?_
    refine gd_icmp_ge_f 109 dX9_sheet_87 (by decide) (by exact nI_ge (by omega) (by omega)) ?_
    refine gd_ald0 dX9_sheet_90 (by decide) ?_
    refine gd_getR (r := 92) dX9_sheet_91 fl_9_69 rfl rfl rfl (by decide) ?_
    refine gd_bipush (v := nI 40) dX9_sheet_94 (by decide) ?_
    refine gd_ild1 dX9_sheet_96 ?_
    refine gd_imul dX9_sheet_97 ?_
    refine gd_ild4 dX9_sheet_98 ?_
    refine gd_iadd dX9_sheet_100 ?_
    refine gd_lc0 dX9_sheet_101 ?_
    refine gd_last (n := 160) dX9_sheet_102 rfl (by decide) (by repeat' (first | with_reducible rfl | apply ni_add | apply ni_mul)) (by omega) ?_
    refine gd_iinc4 (b := nI 1) dX9_sheet_103 (by decide) rfl ?_
    rw [nI_add]
    refine gd_goto 83 dX9_sheet_106 (by decide) ?_
    rw [sL_s, filL_s _ _ (by omega), sL_sL]
    exact ih
set_option maxHeartbeats 1000000 in
theorem p_sheet {h : Hp} (i : Inv h) (a b c : Int32) : Pas mX8_sheet mX9_sheet [.ref 0, .int a, .int b, .int c] [.ref 72, .int a, .int b, .int c, .null] h := by
  rcases rng a (4) (by decide) with ⟨q, hq, rfl⟩ | ha
  · by_cases b0 : b = nI 0
    · subst b0
      rcases rng c (41) (by decide) with ⟨n, hn, rfl⟩ | hc
      · refine ⟨.int (nI 0), sL (sI (sI h 58 (upd (h.1 58) q (nI 0))) 59 (upd (h.1 59) q (nI 0))) 57 (filL (h.2 57) (40 * q) (40 * q + 40) (lN 0)), sL (sI (sI (sL (sI (sI h 58 (upd (h.1 58) q (nI 0))) 59 (upd (h.1 59) q (nI 0))) 57 (filL (h.2 57) (40 * q) (40 * q + 40) (lN 0))) 90 (upd (h.1 90) q (nI 0))) 91 (upd (h.1 91) q (nI 0))) 92 (filL (h.2 92) (40 * q) (40 * q + 40) (lN 0)), ?_, ?_, ?_, rfl, rfl⟩
        · refine gd_ild1 dX8_sheet_0 ?_
          refine gd_ic4 dX8_sheet_1 ?_
          refine gd_cS2i dX8_sheet_2 ct_8_48 ⟨Nat.le_of_ble_eq_true rfl, Nat.le_of_ble_eq_true rfl⟩ (Nat.le_of_ble_eq_true rfl) (Nat.le_of_ble_eq_true rfl) (c_isBelow_t hq (by decide) _) ?_
          refine gd_if_eq_f 30 dX8_sheet_5 (by decide) (by decide) ?_
          refine gd_ild2 dX8_sheet_8 ?_
          refine gd_if_eq_t 37 dX8_sheet_9 (by decide) (by decide) ?_
          refine gd_ild3 dX8_sheet_37 ?_
          refine gd_if_ge_t 48 dX8_sheet_38 (by decide) (by exact nI_pos' (by omega)) ?_
          refine gd_ild3 dX8_sheet_48 ?_
          refine gd_bipush (v := nI 40) dX8_sheet_49 (by decide) ?_
          refine gd_icmp_le_t 61 dX8_sheet_51 (by decide) (by exact nI_le (by omega) (by omega)) ?_
          refine gd_ald0 dX8_sheet_61 (by decide) ?_
          refine gd_getR (r := 56) dX8_sheet_62 fl_8_33 rfl rfl rfl (by decide) ?_
          refine gd_ild1 dX8_sheet_65 ?_
          refine gd_ild2 dX8_sheet_66 ?_
          refine gd_ild3 dX8_sheet_67 ?_
          refine gd_cV3i dX8_sheet_68 ct_8_299 rc_56 ⟨Nat.le_of_ble_eq_true rfl, Nat.le_of_ble_eq_true rfl⟩ (Nat.le_of_ble_eq_true rfl) (Nat.le_of_ble_eq_true rfl) (c_layAnew0 hq _) ?_
          refine gd_iret dX8_sheet_71 rfl rfl ?_
          rfl
        · refine gd_ild1 dX9_sheet_0 ?_
          refine gd_cS1i dX9_sheet_1 ct_9_104 ⟨Nat.le_of_ble_eq_true rfl, Nat.le_of_ble_eq_true rfl⟩ (Nat.le_of_ble_eq_true rfl) (Nat.le_of_ble_eq_true rfl) (m_isSheet_t hq _) ?_
          refine gd_if_eq_f 29 dX9_sheet_4 (by decide) (by decide) ?_
          refine gd_ild2 dX9_sheet_7 ?_
          refine gd_if_eq_t 35 dX9_sheet_8 (by decide) (by decide) ?_
          refine gd_ild3 dX9_sheet_35 ?_
          refine gd_if_ge_t 46 dX9_sheet_36 (by decide) (by exact nI_pos' (by omega)) ?_
          refine gd_ild3 dX9_sheet_46 ?_
          refine gd_bipush (v := nI 40) dX9_sheet_47 (by decide) ?_
          refine gd_icmp_le_t 58 dX9_sheet_49 (by decide) (by exact nI_le (by omega) (by omega)) ?_
          refine gd_ald0 dX9_sheet_58 (by decide) ?_
          refine gd_getR (r := 90) dX9_sheet_59 fl_9_63 rfl rfl rfl (by decide) ?_
          refine gd_ild1 dX9_sheet_62 ?_
          refine gd_ild2 dX9_sheet_63 ?_
          refine gd_iast (n := 4) dX9_sheet_64 rfl (by decide) (by repeat' (first | with_reducible rfl | apply ni_add | apply ni_mul)) (by omega) ?_
          refine gd_ald0 dX9_sheet_65 (by decide) ?_
          refine gd_getR (r := 91) dX9_sheet_66 fl_9_66 rfl rfl rfl (by decide) ?_
          refine gd_ild1 dX9_sheet_69 ?_
          refine gd_ild2 dX9_sheet_70 ?_
          refine gd_if_ne_f 78 dX9_sheet_71 (by decide) (by decide) ?_
          refine gd_ic0 dX9_sheet_74 ?_
          refine gd_goto 79 dX9_sheet_75 (by decide) ?_
          refine gd_iast (n := 4) dX9_sheet_79 rfl (by decide) (by repeat' (first | with_reducible rfl | apply ni_add | apply ni_mul)) (by omega) ?_
          refine gd_ic0 dX9_sheet_80 ?_
          refine gd_ist4 dX9_sheet_81 rfl ?_
          exact lp_sheet hq _ (if_pos rfl)
        · refine inv_rest i (fun k hk => ?_) (Or.inl ⟨rfl, rfl⟩) ⟨i.p.n, i.p.b⟩ ⟨?_, ?_, ?_, ?_, ?_⟩ rfl
          · show (sI (sI (sI (sI h 58 _) 59 _) 90 _) 91 _).1 k = h.1 k
            rw [sI_n (by omega), sI_n (by omega), sI_n (by omega), sI_n (by omega)]
          · intro j hj
            show upd (h.1 58) q (nI 0) j = upd (h.1 90) q (nI 0) j
            rw [upd_at, upd_at, i.s.w j hj]
          · intro j hj
            show upd (h.1 59) q (nI 0) j = upd (h.1 91) q (nI 0) j
            rw [upd_at, upd_at, i.s.z j hj]
          · intro j hj
            show upd (h.1 91) q (nI 0) j = nI (tn (upd (h.1 91) q (nI 0) j)) ∧ tn (upd (h.1 91) q (nI 0) j) ≤ 40
            rw [upd_at]
            split
            · rw [tn_nI (by omega)]; exact ⟨rfl, by omega⟩
            · exact i.s.n j hj
          · intro j hj
            show upd (h.1 90) q (nI 0) j = nI 0 ∨ upd (h.1 90) q (nI 0) j = nI 8 ∨ upd (h.1 90) q (nI 0) j = nI 16 ∨ upd (h.1 90) q (nI 0) j = nI 64
            rw [upd_at]
            split
            · simp
            · exact i.s.v j hj
          · intro j hj
            show filL (h.2 57) _ _ _ j = filL (h.2 92) _ _ _ j
            unfold filL
            rw [i.s.x j hj]
      · by_cases hn : c < 0
        · refine Pas.find (h1 := h) (h2 := hf (h) 6) (v := -1000000007) (w := (-1000000000 : Int32) - nI 7) 6 i (by decide) (by decide) (by decide) (Same.rf _) (Same.rf _) ?_ ?_
          · refine gd_ild1 dX8_sheet_0 ?_
            refine gd_ic4 dX8_sheet_1 ?_
            refine gd_cS2i dX8_sheet_2 ct_8_48 ⟨Nat.le_of_ble_eq_true rfl, Nat.le_of_ble_eq_true rfl⟩ (Nat.le_of_ble_eq_true rfl) (Nat.le_of_ble_eq_true rfl) (c_isBelow_t hq (by decide) _) ?_
            refine gd_if_eq_f 30 dX8_sheet_5 (by decide) (by decide) ?_
            refine gd_ild2 dX8_sheet_8 ?_
            refine gd_if_eq_t 37 dX8_sheet_9 (by decide) (by decide) ?_
            refine gd_ild3 dX8_sheet_37 ?_
            refine gd_if_ge_f 48 dX8_sheet_38 (by decide) (Int32.not_le.mpr hn) ?_
            refine gd_ald0 dX8_sheet_41 (by decide) ?_
            refine gd_ldc dX8_sheet_42 ld_8_89 ?_
            refine gd_cV1i dX8_sheet_44 ct_8_53 rc_0 ⟨Nat.le_of_ble_eq_true rfl, Nat.le_of_ble_eq_true rfl⟩ (Nat.le_of_ble_eq_true rfl) (Nat.le_of_ble_eq_true rfl) (c_f6 _) ?_
            refine gd_iret dX8_sheet_47 rfl rfl ?_
            rfl
          · refine gd_ild1 dX9_sheet_0 ?_
            refine gd_cS1i dX9_sheet_1 ct_9_104 ⟨Nat.le_of_ble_eq_true rfl, Nat.le_of_ble_eq_true rfl⟩ (Nat.le_of_ble_eq_true rfl) (Nat.le_of_ble_eq_true rfl) (m_isSheet_t hq _) ?_
            refine gd_if_eq_f 29 dX9_sheet_4 (by decide) (by decide) ?_
            refine gd_ild2 dX9_sheet_7 ?_
            refine gd_if_eq_t 35 dX9_sheet_8 (by decide) (by decide) ?_
            refine gd_ild3 dX9_sheet_35 ?_
            refine gd_if_ge_f 46 dX9_sheet_36 (by decide) (Int32.not_le.mpr hn) ?_
            refine gd_ald0 dX9_sheet_39 (by decide) ?_
            refine gd_bipush (v := nI 7) dX9_sheet_40 (by decide) ?_
            refine gd_cV1i dX9_sheet_42 ct_9_97 rc_72 ⟨Nat.le_of_ble_eq_true rfl, Nat.le_of_ble_eq_true rfl⟩ (Nat.le_of_ble_eq_true rfl) (Nat.le_of_ble_eq_true rfl) (m_f6 _) ?_
            refine gd_iret dX9_sheet_45 rfl rfl ?_
            rfl
        · have hn2 : ¬ c ≤ nI 40 := fun z => hc ⟨Int32.not_lt.mp hn, by rw [Int32.le_iff_toInt_le, nI_toInt (by decide)] at z; rw [Int32.lt_iff_toInt_lt, nI_toInt (by decide)]; omega⟩
          refine Pas.find (h1 := h) (h2 := hf (h) 0) (v := -1000000001) (w := (-1000000000 : Int32) - nI 1) 0 i (by decide) (by decide) (by decide) (Same.rf _) (Same.rf _) ?_ ?_
          · refine gd_ild1 dX8_sheet_0 ?_
            refine gd_ic4 dX8_sheet_1 ?_
            refine gd_cS2i dX8_sheet_2 ct_8_48 ⟨Nat.le_of_ble_eq_true rfl, Nat.le_of_ble_eq_true rfl⟩ (Nat.le_of_ble_eq_true rfl) (Nat.le_of_ble_eq_true rfl) (c_isBelow_t hq (by decide) _) ?_
            refine gd_if_eq_f 30 dX8_sheet_5 (by decide) (by decide) ?_
            refine gd_ild2 dX8_sheet_8 ?_
            refine gd_if_eq_t 37 dX8_sheet_9 (by decide) (by decide) ?_
            refine gd_ild3 dX8_sheet_37 ?_
            refine gd_if_ge_t 48 dX8_sheet_38 (by decide) (Int32.not_lt.mp hn) ?_
            refine gd_ild3 dX8_sheet_48 ?_
            refine gd_bipush (v := nI 40) dX8_sheet_49 (by decide) ?_
            refine gd_icmp_le_f 61 dX8_sheet_51 (by decide) (hn2) ?_
            refine gd_ald0 dX8_sheet_54 (by decide) ?_
            refine gd_ldc dX8_sheet_55 ld_8_52 ?_
            refine gd_cV1i dX8_sheet_57 ct_8_53 rc_0 ⟨Nat.le_of_ble_eq_true rfl, Nat.le_of_ble_eq_true rfl⟩ (Nat.le_of_ble_eq_true rfl) (Nat.le_of_ble_eq_true rfl) (c_f0 _) ?_
            refine gd_iret dX8_sheet_60 rfl rfl ?_
            rfl
          · refine gd_ild1 dX9_sheet_0 ?_
            refine gd_cS1i dX9_sheet_1 ct_9_104 ⟨Nat.le_of_ble_eq_true rfl, Nat.le_of_ble_eq_true rfl⟩ (Nat.le_of_ble_eq_true rfl) (Nat.le_of_ble_eq_true rfl) (m_isSheet_t hq _) ?_
            refine gd_if_eq_f 29 dX9_sheet_4 (by decide) (by decide) ?_
            refine gd_ild2 dX9_sheet_7 ?_
            refine gd_if_eq_t 35 dX9_sheet_8 (by decide) (by decide) ?_
            refine gd_ild3 dX9_sheet_35 ?_
            refine gd_if_ge_t 46 dX9_sheet_36 (by decide) (Int32.not_lt.mp hn) ?_
            refine gd_ild3 dX9_sheet_46 ?_
            refine gd_bipush (v := nI 40) dX9_sheet_47 (by decide) ?_
            refine gd_icmp_le_f 58 dX9_sheet_49 (by decide) (hn2) ?_
            refine gd_ald0 dX9_sheet_52 (by decide) ?_
            refine gd_ic1 dX9_sheet_53 ?_
            refine gd_cV1i dX9_sheet_54 ct_9_97 rc_72 ⟨Nat.le_of_ble_eq_true rfl, Nat.le_of_ble_eq_true rfl⟩ (Nat.le_of_ble_eq_true rfl) (Nat.le_of_ble_eq_true rfl) (m_f0 _) ?_
            refine gd_iret dX9_sheet_57 rfl rfl ?_
            rfl
    · by_cases b1 : b = nI 8
      · subst b1
        rcases rng c (41) (by decide) with ⟨n, hn, rfl⟩ | hc
        · refine ⟨.int (nI n), sL (sI (sI h 58 (upd (h.1 58) q (nI 8))) 59 (upd (h.1 59) q (nI n))) 57 (filL (h.2 57) (40 * q) (40 * q + 40) (lN 0)), sL (sI (sI (sL (sI (sI h 58 (upd (h.1 58) q (nI 8))) 59 (upd (h.1 59) q (nI n))) 57 (filL (h.2 57) (40 * q) (40 * q + 40) (lN 0))) 90 (upd (h.1 90) q (nI 8))) 91 (upd (h.1 91) q (nI n))) 92 (filL (h.2 92) (40 * q) (40 * q + 40) (lN 0)), ?_, ?_, ?_, rfl, rfl⟩
          · refine gd_ild1 dX8_sheet_0 ?_
            refine gd_ic4 dX8_sheet_1 ?_
            refine gd_cS2i dX8_sheet_2 ct_8_48 ⟨Nat.le_of_ble_eq_true rfl, Nat.le_of_ble_eq_true rfl⟩ (Nat.le_of_ble_eq_true rfl) (Nat.le_of_ble_eq_true rfl) (c_isBelow_t hq (by decide) _) ?_
            refine gd_if_eq_f 30 dX8_sheet_5 (by decide) (by decide) ?_
            refine gd_ild2 dX8_sheet_8 ?_
            refine gd_if_eq_f 37 dX8_sheet_9 (by decide) (by decide) ?_
            refine gd_ild2 dX8_sheet_12 ?_
            refine gd_bipush (v := nI 8) dX8_sheet_13 (by decide) ?_
            refine gd_icmp_eq_t 37 dX8_sheet_15 (by decide) (by decide) ?_
            refine gd_ild3 dX8_sheet_37 ?_
            refine gd_if_ge_t 48 dX8_sheet_38 (by decide) (by exact nI_pos' (by omega)) ?_
            refine gd_ild3 dX8_sheet_48 ?_
            refine gd_bipush (v := nI 40) dX8_sheet_49 (by decide) ?_
            refine gd_icmp_le_t 61 dX8_sheet_51 (by decide) (by exact nI_le (by omega) (by omega)) ?_
            refine gd_ald0 dX8_sheet_61 (by decide) ?_
            refine gd_getR (r := 56) dX8_sheet_62 fl_8_33 rfl rfl rfl (by decide) ?_
            refine gd_ild1 dX8_sheet_65 ?_
            refine gd_ild2 dX8_sheet_66 ?_
            refine gd_ild3 dX8_sheet_67 ?_
            refine gd_cV3i dX8_sheet_68 ct_8_299 rc_56 ⟨Nat.le_of_ble_eq_true rfl, Nat.le_of_ble_eq_true rfl⟩ (Nat.le_of_ble_eq_true rfl) (Nat.le_of_ble_eq_true rfl) (c_layAnew8 hq _) ?_
            refine gd_iret dX8_sheet_71 rfl rfl ?_
            rfl
          · refine gd_ild1 dX9_sheet_0 ?_
            refine gd_cS1i dX9_sheet_1 ct_9_104 ⟨Nat.le_of_ble_eq_true rfl, Nat.le_of_ble_eq_true rfl⟩ (Nat.le_of_ble_eq_true rfl) (Nat.le_of_ble_eq_true rfl) (m_isSheet_t hq _) ?_
            refine gd_if_eq_f 29 dX9_sheet_4 (by decide) (by decide) ?_
            refine gd_ild2 dX9_sheet_7 ?_
            refine gd_if_eq_f 35 dX9_sheet_8 (by decide) (by decide) ?_
            refine gd_ild2 dX9_sheet_11 ?_
            refine gd_bipush (v := nI 8) dX9_sheet_12 (by decide) ?_
            refine gd_icmp_eq_t 35 dX9_sheet_14 (by decide) (by decide) ?_
            refine gd_ild3 dX9_sheet_35 ?_
            refine gd_if_ge_t 46 dX9_sheet_36 (by decide) (by exact nI_pos' (by omega)) ?_
            refine gd_ild3 dX9_sheet_46 ?_
            refine gd_bipush (v := nI 40) dX9_sheet_47 (by decide) ?_
            refine gd_icmp_le_t 58 dX9_sheet_49 (by decide) (by exact nI_le (by omega) (by omega)) ?_
            refine gd_ald0 dX9_sheet_58 (by decide) ?_
            refine gd_getR (r := 90) dX9_sheet_59 fl_9_63 rfl rfl rfl (by decide) ?_
            refine gd_ild1 dX9_sheet_62 ?_
            refine gd_ild2 dX9_sheet_63 ?_
            refine gd_iast (n := 4) dX9_sheet_64 rfl (by decide) (by repeat' (first | with_reducible rfl | apply ni_add | apply ni_mul)) (by omega) ?_
            refine gd_ald0 dX9_sheet_65 (by decide) ?_
            refine gd_getR (r := 91) dX9_sheet_66 fl_9_66 rfl rfl rfl (by decide) ?_
            refine gd_ild1 dX9_sheet_69 ?_
            refine gd_ild2 dX9_sheet_70 ?_
            refine gd_if_ne_t 78 dX9_sheet_71 (by decide) (by decide) ?_
            refine gd_ild3 dX9_sheet_78 ?_
            refine gd_iast (n := 4) dX9_sheet_79 rfl (by decide) (by repeat' (first | with_reducible rfl | apply ni_add | apply ni_mul)) (by omega) ?_
            refine gd_ic0 dX9_sheet_80 ?_
            refine gd_ist4 dX9_sheet_81 rfl ?_
            exact lp_sheet hq _ (if_pos rfl)
          · refine inv_rest i (fun k hk => ?_) (Or.inl ⟨rfl, rfl⟩) ⟨i.p.n, i.p.b⟩ ⟨?_, ?_, ?_, ?_, ?_⟩ rfl
            · show (sI (sI (sI (sI h 58 _) 59 _) 90 _) 91 _).1 k = h.1 k
              rw [sI_n (by omega), sI_n (by omega), sI_n (by omega), sI_n (by omega)]
            · intro j hj
              show upd (h.1 58) q (nI 8) j = upd (h.1 90) q (nI 8) j
              rw [upd_at, upd_at, i.s.w j hj]
            · intro j hj
              show upd (h.1 59) q (nI n) j = upd (h.1 91) q (nI n) j
              rw [upd_at, upd_at, i.s.z j hj]
            · intro j hj
              show upd (h.1 91) q (nI n) j = nI (tn (upd (h.1 91) q (nI n) j)) ∧ tn (upd (h.1 91) q (nI n) j) ≤ 40
              rw [upd_at]
              split
              · rw [tn_nI (by omega)]; exact ⟨rfl, by omega⟩
              · exact i.s.n j hj
            · intro j hj
              show upd (h.1 90) q (nI 8) j = nI 0 ∨ upd (h.1 90) q (nI 8) j = nI 8 ∨ upd (h.1 90) q (nI 8) j = nI 16 ∨ upd (h.1 90) q (nI 8) j = nI 64
              rw [upd_at]
              split
              · simp
              · exact i.s.v j hj
            · intro j hj
              show filL (h.2 57) _ _ _ j = filL (h.2 92) _ _ _ j
              unfold filL
              rw [i.s.x j hj]
        · by_cases hn : c < 0
          · refine Pas.find (h1 := h) (h2 := hf (h) 6) (v := -1000000007) (w := (-1000000000 : Int32) - nI 7) 6 i (by decide) (by decide) (by decide) (Same.rf _) (Same.rf _) ?_ ?_
            · refine gd_ild1 dX8_sheet_0 ?_
              refine gd_ic4 dX8_sheet_1 ?_
              refine gd_cS2i dX8_sheet_2 ct_8_48 ⟨Nat.le_of_ble_eq_true rfl, Nat.le_of_ble_eq_true rfl⟩ (Nat.le_of_ble_eq_true rfl) (Nat.le_of_ble_eq_true rfl) (c_isBelow_t hq (by decide) _) ?_
              refine gd_if_eq_f 30 dX8_sheet_5 (by decide) (by decide) ?_
              refine gd_ild2 dX8_sheet_8 ?_
              refine gd_if_eq_f 37 dX8_sheet_9 (by decide) (by decide) ?_
              refine gd_ild2 dX8_sheet_12 ?_
              refine gd_bipush (v := nI 8) dX8_sheet_13 (by decide) ?_
              refine gd_icmp_eq_t 37 dX8_sheet_15 (by decide) (by decide) ?_
              refine gd_ild3 dX8_sheet_37 ?_
              refine gd_if_ge_f 48 dX8_sheet_38 (by decide) (Int32.not_le.mpr hn) ?_
              refine gd_ald0 dX8_sheet_41 (by decide) ?_
              refine gd_ldc dX8_sheet_42 ld_8_89 ?_
              refine gd_cV1i dX8_sheet_44 ct_8_53 rc_0 ⟨Nat.le_of_ble_eq_true rfl, Nat.le_of_ble_eq_true rfl⟩ (Nat.le_of_ble_eq_true rfl) (Nat.le_of_ble_eq_true rfl) (c_f6 _) ?_
              refine gd_iret dX8_sheet_47 rfl rfl ?_
              rfl
            · refine gd_ild1 dX9_sheet_0 ?_
              refine gd_cS1i dX9_sheet_1 ct_9_104 ⟨Nat.le_of_ble_eq_true rfl, Nat.le_of_ble_eq_true rfl⟩ (Nat.le_of_ble_eq_true rfl) (Nat.le_of_ble_eq_true rfl) (m_isSheet_t hq _) ?_
              refine gd_if_eq_f 29 dX9_sheet_4 (by decide) (by decide) ?_
              refine gd_ild2 dX9_sheet_7 ?_
              refine gd_if_eq_f 35 dX9_sheet_8 (by decide) (by decide) ?_
              refine gd_ild2 dX9_sheet_11 ?_
              refine gd_bipush (v := nI 8) dX9_sheet_12 (by decide) ?_
              refine gd_icmp_eq_t 35 dX9_sheet_14 (by decide) (by decide) ?_
              refine gd_ild3 dX9_sheet_35 ?_
              refine gd_if_ge_f 46 dX9_sheet_36 (by decide) (Int32.not_le.mpr hn) ?_
              refine gd_ald0 dX9_sheet_39 (by decide) ?_
              refine gd_bipush (v := nI 7) dX9_sheet_40 (by decide) ?_
              refine gd_cV1i dX9_sheet_42 ct_9_97 rc_72 ⟨Nat.le_of_ble_eq_true rfl, Nat.le_of_ble_eq_true rfl⟩ (Nat.le_of_ble_eq_true rfl) (Nat.le_of_ble_eq_true rfl) (m_f6 _) ?_
              refine gd_iret dX9_sheet_45 rfl rfl ?_
              rfl
          · have hn2 : ¬ c ≤ nI 40 := fun z => hc ⟨Int32.not_lt.mp hn, by rw [Int32.le_iff_toInt_le, nI_toInt (by decide)] at z; rw [Int32.lt_iff_toInt_lt, nI_toInt (by decide)]; omega⟩
            refine Pas.find (h1 := h) (h2 := hf (h) 0) (v := -1000000001) (w := (-1000000000 : Int32) - nI 1) 0 i (by decide) (by decide) (by decide) (Same.rf _) (Same.rf _) ?_ ?_
            · refine gd_ild1 dX8_sheet_0 ?_
              refine gd_ic4 dX8_sheet_1 ?_
              refine gd_cS2i dX8_sheet_2 ct_8_48 ⟨Nat.le_of_ble_eq_true rfl, Nat.le_of_ble_eq_true rfl⟩ (Nat.le_of_ble_eq_true rfl) (Nat.le_of_ble_eq_true rfl) (c_isBelow_t hq (by decide) _) ?_
              refine gd_if_eq_f 30 dX8_sheet_5 (by decide) (by decide) ?_
              refine gd_ild2 dX8_sheet_8 ?_
              refine gd_if_eq_f 37 dX8_sheet_9 (by decide) (by decide) ?_
              refine gd_ild2 dX8_sheet_12 ?_
              refine gd_bipush (v := nI 8) dX8_sheet_13 (by decide) ?_
              refine gd_icmp_eq_t 37 dX8_sheet_15 (by decide) (by decide) ?_
              refine gd_ild3 dX8_sheet_37 ?_
              refine gd_if_ge_t 48 dX8_sheet_38 (by decide) (Int32.not_lt.mp hn) ?_
              refine gd_ild3 dX8_sheet_48 ?_
              refine gd_bipush (v := nI 40) dX8_sheet_49 (by decide) ?_
              refine gd_icmp_le_f 61 dX8_sheet_51 (by decide) (hn2) ?_
              refine gd_ald0 dX8_sheet_54 (by decide) ?_
              refine gd_ldc dX8_sheet_55 ld_8_52 ?_
              refine gd_cV1i dX8_sheet_57 ct_8_53 rc_0 ⟨Nat.le_of_ble_eq_true rfl, Nat.le_of_ble_eq_true rfl⟩ (Nat.le_of_ble_eq_true rfl) (Nat.le_of_ble_eq_true rfl) (c_f0 _) ?_
              refine gd_iret dX8_sheet_60 rfl rfl ?_
              rfl
            · refine gd_ild1 dX9_sheet_0 ?_
              refine gd_cS1i dX9_sheet_1 ct_9_104 ⟨Nat.le_of_ble_eq_true rfl, Nat.le_of_ble_eq_true rfl⟩ (Nat.le_of_ble_eq_true rfl) (Nat.le_of_ble_eq_true rfl) (m_isSheet_t hq _) ?_
              refine gd_if_eq_f 29 dX9_sheet_4 (by decide) (by decide) ?_
              refine gd_ild2 dX9_sheet_7 ?_
              refine gd_if_eq_f 35 dX9_sheet_8 (by decide) (by decide) ?_
              refine gd_ild2 dX9_sheet_11 ?_
              refine gd_bipush (v := nI 8) dX9_sheet_12 (by decide) ?_
              refine gd_icmp_eq_t 35 dX9_sheet_14 (by decide) (by decide) ?_
              refine gd_ild3 dX9_sheet_35 ?_
              refine gd_if_ge_t 46 dX9_sheet_36 (by decide) (Int32.not_lt.mp hn) ?_
              refine gd_ild3 dX9_sheet_46 ?_
              refine gd_bipush (v := nI 40) dX9_sheet_47 (by decide) ?_
              refine gd_icmp_le_f 58 dX9_sheet_49 (by decide) (hn2) ?_
              refine gd_ald0 dX9_sheet_52 (by decide) ?_
              refine gd_ic1 dX9_sheet_53 ?_
              refine gd_cV1i dX9_sheet_54 ct_9_97 rc_72 ⟨Nat.le_of_ble_eq_true rfl, Nat.le_of_ble_eq_true rfl⟩ (Nat.le_of_ble_eq_true rfl) (Nat.le_of_ble_eq_true rfl) (m_f0 _) ?_
              refine gd_iret dX9_sheet_57 rfl rfl ?_
              rfl
      · by_cases b2 : b = nI 16
        · subst b2
          rcases rng c (41) (by decide) with ⟨n, hn, rfl⟩ | hc
          · refine ⟨.int (nI n), sL (sI (sI h 58 (upd (h.1 58) q (nI 16))) 59 (upd (h.1 59) q (nI n))) 57 (filL (h.2 57) (40 * q) (40 * q + 40) (lN 0)), sL (sI (sI (sL (sI (sI h 58 (upd (h.1 58) q (nI 16))) 59 (upd (h.1 59) q (nI n))) 57 (filL (h.2 57) (40 * q) (40 * q + 40) (lN 0))) 90 (upd (h.1 90) q (nI 16))) 91 (upd (h.1 91) q (nI n))) 92 (filL (h.2 92) (40 * q) (40 * q + 40) (lN 0)), ?_, ?_, ?_, rfl, rfl⟩
            · refine gd_ild1 dX8_sheet_0 ?_
              refine gd_ic4 dX8_sheet_1 ?_
              refine gd_cS2i dX8_sheet_2 ct_8_48 ⟨Nat.le_of_ble_eq_true rfl, Nat.le_of_ble_eq_true rfl⟩ (Nat.le_of_ble_eq_true rfl) (Nat.le_of_ble_eq_true rfl) (c_isBelow_t hq (by decide) _) ?_
              refine gd_if_eq_f 30 dX8_sheet_5 (by decide) (by decide) ?_
              refine gd_ild2 dX8_sheet_8 ?_
              refine gd_if_eq_f 37 dX8_sheet_9 (by decide) (by decide) ?_
              refine gd_ild2 dX8_sheet_12 ?_
              refine gd_bipush (v := nI 8) dX8_sheet_13 (by decide) ?_
              refine gd_icmp_eq_f 37 dX8_sheet_15 (by decide) (by decide) ?_
              refine gd_ild2 dX8_sheet_18 ?_
              refine gd_bipush (v := nI 16) dX8_sheet_19 (by decide) ?_
              refine gd_icmp_eq_t 37 dX8_sheet_21 (by decide) (by decide) ?_
              refine gd_ild3 dX8_sheet_37 ?_
              refine gd_if_ge_t 48 dX8_sheet_38 (by decide) (by exact nI_pos' (by omega)) ?_
              refine gd_ild3 dX8_sheet_48 ?_
              refine gd_bipush (v := nI 40) dX8_sheet_49 (by decide) ?_
              refine gd_icmp_le_t 61 dX8_sheet_51 (by decide) (by exact nI_le (by omega) (by omega)) ?_
              refine gd_ald0 dX8_sheet_61 (by decide) ?_
              refine gd_getR (r := 56) dX8_sheet_62 fl_8_33 rfl rfl rfl (by decide) ?_
              refine gd_ild1 dX8_sheet_65 ?_
              refine gd_ild2 dX8_sheet_66 ?_
              refine gd_ild3 dX8_sheet_67 ?_
              refine gd_cV3i dX8_sheet_68 ct_8_299 rc_56 ⟨Nat.le_of_ble_eq_true rfl, Nat.le_of_ble_eq_true rfl⟩ (Nat.le_of_ble_eq_true rfl) (Nat.le_of_ble_eq_true rfl) (c_layAnew16 hq _) ?_
              refine gd_iret dX8_sheet_71 rfl rfl ?_
              rfl
            · refine gd_ild1 dX9_sheet_0 ?_
              refine gd_cS1i dX9_sheet_1 ct_9_104 ⟨Nat.le_of_ble_eq_true rfl, Nat.le_of_ble_eq_true rfl⟩ (Nat.le_of_ble_eq_true rfl) (Nat.le_of_ble_eq_true rfl) (m_isSheet_t hq _) ?_
              refine gd_if_eq_f 29 dX9_sheet_4 (by decide) (by decide) ?_
              refine gd_ild2 dX9_sheet_7 ?_
              refine gd_if_eq_f 35 dX9_sheet_8 (by decide) (by decide) ?_
              refine gd_ild2 dX9_sheet_11 ?_
              refine gd_bipush (v := nI 8) dX9_sheet_12 (by decide) ?_
              refine gd_icmp_eq_f 35 dX9_sheet_14 (by decide) (by decide) ?_
              refine gd_ild2 dX9_sheet_17 ?_
              refine gd_bipush (v := nI 16) dX9_sheet_18 (by decide) ?_
              refine gd_icmp_eq_t 35 dX9_sheet_20 (by decide) (by decide) ?_
              refine gd_ild3 dX9_sheet_35 ?_
              refine gd_if_ge_t 46 dX9_sheet_36 (by decide) (by exact nI_pos' (by omega)) ?_
              refine gd_ild3 dX9_sheet_46 ?_
              refine gd_bipush (v := nI 40) dX9_sheet_47 (by decide) ?_
              refine gd_icmp_le_t 58 dX9_sheet_49 (by decide) (by exact nI_le (by omega) (by omega)) ?_
              refine gd_ald0 dX9_sheet_58 (by decide) ?_
              refine gd_getR (r := 90) dX9_sheet_59 fl_9_63 rfl rfl rfl (by decide) ?_
              refine gd_ild1 dX9_sheet_62 ?_
              refine gd_ild2 dX9_sheet_63 ?_
              refine gd_iast (n := 4) dX9_sheet_64 rfl (by decide) (by repeat' (first | with_reducible rfl | apply ni_add | apply ni_mul)) (by omega) ?_
              refine gd_ald0 dX9_sheet_65 (by decide) ?_
              refine gd_getR (r := 91) dX9_sheet_66 fl_9_66 rfl rfl rfl (by decide) ?_
              refine gd_ild1 dX9_sheet_69 ?_
              refine gd_ild2 dX9_sheet_70 ?_
              refine gd_if_ne_t 78 dX9_sheet_71 (by decide) (by decide) ?_
              refine gd_ild3 dX9_sheet_78 ?_
              refine gd_iast (n := 4) dX9_sheet_79 rfl (by decide) (by repeat' (first | with_reducible rfl | apply ni_add | apply ni_mul)) (by omega) ?_
              refine gd_ic0 dX9_sheet_80 ?_
              refine gd_ist4 dX9_sheet_81 rfl ?_
              exact lp_sheet hq _ (if_pos rfl)
            · refine inv_rest i (fun k hk => ?_) (Or.inl ⟨rfl, rfl⟩) ⟨i.p.n, i.p.b⟩ ⟨?_, ?_, ?_, ?_, ?_⟩ rfl
              · show (sI (sI (sI (sI h 58 _) 59 _) 90 _) 91 _).1 k = h.1 k
                rw [sI_n (by omega), sI_n (by omega), sI_n (by omega), sI_n (by omega)]
              · intro j hj
                show upd (h.1 58) q (nI 16) j = upd (h.1 90) q (nI 16) j
                rw [upd_at, upd_at, i.s.w j hj]
              · intro j hj
                show upd (h.1 59) q (nI n) j = upd (h.1 91) q (nI n) j
                rw [upd_at, upd_at, i.s.z j hj]
              · intro j hj
                show upd (h.1 91) q (nI n) j = nI (tn (upd (h.1 91) q (nI n) j)) ∧ tn (upd (h.1 91) q (nI n) j) ≤ 40
                rw [upd_at]
                split
                · rw [tn_nI (by omega)]; exact ⟨rfl, by omega⟩
                · exact i.s.n j hj
              · intro j hj
                show upd (h.1 90) q (nI 16) j = nI 0 ∨ upd (h.1 90) q (nI 16) j = nI 8 ∨ upd (h.1 90) q (nI 16) j = nI 16 ∨ upd (h.1 90) q (nI 16) j = nI 64
                rw [upd_at]
                split
                · simp
                · exact i.s.v j hj
              · intro j hj
                show filL (h.2 57) _ _ _ j = filL (h.2 92) _ _ _ j
                unfold filL
                rw [i.s.x j hj]
          · by_cases hn : c < 0
            · refine Pas.find (h1 := h) (h2 := hf (h) 6) (v := -1000000007) (w := (-1000000000 : Int32) - nI 7) 6 i (by decide) (by decide) (by decide) (Same.rf _) (Same.rf _) ?_ ?_
              · refine gd_ild1 dX8_sheet_0 ?_
                refine gd_ic4 dX8_sheet_1 ?_
                refine gd_cS2i dX8_sheet_2 ct_8_48 ⟨Nat.le_of_ble_eq_true rfl, Nat.le_of_ble_eq_true rfl⟩ (Nat.le_of_ble_eq_true rfl) (Nat.le_of_ble_eq_true rfl) (c_isBelow_t hq (by decide) _) ?_
                refine gd_if_eq_f 30 dX8_sheet_5 (by decide) (by decide) ?_
                refine gd_ild2 dX8_sheet_8 ?_
                refine gd_if_eq_f 37 dX8_sheet_9 (by decide) (by decide) ?_
                refine gd_ild2 dX8_sheet_12 ?_
                refine gd_bipush (v := nI 8) dX8_sheet_13 (by decide) ?_
                refine gd_icmp_eq_f 37 dX8_sheet_15 (by decide) (by decide) ?_
                refine gd_ild2 dX8_sheet_18 ?_
                refine gd_bipush (v := nI 16) dX8_sheet_19 (by decide) ?_
                refine gd_icmp_eq_t 37 dX8_sheet_21 (by decide) (by decide) ?_
                refine gd_ild3 dX8_sheet_37 ?_
                refine gd_if_ge_f 48 dX8_sheet_38 (by decide) (Int32.not_le.mpr hn) ?_
                refine gd_ald0 dX8_sheet_41 (by decide) ?_
                refine gd_ldc dX8_sheet_42 ld_8_89 ?_
                refine gd_cV1i dX8_sheet_44 ct_8_53 rc_0 ⟨Nat.le_of_ble_eq_true rfl, Nat.le_of_ble_eq_true rfl⟩ (Nat.le_of_ble_eq_true rfl) (Nat.le_of_ble_eq_true rfl) (c_f6 _) ?_
                refine gd_iret dX8_sheet_47 rfl rfl ?_
                rfl
              · refine gd_ild1 dX9_sheet_0 ?_
                refine gd_cS1i dX9_sheet_1 ct_9_104 ⟨Nat.le_of_ble_eq_true rfl, Nat.le_of_ble_eq_true rfl⟩ (Nat.le_of_ble_eq_true rfl) (Nat.le_of_ble_eq_true rfl) (m_isSheet_t hq _) ?_
                refine gd_if_eq_f 29 dX9_sheet_4 (by decide) (by decide) ?_
                refine gd_ild2 dX9_sheet_7 ?_
                refine gd_if_eq_f 35 dX9_sheet_8 (by decide) (by decide) ?_
                refine gd_ild2 dX9_sheet_11 ?_
                refine gd_bipush (v := nI 8) dX9_sheet_12 (by decide) ?_
                refine gd_icmp_eq_f 35 dX9_sheet_14 (by decide) (by decide) ?_
                refine gd_ild2 dX9_sheet_17 ?_
                refine gd_bipush (v := nI 16) dX9_sheet_18 (by decide) ?_
                refine gd_icmp_eq_t 35 dX9_sheet_20 (by decide) (by decide) ?_
                refine gd_ild3 dX9_sheet_35 ?_
                refine gd_if_ge_f 46 dX9_sheet_36 (by decide) (Int32.not_le.mpr hn) ?_
                refine gd_ald0 dX9_sheet_39 (by decide) ?_
                refine gd_bipush (v := nI 7) dX9_sheet_40 (by decide) ?_
                refine gd_cV1i dX9_sheet_42 ct_9_97 rc_72 ⟨Nat.le_of_ble_eq_true rfl, Nat.le_of_ble_eq_true rfl⟩ (Nat.le_of_ble_eq_true rfl) (Nat.le_of_ble_eq_true rfl) (m_f6 _) ?_
                refine gd_iret dX9_sheet_45 rfl rfl ?_
                rfl
            · have hn2 : ¬ c ≤ nI 40 := fun z => hc ⟨Int32.not_lt.mp hn, by rw [Int32.le_iff_toInt_le, nI_toInt (by decide)] at z; rw [Int32.lt_iff_toInt_lt, nI_toInt (by decide)]; omega⟩
              refine Pas.find (h1 := h) (h2 := hf (h) 0) (v := -1000000001) (w := (-1000000000 : Int32) - nI 1) 0 i (by decide) (by decide) (by decide) (Same.rf _) (Same.rf _) ?_ ?_
              · refine gd_ild1 dX8_sheet_0 ?_
                refine gd_ic4 dX8_sheet_1 ?_
                refine gd_cS2i dX8_sheet_2 ct_8_48 ⟨Nat.le_of_ble_eq_true rfl, Nat.le_of_ble_eq_true rfl⟩ (Nat.le_of_ble_eq_true rfl) (Nat.le_of_ble_eq_true rfl) (c_isBelow_t hq (by decide) _) ?_
                refine gd_if_eq_f 30 dX8_sheet_5 (by decide) (by decide) ?_
                refine gd_ild2 dX8_sheet_8 ?_
                refine gd_if_eq_f 37 dX8_sheet_9 (by decide) (by decide) ?_
                refine gd_ild2 dX8_sheet_12 ?_
                refine gd_bipush (v := nI 8) dX8_sheet_13 (by decide) ?_
                refine gd_icmp_eq_f 37 dX8_sheet_15 (by decide) (by decide) ?_
                refine gd_ild2 dX8_sheet_18 ?_
                refine gd_bipush (v := nI 16) dX8_sheet_19 (by decide) ?_
                refine gd_icmp_eq_t 37 dX8_sheet_21 (by decide) (by decide) ?_
                refine gd_ild3 dX8_sheet_37 ?_
                refine gd_if_ge_t 48 dX8_sheet_38 (by decide) (Int32.not_lt.mp hn) ?_
                refine gd_ild3 dX8_sheet_48 ?_
                refine gd_bipush (v := nI 40) dX8_sheet_49 (by decide) ?_
                refine gd_icmp_le_f 61 dX8_sheet_51 (by decide) (hn2) ?_
                refine gd_ald0 dX8_sheet_54 (by decide) ?_
                refine gd_ldc dX8_sheet_55 ld_8_52 ?_
                refine gd_cV1i dX8_sheet_57 ct_8_53 rc_0 ⟨Nat.le_of_ble_eq_true rfl, Nat.le_of_ble_eq_true rfl⟩ (Nat.le_of_ble_eq_true rfl) (Nat.le_of_ble_eq_true rfl) (c_f0 _) ?_
                refine gd_iret dX8_sheet_60 rfl rfl ?_
                rfl
              · refine gd_ild1 dX9_sheet_0 ?_
                refine gd_cS1i dX9_sheet_1 ct_9_104 ⟨Nat.le_of_ble_eq_true rfl, Nat.le_of_ble_eq_true rfl⟩ (Nat.le_of_ble_eq_true rfl) (Nat.le_of_ble_eq_true rfl) (m_isSheet_t hq _) ?_
                refine gd_if_eq_f 29 dX9_sheet_4 (by decide) (by decide) ?_
                refine gd_ild2 dX9_sheet_7 ?_
                refine gd_if_eq_f 35 dX9_sheet_8 (by decide) (by decide) ?_
                refine gd_ild2 dX9_sheet_11 ?_
                refine gd_bipush (v := nI 8) dX9_sheet_12 (by decide) ?_
                refine gd_icmp_eq_f 35 dX9_sheet_14 (by decide) (by decide) ?_
                refine gd_ild2 dX9_sheet_17 ?_
                refine gd_bipush (v := nI 16) dX9_sheet_18 (by decide) ?_
                refine gd_icmp_eq_t 35 dX9_sheet_20 (by decide) (by decide) ?_
                refine gd_ild3 dX9_sheet_35 ?_
                refine gd_if_ge_t 46 dX9_sheet_36 (by decide) (Int32.not_lt.mp hn) ?_
                refine gd_ild3 dX9_sheet_46 ?_
                refine gd_bipush (v := nI 40) dX9_sheet_47 (by decide) ?_
                refine gd_icmp_le_f 58 dX9_sheet_49 (by decide) (hn2) ?_
                refine gd_ald0 dX9_sheet_52 (by decide) ?_
                refine gd_ic1 dX9_sheet_53 ?_
                refine gd_cV1i dX9_sheet_54 ct_9_97 rc_72 ⟨Nat.le_of_ble_eq_true rfl, Nat.le_of_ble_eq_true rfl⟩ (Nat.le_of_ble_eq_true rfl) (Nat.le_of_ble_eq_true rfl) (m_f0 _) ?_
                refine gd_iret dX9_sheet_57 rfl rfl ?_
                rfl
        · by_cases b3 : b = nI 64
          · subst b3
            rcases rng c (41) (by decide) with ⟨n, hn, rfl⟩ | hc
            · refine ⟨.int (nI n), sL (sI (sI h 58 (upd (h.1 58) q (nI 64))) 59 (upd (h.1 59) q (nI n))) 57 (filL (h.2 57) (40 * q) (40 * q + 40) (lN 0)), sL (sI (sI (sL (sI (sI h 58 (upd (h.1 58) q (nI 64))) 59 (upd (h.1 59) q (nI n))) 57 (filL (h.2 57) (40 * q) (40 * q + 40) (lN 0))) 90 (upd (h.1 90) q (nI 64))) 91 (upd (h.1 91) q (nI n))) 92 (filL (h.2 92) (40 * q) (40 * q + 40) (lN 0)), ?_, ?_, ?_, rfl, rfl⟩
              · refine gd_ild1 dX8_sheet_0 ?_
                refine gd_ic4 dX8_sheet_1 ?_
                refine gd_cS2i dX8_sheet_2 ct_8_48 ⟨Nat.le_of_ble_eq_true rfl, Nat.le_of_ble_eq_true rfl⟩ (Nat.le_of_ble_eq_true rfl) (Nat.le_of_ble_eq_true rfl) (c_isBelow_t hq (by decide) _) ?_
                refine gd_if_eq_f 30 dX8_sheet_5 (by decide) (by decide) ?_
                refine gd_ild2 dX8_sheet_8 ?_
                refine gd_if_eq_f 37 dX8_sheet_9 (by decide) (by decide) ?_
                refine gd_ild2 dX8_sheet_12 ?_
                refine gd_bipush (v := nI 8) dX8_sheet_13 (by decide) ?_
                refine gd_icmp_eq_f 37 dX8_sheet_15 (by decide) (by decide) ?_
                refine gd_ild2 dX8_sheet_18 ?_
                refine gd_bipush (v := nI 16) dX8_sheet_19 (by decide) ?_
                refine gd_icmp_eq_f 37 dX8_sheet_21 (by decide) (by decide) ?_
                refine gd_ild2 dX8_sheet_24 ?_
                refine gd_bipush (v := nI 64) dX8_sheet_25 (by decide) ?_
                refine gd_icmp_eq_t 37 dX8_sheet_27 (by decide) (by decide) ?_
                refine gd_ild3 dX8_sheet_37 ?_
                refine gd_if_ge_t 48 dX8_sheet_38 (by decide) (by exact nI_pos' (by omega)) ?_
                refine gd_ild3 dX8_sheet_48 ?_
                refine gd_bipush (v := nI 40) dX8_sheet_49 (by decide) ?_
                refine gd_icmp_le_t 61 dX8_sheet_51 (by decide) (by exact nI_le (by omega) (by omega)) ?_
                refine gd_ald0 dX8_sheet_61 (by decide) ?_
                refine gd_getR (r := 56) dX8_sheet_62 fl_8_33 rfl rfl rfl (by decide) ?_
                refine gd_ild1 dX8_sheet_65 ?_
                refine gd_ild2 dX8_sheet_66 ?_
                refine gd_ild3 dX8_sheet_67 ?_
                refine gd_cV3i dX8_sheet_68 ct_8_299 rc_56 ⟨Nat.le_of_ble_eq_true rfl, Nat.le_of_ble_eq_true rfl⟩ (Nat.le_of_ble_eq_true rfl) (Nat.le_of_ble_eq_true rfl) (c_layAnew64 hq _) ?_
                refine gd_iret dX8_sheet_71 rfl rfl ?_
                rfl
              · refine gd_ild1 dX9_sheet_0 ?_
                refine gd_cS1i dX9_sheet_1 ct_9_104 ⟨Nat.le_of_ble_eq_true rfl, Nat.le_of_ble_eq_true rfl⟩ (Nat.le_of_ble_eq_true rfl) (Nat.le_of_ble_eq_true rfl) (m_isSheet_t hq _) ?_
                refine gd_if_eq_f 29 dX9_sheet_4 (by decide) (by decide) ?_
                refine gd_ild2 dX9_sheet_7 ?_
                refine gd_if_eq_f 35 dX9_sheet_8 (by decide) (by decide) ?_
                refine gd_ild2 dX9_sheet_11 ?_
                refine gd_bipush (v := nI 8) dX9_sheet_12 (by decide) ?_
                refine gd_icmp_eq_f 35 dX9_sheet_14 (by decide) (by decide) ?_
                refine gd_ild2 dX9_sheet_17 ?_
                refine gd_bipush (v := nI 16) dX9_sheet_18 (by decide) ?_
                refine gd_icmp_eq_f 35 dX9_sheet_20 (by decide) (by decide) ?_
                refine gd_ild2 dX9_sheet_23 ?_
                refine gd_bipush (v := nI 64) dX9_sheet_24 (by decide) ?_
                refine gd_icmp_eq_t 35 dX9_sheet_26 (by decide) (by decide) ?_
                refine gd_ild3 dX9_sheet_35 ?_
                refine gd_if_ge_t 46 dX9_sheet_36 (by decide) (by exact nI_pos' (by omega)) ?_
                refine gd_ild3 dX9_sheet_46 ?_
                refine gd_bipush (v := nI 40) dX9_sheet_47 (by decide) ?_
                refine gd_icmp_le_t 58 dX9_sheet_49 (by decide) (by exact nI_le (by omega) (by omega)) ?_
                refine gd_ald0 dX9_sheet_58 (by decide) ?_
                refine gd_getR (r := 90) dX9_sheet_59 fl_9_63 rfl rfl rfl (by decide) ?_
                refine gd_ild1 dX9_sheet_62 ?_
                refine gd_ild2 dX9_sheet_63 ?_
                refine gd_iast (n := 4) dX9_sheet_64 rfl (by decide) (by repeat' (first | with_reducible rfl | apply ni_add | apply ni_mul)) (by omega) ?_
                refine gd_ald0 dX9_sheet_65 (by decide) ?_
                refine gd_getR (r := 91) dX9_sheet_66 fl_9_66 rfl rfl rfl (by decide) ?_
                refine gd_ild1 dX9_sheet_69 ?_
                refine gd_ild2 dX9_sheet_70 ?_
                refine gd_if_ne_t 78 dX9_sheet_71 (by decide) (by decide) ?_
                refine gd_ild3 dX9_sheet_78 ?_
                refine gd_iast (n := 4) dX9_sheet_79 rfl (by decide) (by repeat' (first | with_reducible rfl | apply ni_add | apply ni_mul)) (by omega) ?_
                refine gd_ic0 dX9_sheet_80 ?_
                refine gd_ist4 dX9_sheet_81 rfl ?_
                exact lp_sheet hq _ (if_pos rfl)
              · refine inv_rest i (fun k hk => ?_) (Or.inl ⟨rfl, rfl⟩) ⟨i.p.n, i.p.b⟩ ⟨?_, ?_, ?_, ?_, ?_⟩ rfl
                · show (sI (sI (sI (sI h 58 _) 59 _) 90 _) 91 _).1 k = h.1 k
                  rw [sI_n (by omega), sI_n (by omega), sI_n (by omega), sI_n (by omega)]
                · intro j hj
                  show upd (h.1 58) q (nI 64) j = upd (h.1 90) q (nI 64) j
                  rw [upd_at, upd_at, i.s.w j hj]
                · intro j hj
                  show upd (h.1 59) q (nI n) j = upd (h.1 91) q (nI n) j
                  rw [upd_at, upd_at, i.s.z j hj]
                · intro j hj
                  show upd (h.1 91) q (nI n) j = nI (tn (upd (h.1 91) q (nI n) j)) ∧ tn (upd (h.1 91) q (nI n) j) ≤ 40
                  rw [upd_at]
                  split
                  · rw [tn_nI (by omega)]; exact ⟨rfl, by omega⟩
                  · exact i.s.n j hj
                · intro j hj
                  show upd (h.1 90) q (nI 64) j = nI 0 ∨ upd (h.1 90) q (nI 64) j = nI 8 ∨ upd (h.1 90) q (nI 64) j = nI 16 ∨ upd (h.1 90) q (nI 64) j = nI 64
                  rw [upd_at]
                  split
                  · simp
                  · exact i.s.v j hj
                · intro j hj
                  show filL (h.2 57) _ _ _ j = filL (h.2 92) _ _ _ j
                  unfold filL
                  rw [i.s.x j hj]
            · by_cases hn : c < 0
              · refine Pas.find (h1 := h) (h2 := hf (h) 6) (v := -1000000007) (w := (-1000000000 : Int32) - nI 7) 6 i (by decide) (by decide) (by decide) (Same.rf _) (Same.rf _) ?_ ?_
                · refine gd_ild1 dX8_sheet_0 ?_
                  refine gd_ic4 dX8_sheet_1 ?_
                  refine gd_cS2i dX8_sheet_2 ct_8_48 ⟨Nat.le_of_ble_eq_true rfl, Nat.le_of_ble_eq_true rfl⟩ (Nat.le_of_ble_eq_true rfl) (Nat.le_of_ble_eq_true rfl) (c_isBelow_t hq (by decide) _) ?_
                  refine gd_if_eq_f 30 dX8_sheet_5 (by decide) (by decide) ?_
                  refine gd_ild2 dX8_sheet_8 ?_
                  refine gd_if_eq_f 37 dX8_sheet_9 (by decide) (by decide) ?_
                  refine gd_ild2 dX8_sheet_12 ?_
                  refine gd_bipush (v := nI 8) dX8_sheet_13 (by decide) ?_
                  refine gd_icmp_eq_f 37 dX8_sheet_15 (by decide) (by decide) ?_
                  refine gd_ild2 dX8_sheet_18 ?_
                  refine gd_bipush (v := nI 16) dX8_sheet_19 (by decide) ?_
                  refine gd_icmp_eq_f 37 dX8_sheet_21 (by decide) (by decide) ?_
                  refine gd_ild2 dX8_sheet_24 ?_
                  refine gd_bipush (v := nI 64) dX8_sheet_25 (by decide) ?_
                  refine gd_icmp_eq_t 37 dX8_sheet_27 (by decide) (by decide) ?_
                  refine gd_ild3 dX8_sheet_37 ?_
                  refine gd_if_ge_f 48 dX8_sheet_38 (by decide) (Int32.not_le.mpr hn) ?_
                  refine gd_ald0 dX8_sheet_41 (by decide) ?_
                  refine gd_ldc dX8_sheet_42 ld_8_89 ?_
                  refine gd_cV1i dX8_sheet_44 ct_8_53 rc_0 ⟨Nat.le_of_ble_eq_true rfl, Nat.le_of_ble_eq_true rfl⟩ (Nat.le_of_ble_eq_true rfl) (Nat.le_of_ble_eq_true rfl) (c_f6 _) ?_
                  refine gd_iret dX8_sheet_47 rfl rfl ?_
                  rfl
                · refine gd_ild1 dX9_sheet_0 ?_
                  refine gd_cS1i dX9_sheet_1 ct_9_104 ⟨Nat.le_of_ble_eq_true rfl, Nat.le_of_ble_eq_true rfl⟩ (Nat.le_of_ble_eq_true rfl) (Nat.le_of_ble_eq_true rfl) (m_isSheet_t hq _) ?_
                  refine gd_if_eq_f 29 dX9_sheet_4 (by decide) (by decide) ?_
                  refine gd_ild2 dX9_sheet_7 ?_
                  refine gd_if_eq_f 35 dX9_sheet_8 (by decide) (by decide) ?_
                  refine gd_ild2 dX9_sheet_11 ?_
                  refine gd_bipush (v := nI 8) dX9_sheet_12 (by decide) ?_
                  refine gd_icmp_eq_f 35 dX9_sheet_14 (by decide) (by decide) ?_
                  refine gd_ild2 dX9_sheet_17 ?_
                  refine gd_bipush (v := nI 16) dX9_sheet_18 (by decide) ?_
                  refine gd_icmp_eq_f 35 dX9_sheet_20 (by decide) (by decide) ?_
                  refine gd_ild2 dX9_sheet_23 ?_
                  refine gd_bipush (v := nI 64) dX9_sheet_24 (by decide) ?_
                  refine gd_icmp_eq_t 35 dX9_sheet_26 (by decide) (by decide) ?_
                  refine gd_ild3 dX9_sheet_35 ?_
                  refine gd_if_ge_f 46 dX9_sheet_36 (by decide) (Int32.not_le.mpr hn) ?_
                  refine gd_ald0 dX9_sheet_39 (by decide) ?_
                  refine gd_bipush (v := nI 7) dX9_sheet_40 (by decide) ?_
                  refine gd_cV1i dX9_sheet_42 ct_9_97 rc_72 ⟨Nat.le_of_ble_eq_true rfl, Nat.le_of_ble_eq_true rfl⟩ (Nat.le_of_ble_eq_true rfl) (Nat.le_of_ble_eq_true rfl) (m_f6 _) ?_
                  refine gd_iret dX9_sheet_45 rfl rfl ?_
                  rfl
              · have hn2 : ¬ c ≤ nI 40 := fun z => hc ⟨Int32.not_lt.mp hn, by rw [Int32.le_iff_toInt_le, nI_toInt (by decide)] at z; rw [Int32.lt_iff_toInt_lt, nI_toInt (by decide)]; omega⟩
                refine Pas.find (h1 := h) (h2 := hf (h) 0) (v := -1000000001) (w := (-1000000000 : Int32) - nI 1) 0 i (by decide) (by decide) (by decide) (Same.rf _) (Same.rf _) ?_ ?_
                · refine gd_ild1 dX8_sheet_0 ?_
                  refine gd_ic4 dX8_sheet_1 ?_
                  refine gd_cS2i dX8_sheet_2 ct_8_48 ⟨Nat.le_of_ble_eq_true rfl, Nat.le_of_ble_eq_true rfl⟩ (Nat.le_of_ble_eq_true rfl) (Nat.le_of_ble_eq_true rfl) (c_isBelow_t hq (by decide) _) ?_
                  refine gd_if_eq_f 30 dX8_sheet_5 (by decide) (by decide) ?_
                  refine gd_ild2 dX8_sheet_8 ?_
                  refine gd_if_eq_f 37 dX8_sheet_9 (by decide) (by decide) ?_
                  refine gd_ild2 dX8_sheet_12 ?_
                  refine gd_bipush (v := nI 8) dX8_sheet_13 (by decide) ?_
                  refine gd_icmp_eq_f 37 dX8_sheet_15 (by decide) (by decide) ?_
                  refine gd_ild2 dX8_sheet_18 ?_
                  refine gd_bipush (v := nI 16) dX8_sheet_19 (by decide) ?_
                  refine gd_icmp_eq_f 37 dX8_sheet_21 (by decide) (by decide) ?_
                  refine gd_ild2 dX8_sheet_24 ?_
                  refine gd_bipush (v := nI 64) dX8_sheet_25 (by decide) ?_
                  refine gd_icmp_eq_t 37 dX8_sheet_27 (by decide) (by decide) ?_
                  refine gd_ild3 dX8_sheet_37 ?_
                  refine gd_if_ge_t 48 dX8_sheet_38 (by decide) (Int32.not_lt.mp hn) ?_
                  refine gd_ild3 dX8_sheet_48 ?_
                  refine gd_bipush (v := nI 40) dX8_sheet_49 (by decide) ?_
                  refine gd_icmp_le_f 61 dX8_sheet_51 (by decide) (hn2) ?_
                  refine gd_ald0 dX8_sheet_54 (by decide) ?_
                  refine gd_ldc dX8_sheet_55 ld_8_52 ?_
                  refine gd_cV1i dX8_sheet_57 ct_8_53 rc_0 ⟨Nat.le_of_ble_eq_true rfl, Nat.le_of_ble_eq_true rfl⟩ (Nat.le_of_ble_eq_true rfl) (Nat.le_of_ble_eq_true rfl) (c_f0 _) ?_
                  refine gd_iret dX8_sheet_60 rfl rfl ?_
                  rfl
                · refine gd_ild1 dX9_sheet_0 ?_
                  refine gd_cS1i dX9_sheet_1 ct_9_104 ⟨Nat.le_of_ble_eq_true rfl, Nat.le_of_ble_eq_true rfl⟩ (Nat.le_of_ble_eq_true rfl) (Nat.le_of_ble_eq_true rfl) (m_isSheet_t hq _) ?_
                  refine gd_if_eq_f 29 dX9_sheet_4 (by decide) (by decide) ?_
                  refine gd_ild2 dX9_sheet_7 ?_
                  refine gd_if_eq_f 35 dX9_sheet_8 (by decide) (by decide) ?_
                  refine gd_ild2 dX9_sheet_11 ?_
                  refine gd_bipush (v := nI 8) dX9_sheet_12 (by decide) ?_
                  refine gd_icmp_eq_f 35 dX9_sheet_14 (by decide) (by decide) ?_
                  refine gd_ild2 dX9_sheet_17 ?_
                  refine gd_bipush (v := nI 16) dX9_sheet_18 (by decide) ?_
                  refine gd_icmp_eq_f 35 dX9_sheet_20 (by decide) (by decide) ?_
                  refine gd_ild2 dX9_sheet_23 ?_
                  refine gd_bipush (v := nI 64) dX9_sheet_24 (by decide) ?_
                  refine gd_icmp_eq_t 35 dX9_sheet_26 (by decide) (by decide) ?_
                  refine gd_ild3 dX9_sheet_35 ?_
                  refine gd_if_ge_t 46 dX9_sheet_36 (by decide) (Int32.not_lt.mp hn) ?_
                  refine gd_ild3 dX9_sheet_46 ?_
                  refine gd_bipush (v := nI 40) dX9_sheet_47 (by decide) ?_
                  refine gd_icmp_le_f 58 dX9_sheet_49 (by decide) (hn2) ?_
                  refine gd_ald0 dX9_sheet_52 (by decide) ?_
                  refine gd_ic1 dX9_sheet_53 ?_
                  refine gd_cV1i dX9_sheet_54 ct_9_97 rc_72 ⟨Nat.le_of_ble_eq_true rfl, Nat.le_of_ble_eq_true rfl⟩ (Nat.le_of_ble_eq_true rfl) (Nat.le_of_ble_eq_true rfl) (m_f0 _) ?_
                  refine gd_iret dX9_sheet_57 rfl rfl ?_
                  rfl
          · refine Pas.find (h1 := h) (h2 := hf (h) 0) (v := -1000000001) (w := (-1000000000 : Int32) - nI 1) 0 i (by decide) (by decide) (by decide) (Same.rf _) (Same.rf _) ?_ ?_
            · refine gd_ild1 dX8_sheet_0 ?_
              refine gd_ic4 dX8_sheet_1 ?_
              refine gd_cS2i dX8_sheet_2 ct_8_48 ⟨Nat.le_of_ble_eq_true rfl, Nat.le_of_ble_eq_true rfl⟩ (Nat.le_of_ble_eq_true rfl) (Nat.le_of_ble_eq_true rfl) (c_isBelow_t hq (by decide) _) ?_
              refine gd_if_eq_f 30 dX8_sheet_5 (by decide) (by decide) ?_
              refine gd_ild2 dX8_sheet_8 ?_
              refine gd_if_eq_f 37 dX8_sheet_9 (by decide) (b0) ?_
              refine gd_ild2 dX8_sheet_12 ?_
              refine gd_bipush (v := nI 8) dX8_sheet_13 (by decide) ?_
              refine gd_icmp_eq_f 37 dX8_sheet_15 (by decide) (b1) ?_
              refine gd_ild2 dX8_sheet_18 ?_
              refine gd_bipush (v := nI 16) dX8_sheet_19 (by decide) ?_
              refine gd_icmp_eq_f 37 dX8_sheet_21 (by decide) (b2) ?_
              refine gd_ild2 dX8_sheet_24 ?_
              refine gd_bipush (v := nI 64) dX8_sheet_25 (by decide) ?_
              refine gd_icmp_eq_f 37 dX8_sheet_27 (by decide) (b3) ?_
              refine gd_ald0 dX8_sheet_30 (by decide) ?_
              refine gd_ldc dX8_sheet_31 ld_8_52 ?_
              refine gd_cV1i dX8_sheet_33 ct_8_53 rc_0 ⟨Nat.le_of_ble_eq_true rfl, Nat.le_of_ble_eq_true rfl⟩ (Nat.le_of_ble_eq_true rfl) (Nat.le_of_ble_eq_true rfl) (c_f0 _) ?_
              refine gd_iret dX8_sheet_36 rfl rfl ?_
              rfl
            · refine gd_ild1 dX9_sheet_0 ?_
              refine gd_cS1i dX9_sheet_1 ct_9_104 ⟨Nat.le_of_ble_eq_true rfl, Nat.le_of_ble_eq_true rfl⟩ (Nat.le_of_ble_eq_true rfl) (Nat.le_of_ble_eq_true rfl) (m_isSheet_t hq _) ?_
              refine gd_if_eq_f 29 dX9_sheet_4 (by decide) (by decide) ?_
              refine gd_ild2 dX9_sheet_7 ?_
              refine gd_if_eq_f 35 dX9_sheet_8 (by decide) (b0) ?_
              refine gd_ild2 dX9_sheet_11 ?_
              refine gd_bipush (v := nI 8) dX9_sheet_12 (by decide) ?_
              refine gd_icmp_eq_f 35 dX9_sheet_14 (by decide) (b1) ?_
              refine gd_ild2 dX9_sheet_17 ?_
              refine gd_bipush (v := nI 16) dX9_sheet_18 (by decide) ?_
              refine gd_icmp_eq_f 35 dX9_sheet_20 (by decide) (b2) ?_
              refine gd_ild2 dX9_sheet_23 ?_
              refine gd_bipush (v := nI 64) dX9_sheet_24 (by decide) ?_
              refine gd_icmp_eq_f 35 dX9_sheet_26 (by decide) (b3) ?_
              refine gd_ald0 dX9_sheet_29 (by decide) ?_
              refine gd_ic1 dX9_sheet_30 ?_
              refine gd_cV1i dX9_sheet_31 ct_9_97 rc_72 ⟨Nat.le_of_ble_eq_true rfl, Nat.le_of_ble_eq_true rfl⟩ (Nat.le_of_ble_eq_true rfl) (Nat.le_of_ble_eq_true rfl) (m_f0 _) ?_
              refine gd_iret dX9_sheet_34 rfl rfl ?_
              rfl
  · refine Pas.find (h1 := h) (h2 := hf (h) 0) (v := -1000000001) (w := (-1000000000 : Int32) - nI 1) 0 i (by decide) (by decide) (by decide) (Same.rf _) (Same.rf _) ?_ ?_
    · refine gd_ild1 dX8_sheet_0 ?_
      refine gd_ic4 dX8_sheet_1 ?_
      refine gd_cS2i dX8_sheet_2 ct_8_48 ⟨Nat.le_of_ble_eq_true rfl, Nat.le_of_ble_eq_true rfl⟩ (Nat.le_of_ble_eq_true rfl) (Nat.le_of_ble_eq_true rfl) (c_isBelow_f ha _) ?_
      refine gd_if_eq_t 30 dX8_sheet_5 (by decide) (by decide) ?_
      refine gd_ald0 dX8_sheet_30 (by decide) ?_
      refine gd_ldc dX8_sheet_31 ld_8_52 ?_
      refine gd_cV1i dX8_sheet_33 ct_8_53 rc_0 ⟨Nat.le_of_ble_eq_true rfl, Nat.le_of_ble_eq_true rfl⟩ (Nat.le_of_ble_eq_true rfl) (Nat.le_of_ble_eq_true rfl) (c_f0 _) ?_
      refine gd_iret dX8_sheet_36 rfl rfl ?_
      rfl
    · refine gd_ild1 dX9_sheet_0 ?_
      refine gd_cS1i dX9_sheet_1 ct_9_104 ⟨Nat.le_of_ble_eq_true rfl, Nat.le_of_ble_eq_true rfl⟩ (Nat.le_of_ble_eq_true rfl) (Nat.le_of_ble_eq_true rfl) (m_isSheet_f ha _) ?_
      refine gd_if_eq_t 29 dX9_sheet_4 (by decide) (by decide) ?_
      refine gd_ald0 dX9_sheet_29 (by decide) ?_
      refine gd_ic1 dX9_sheet_30 ?_
      refine gd_cV1i dX9_sheet_31 ct_9_97 rc_72 ⟨Nat.le_of_ble_eq_true rfl, Nat.le_of_ble_eq_true rfl⟩ (Nat.le_of_ble_eq_true rfl) (Nat.le_of_ble_eq_true rfl) (m_f0 _) ?_
      refine gd_iret dX9_sheet_34 rfl rfl ?_
      rfl
