
def tls (s : Nat → Nat → Int32) (f : Nat → Bool) (t l : Nat) : Bool := f l && decide (s 4 (9 * l + 1) = nI t)
theorem every {n : Nat} (hn : n ≤ 30) : (nI 1 <<< (nI n &&& 31)) - nI 1 = nI (2 ^ n - 1) := by
  rw [shl_nI (by omega), pk_sub (Nat.one_le_two_pow)]
theorem every_bit {n l : Nat} (hl : l < n) : (2 ^ n - 1).testBit l = true := by rw [Nat.testBit_two_pow_sub_one]; simp [hl]
theorem nI_c1 (p : Nat → Bool) (j : Nat) (h : p j = true) : nI (cntN p j) + nI 1 = nI (cntN p (j + 1)) := by
  rw [nI_add]; show _ = nI (cntN p j + _); rw [h]; rfl
theorem cnt_no {p : Nat → Bool} {j : Nat} (h : p j = false) : cntN p (j + 1) = cntN p j := by show cntN p j + _ = _; rw [h]; rfl
theorem c_countOf {h : Hp} {s : Nat → Nat → Int32} (w : WF s) (c : CR h 1 s) {t S : Nat} (ht : t < 16) (hS : S < 2 ^ 31) : Gd mX1_countOf 0 [.ref 6, .int (nI t), .int (nI S), .null, .null] [] h (some (.int (nI (cntN (tls s S.testBit t) (nN s)))), h) := by
  have lN := w.n.2
  have key := loopG (P := fun l => Gd mX1_countOf 5 [.ref 6, .int (nI t), .int (nI S), .int (nI (cntN (tls s S.testBit t) l)), .int (nI l)] [] h (some (.int (nI (cntN (tls s S.testBit t) (nN s)))), h)) (n := nN s) ?_ ?_ 0 (by omega)
  · refine gd_ic0 dX1_countOf_0 ?_
    refine gd_ist3 dX1_countOf_1 rfl ?_
    refine gd_ic0 dX1_countOf_2 ?_
    refine gd_ist4 dX1_countOf_3 rfl ?_
    exact key
  · refine gd_ild4 dX1_countOf_5 ?_
    refine gd_ald0 dX1_countOf_7 (by decide) ?_
    refine gd_getI dX1_countOf_8 fl_1_40 rfl rfl ?_
    refine gd_icmp_ge_t 44 dX1_countOf_11 (by decide) (by rw [c.n1, w.n.1]; exact nI_le (by omega) (by omega)) ?_
    refine gd_ild3 dX1_countOf_44 ?_
    refine gd_iret dX1_countOf_45 rfl rfl ?_
    rfl
  · intro l hl ih
    cases hb : S.testBit l with
    | false =>
      have hp : tls s S.testBit t l = false := by unfold tls; rw [hb]; rfl
      refine gd_ild4 dX1_countOf_5 ?_
      refine gd_ald0 dX1_countOf_7 (by decide) ?_
      refine gd_getI dX1_countOf_8 fl_1_40 rfl rfl ?_
      refine gd_icmp_ge_f 44 dX1_countOf_11 (by decide) (by rw [c.n1, w.n.1]; exact nI_ge (by omega) (by omega)) ?_
      refine gd_ild2 dX1_countOf_14 ?_
      refine gd_ild4 dX1_countOf_15 ?_
      refine gd_ishr dX1_countOf_17 ?_
      refine gd_ic1 dX1_countOf_18 ?_
      refine gd_iand dX1_countOf_19 ?_
      rw [bit_nI hS (by omega)]
      refine gd_ic1 dX1_countOf_20 ?_
      refine gd_icmp_ne_t 38 dX1_countOf_21 (by decide) (by rw [hb]; decide) ?_
      refine gd_iinc4 (b := nI 1) dX1_countOf_38 (by decide) rfl ?_
      rw [nI_add]
      refine gd_goto 5 dX1_countOf_41 (by decide) ?_
      rw [cnt_no hp] at ih
      exact ih
    | true =>
      by_cases e : s 4 (9 * l + 1) = nI t
      · have hp : tls s S.testBit t l = true := by unfold tls; rw [hb, decide_eq_true e]; rfl
        refine gd_ild4 dX1_countOf_5 ?_
        refine gd_ald0 dX1_countOf_7 (by decide) ?_
        refine gd_getI dX1_countOf_8 fl_1_40 rfl rfl ?_
        refine gd_icmp_ge_f 44 dX1_countOf_11 (by decide) (by rw [c.n1, w.n.1]; exact nI_ge (by omega) (by omega)) ?_
        refine gd_ild2 dX1_countOf_14 ?_
        refine gd_ild4 dX1_countOf_15 ?_
        refine gd_ishr dX1_countOf_17 ?_
        refine gd_ic1 dX1_countOf_18 ?_
        refine gd_iand dX1_countOf_19 ?_
        rw [bit_nI hS (by omega)]
        refine gd_ic1 dX1_countOf_20 ?_
        refine gd_icmp_ne_f 38 dX1_countOf_21 (by decide) (by rw [hb]; decide) ?_
        refine gd_ald0 dX1_countOf_24 (by decide) ?_
        refine gd_getR (r := 8) dX1_countOf_25 fl_1_15 rfl rfl rfl (by decide) ?_
        refine gd_ild4 dX1_countOf_28 ?_
        refine gd_iald (n := 30) dX1_countOf_30 rfl (by decide) (by repeat' (first | with_reducible rfl | apply ni_add | apply ni_mul)) (by omega) ?_
        rw [c.lt1 l hl]
        refine gd_ild1 dX1_countOf_31 ?_
        refine gd_icmp_ne_f 38 dX1_countOf_32 (by decide) (e) ?_
        refine gd_iinc3 (b := nI 1) dX1_countOf_35 (by decide) rfl ?_
        rw [nI_c1 _ _ hp]
        refine gd_iinc4 (b := nI 1) dX1_countOf_38 (by decide) rfl ?_
        rw [nI_add]
        refine gd_goto 5 dX1_countOf_41 (by decide) ?_
        exact ih
      · have hp : tls s S.testBit t l = false := by unfold tls; rw [hb, decide_eq_false e]; rfl
        refine gd_ild4 dX1_countOf_5 ?_
        refine gd_ald0 dX1_countOf_7 (by decide) ?_
        refine gd_getI dX1_countOf_8 fl_1_40 rfl rfl ?_
        refine gd_icmp_ge_f 44 dX1_countOf_11 (by decide) (by rw [c.n1, w.n.1]; exact nI_ge (by omega) (by omega)) ?_
        refine gd_ild2 dX1_countOf_14 ?_
        refine gd_ild4 dX1_countOf_15 ?_
        refine gd_ishr dX1_countOf_17 ?_
        refine gd_ic1 dX1_countOf_18 ?_
        refine gd_iand dX1_countOf_19 ?_
        rw [bit_nI hS (by omega)]
        refine gd_ic1 dX1_countOf_20 ?_
        refine gd_icmp_ne_f 38 dX1_countOf_21 (by decide) (by rw [hb]; decide) ?_
        refine gd_ald0 dX1_countOf_24 (by decide) ?_
        refine gd_getR (r := 8) dX1_countOf_25 fl_1_15 rfl rfl rfl (by decide) ?_
        refine gd_ild4 dX1_countOf_28 ?_
        refine gd_iald (n := 30) dX1_countOf_30 rfl (by decide) (by repeat' (first | with_reducible rfl | apply ni_add | apply ni_mul)) (by omega) ?_
        rw [c.lt1 l hl]
        refine gd_ild1 dX1_countOf_31 ?_
        refine gd_icmp_ne_t 38 dX1_countOf_32 (by decide) (e) ?_
        refine gd_iinc4 (b := nI 1) dX1_countOf_38 (by decide) rfl ?_
        rw [nI_add]
        refine gd_goto 5 dX1_countOf_41 (by decide) ?_
        rw [cnt_no hp] at ih
        exact ih
theorem c_everyOne {h : Hp} {s : Nat → Nat → Int32} (w : WF s) (c : CR h 1 s) : Gd mX1_everyOne 0 [.ref 6] [] h (some (.int (nI (2 ^ nN s - 1))), h) := by
  refine gd_ic1 dX1_everyOne_0 ?_
  refine gd_ald0 dX1_everyOne_1 (by decide) ?_
  refine gd_getI dX1_everyOne_2 fl_1_40 rfl rfl ?_
  rw [c.n1, w.n.1]
  refine gd_ishl dX1_everyOne_5 ?_
  refine gd_ic1 dX1_everyOne_6 ?_
  refine gd_isub dX1_everyOne_7 ?_
  refine gd_iret dX1_everyOne_8 rfl rfl ?_
  rw [every w.n.2]
theorem c_allHouses0 {h : Hp} {t : Nat} (ht : t < 16) : Gd mX0_allHouses 0 [.ref 2, .int (nI t), .int (nI 0), .null, .null] [] h (some (.int (nI 0 + h.1 5 (6 * t + 0) + h.1 5 (6 * t + 1) + h.1 5 (6 * t + 2))), h) := by
  refine gd_ic0 dX0_allHouses_0 ?_
  refine gd_ist3 dX0_allHouses_1 rfl ?_
  refine gd_ic0 dX0_allHouses_2 ?_
  refine gd_ist4 dX0_allHouses_3 rfl ?_
  refine gd_ild4 dX0_allHouses_5 ?_
  refine gd_ic3 dX0_allHouses_7 ?_
  refine gd_icmp_ge_f 35 dX0_allHouses_8 (by decide) (by decide) ?_
  refine gd_ild3 dX0_allHouses_11 ?_
  refine gd_ald0 dX0_allHouses_12 (by decide) ?_
  refine gd_getR (r := 5) dX0_allHouses_13 fl_0_18 rfl rfl rfl (by decide) ?_
  refine gd_ild1 dX0_allHouses_16 ?_
  refine gd_ic2 dX0_allHouses_17 ?_
  refine gd_imul dX0_allHouses_18 ?_
  refine gd_ic3 dX0_allHouses_19 ?_
  refine gd_imul dX0_allHouses_20 ?_
  refine gd_ild2 dX0_allHouses_21 ?_
  refine gd_iadd dX0_allHouses_22 ?_
  refine gd_ild4 dX0_allHouses_23 ?_
  refine gd_iadd dX0_allHouses_25 ?_
  refine gd_iald (n := 96) dX0_allHouses_26 rfl (by decide) (by repeat' (first | with_reducible rfl | apply ni_add | apply ni_mul)) (by omega) ?_
  refine gd_iadd dX0_allHouses_27 ?_
  refine gd_ist3 dX0_allHouses_28 rfl ?_
  refine gd_iinc4 (b := nI 1) dX0_allHouses_29 (by decide) rfl ?_
  refine gd_goto 5 dX0_allHouses_32 (by decide) ?_
  refine gd_ild4 dX0_allHouses_5 ?_
  refine gd_ic3 dX0_allHouses_7 ?_
  refine gd_icmp_ge_f 35 dX0_allHouses_8 (by decide) (by decide) ?_
  refine gd_ild3 dX0_allHouses_11 ?_
  refine gd_ald0 dX0_allHouses_12 (by decide) ?_
  refine gd_getR (r := 5) dX0_allHouses_13 fl_0_18 rfl rfl rfl (by decide) ?_
  refine gd_ild1 dX0_allHouses_16 ?_
  refine gd_ic2 dX0_allHouses_17 ?_
  refine gd_imul dX0_allHouses_18 ?_
  refine gd_ic3 dX0_allHouses_19 ?_
  refine gd_imul dX0_allHouses_20 ?_
  refine gd_ild2 dX0_allHouses_21 ?_
  refine gd_iadd dX0_allHouses_22 ?_
  refine gd_ild4 dX0_allHouses_23 ?_
  refine gd_iadd dX0_allHouses_25 ?_
  refine gd_iald (n := 96) dX0_allHouses_26 rfl (by decide) (by repeat' (first | with_reducible rfl | apply ni_add | apply ni_mul)) (by omega) ?_
  refine gd_iadd dX0_allHouses_27 ?_
  refine gd_ist3 dX0_allHouses_28 rfl ?_
  refine gd_iinc4 (b := nI 1) dX0_allHouses_29 (by decide) rfl ?_
  refine gd_goto 5 dX0_allHouses_32 (by decide) ?_
  refine gd_ild4 dX0_allHouses_5 ?_
  refine gd_ic3 dX0_allHouses_7 ?_
  refine gd_icmp_ge_f 35 dX0_allHouses_8 (by decide) (by decide) ?_
  refine gd_ild3 dX0_allHouses_11 ?_
  refine gd_ald0 dX0_allHouses_12 (by decide) ?_
  refine gd_getR (r := 5) dX0_allHouses_13 fl_0_18 rfl rfl rfl (by decide) ?_
  refine gd_ild1 dX0_allHouses_16 ?_
  refine gd_ic2 dX0_allHouses_17 ?_
  refine gd_imul dX0_allHouses_18 ?_
  refine gd_ic3 dX0_allHouses_19 ?_
  refine gd_imul dX0_allHouses_20 ?_
  refine gd_ild2 dX0_allHouses_21 ?_
  refine gd_iadd dX0_allHouses_22 ?_
  refine gd_ild4 dX0_allHouses_23 ?_
  refine gd_iadd dX0_allHouses_25 ?_
  refine gd_iald (n := 96) dX0_allHouses_26 rfl (by decide) (by repeat' (first | with_reducible rfl | apply ni_add | apply ni_mul)) (by omega) ?_
  refine gd_iadd dX0_allHouses_27 ?_
  refine gd_ist3 dX0_allHouses_28 rfl ?_
  refine gd_iinc4 (b := nI 1) dX0_allHouses_29 (by decide) rfl ?_
  refine gd_goto 5 dX0_allHouses_32 (by decide) ?_
  refine gd_ild4 dX0_allHouses_5 ?_
  refine gd_ic3 dX0_allHouses_7 ?_
  refine gd_icmp_ge_t 35 dX0_allHouses_8 (by decide) (by decide) ?_
  refine gd_ild3 dX0_allHouses_35 ?_
  refine gd_iret dX0_allHouses_36 rfl rfl ?_
  rw [show t * 2 * 3 = 6 * t by omega] <;> rfl
theorem c_allHouses3 {h : Hp} {t : Nat} (ht : t < 16) : Gd mX0_allHouses 0 [.ref 2, .int (nI t), .int (nI 3), .null, .null] [] h (some (.int (nI 0 + h.1 5 (6 * t + 3) + h.1 5 (6 * t + 4) + h.1 5 (6 * t + 5))), h) := by
  refine gd_ic0 dX0_allHouses_0 ?_
  refine gd_ist3 dX0_allHouses_1 rfl ?_
  refine gd_ic0 dX0_allHouses_2 ?_
  refine gd_ist4 dX0_allHouses_3 rfl ?_
  refine gd_ild4 dX0_allHouses_5 ?_
  refine gd_ic3 dX0_allHouses_7 ?_
  refine gd_icmp_ge_f 35 dX0_allHouses_8 (by decide) (by decide) ?_
  refine gd_ild3 dX0_allHouses_11 ?_
  refine gd_ald0 dX0_allHouses_12 (by decide) ?_
  refine gd_getR (r := 5) dX0_allHouses_13 fl_0_18 rfl rfl rfl (by decide) ?_
  refine gd_ild1 dX0_allHouses_16 ?_
  refine gd_ic2 dX0_allHouses_17 ?_
  refine gd_imul dX0_allHouses_18 ?_
  refine gd_ic3 dX0_allHouses_19 ?_
  refine gd_imul dX0_allHouses_20 ?_
  refine gd_ild2 dX0_allHouses_21 ?_
  refine gd_iadd dX0_allHouses_22 ?_
  refine gd_ild4 dX0_allHouses_23 ?_
  refine gd_iadd dX0_allHouses_25 ?_
  refine gd_iald (n := 96) dX0_allHouses_26 rfl (by decide) (by repeat' (first | with_reducible rfl | apply ni_add | apply ni_mul)) (by omega) ?_
  refine gd_iadd dX0_allHouses_27 ?_
  refine gd_ist3 dX0_allHouses_28 rfl ?_
  refine gd_iinc4 (b := nI 1) dX0_allHouses_29 (by decide) rfl ?_
  refine gd_goto 5 dX0_allHouses_32 (by decide) ?_
  refine gd_ild4 dX0_allHouses_5 ?_
  refine gd_ic3 dX0_allHouses_7 ?_
  refine gd_icmp_ge_f 35 dX0_allHouses_8 (by decide) (by decide) ?_
  refine gd_ild3 dX0_allHouses_11 ?_
  refine gd_ald0 dX0_allHouses_12 (by decide) ?_
  refine gd_getR (r := 5) dX0_allHouses_13 fl_0_18 rfl rfl rfl (by decide) ?_
  refine gd_ild1 dX0_allHouses_16 ?_
  refine gd_ic2 dX0_allHouses_17 ?_
  refine gd_imul dX0_allHouses_18 ?_
  refine gd_ic3 dX0_allHouses_19 ?_
  refine gd_imul dX0_allHouses_20 ?_
  refine gd_ild2 dX0_allHouses_21 ?_
  refine gd_iadd dX0_allHouses_22 ?_
  refine gd_ild4 dX0_allHouses_23 ?_
  refine gd_iadd dX0_allHouses_25 ?_
  refine gd_iald (n := 96) dX0_allHouses_26 rfl (by decide) (by repeat' (first | with_reducible rfl | apply ni_add | apply ni_mul)) (by omega) ?_
  refine gd_iadd dX0_allHouses_27 ?_
  refine gd_ist3 dX0_allHouses_28 rfl ?_
  refine gd_iinc4 (b := nI 1) dX0_allHouses_29 (by decide) rfl ?_
  refine gd_goto 5 dX0_allHouses_32 (by decide) ?_
  refine gd_ild4 dX0_allHouses_5 ?_
  refine gd_ic3 dX0_allHouses_7 ?_
  refine gd_icmp_ge_f 35 dX0_allHouses_8 (by decide) (by decide) ?_
  refine gd_ild3 dX0_allHouses_11 ?_
  refine gd_ald0 dX0_allHouses_12 (by decide) ?_
  refine gd_getR (r := 5) dX0_allHouses_13 fl_0_18 rfl rfl rfl (by decide) ?_
  refine gd_ild1 dX0_allHouses_16 ?_
  refine gd_ic2 dX0_allHouses_17 ?_
  refine gd_imul dX0_allHouses_18 ?_
  refine gd_ic3 dX0_allHouses_19 ?_
  refine gd_imul dX0_allHouses_20 ?_
  refine gd_ild2 dX0_allHouses_21 ?_
  refine gd_iadd dX0_allHouses_22 ?_
  refine gd_ild4 dX0_allHouses_23 ?_
  refine gd_iadd dX0_allHouses_25 ?_
  refine gd_iald (n := 96) dX0_allHouses_26 rfl (by decide) (by repeat' (first | with_reducible rfl | apply ni_add | apply ni_mul)) (by omega) ?_
  refine gd_iadd dX0_allHouses_27 ?_
  refine gd_ist3 dX0_allHouses_28 rfl ?_
  refine gd_iinc4 (b := nI 1) dX0_allHouses_29 (by decide) rfl ?_
  refine gd_goto 5 dX0_allHouses_32 (by decide) ?_
  refine gd_ild4 dX0_allHouses_5 ?_
  refine gd_ic3 dX0_allHouses_7 ?_
  refine gd_icmp_ge_t 35 dX0_allHouses_8 (by decide) (by decide) ?_
  refine gd_ild3 dX0_allHouses_35 ?_
  refine gd_iret dX0_allHouses_36 rfl rfl ?_
  rw [show t * 2 * 3 = 6 * t by omega] <;> rfl
theorem lp_of1 {h : Hp} (w : WF (ms h)) {t : Nat} : Gd mX9_of 44 [.ref 72, .int (nI t), .int (nI 1), .int (nI (cntN (tls (ms h) (fun _ => true) t) 0)), .int (nI 0)] [] (sI h 82 (dcR (ms h) (-1) (h.1 82) (nN (ms h)))) (some (.int (nI (cntN (tls (ms h) (fun _ => true) t) (nN (ms h))))), sI h 82 (dcR (ms h) (-1) (h.1 82) (nN (ms h)))) := by
  have lN := w.n.2
  have eN : (sI h 82 (dcR (ms h) (-1) (h.1 82) (nN (ms h)))).1 74 1 = nI (nN (ms h)) := by show h.1 74 1 = _; rw [← w.n.1, ms_r0 (by decide)]
  refine loopG (P := fun l => Gd mX9_of 44 [.ref 72, .int (nI t), .int (nI 1), .int (nI (cntN (tls (ms h) (fun _ => true) t) l)), .int (nI l)] [] (sI h 82 (dcR (ms h) (-1) (h.1 82) (nN (ms h)))) (some (.int (nI (cntN (tls (ms h) (fun _ => true) t) (nN (ms h))))), sI h 82 (dcR (ms h) (-1) (h.1 82) (nN (ms h))))) (n := nN (ms h)) ?_ ?_ 0 (by omega)
  · refine gd_ild4 dX9_of_44 ?_
    refine gd_ald0 dX9_of_46 (by decide) ?_
    refine gd_getR (r := 74) dX9_of_47 fl_9_13 rfl rfl rfl (by decide) ?_
    refine gd_ic1 dX9_of_50 ?_
    refine gd_iald (n := 5) dX9_of_51 rfl (by decide) (by repeat' (first | with_reducible rfl | apply ni_add | apply ni_mul)) (by omega) ?_
    refine gd_icmp_ge_t 105 dX9_of_52 (by decide) (by rw [eN]; exact nI_le (by omega) (by omega)) ?_
    refine gd_ic0 dX9_of_105 ?_
    refine gd_ist4 dX9_of_106 rfl ?_
    refine gd_ild4 dX9_of_108 ?_
    refine gd_ic3 dX9_of_110 ?_
    refine gd_icmp_ge_f 146 dX9_of_111 (by decide) (by decide) ?_
    refine gd_ild2 dX9_of_114 ?_
    refine gd_ic2 dX9_of_115 ?_
    refine gd_icmp_le_t 146 dX9_of_116 (by decide) (by decide) ?_
    refine gd_ild3 dX9_of_146 ?_
    refine gd_iret dX9_of_147 rfl rfl ?_
    rfl
  · intro l hl ih
    by_cases e : ms h 4 (9 * l + 1) = nI t
    · have hp : tls (ms h) (fun _ => true) t l = true := by unfold tls; rw [decide_eq_true e]; rfl
      refine gd_ild4 dX9_of_44 ?_
      refine gd_ald0 dX9_of_46 (by decide) ?_
      refine gd_getR (r := 74) dX9_of_47 fl_9_13 rfl rfl rfl (by decide) ?_
      refine gd_ic1 dX9_of_50 ?_
      refine gd_iald (n := 5) dX9_of_51 rfl (by decide) (by repeat' (first | with_reducible rfl | apply ni_add | apply ni_mul)) (by omega) ?_
      refine gd_icmp_ge_f 105 dX9_of_52 (by decide) (by rw [eN]; exact nI_ge (by omega) (by omega)) ?_
      refine gd_ild2 dX9_of_55 ?_
      refine gd_ic3 dX9_of_56 ?_
      refine gd_icmp_ge_f 105 dX9_of_57 (by decide) (by decide) ?_
      refine gd_ild3 dX9_of_60 ?_
      refine gd_ald0 dX9_of_61 (by decide) ?_
      refine gd_getR (r := 78) dX9_of_62 fl_9_25 rfl rfl rfl (by decide) ?_
      refine gd_bipush (v := nI 9) dX9_of_65 (by decide) ?_
      refine gd_ild4 dX9_of_67 ?_
      refine gd_imul dX9_of_69 ?_
      refine gd_ic1 dX9_of_70 ?_
      refine gd_iadd dX9_of_71 ?_
      refine gd_iald (n := 270) dX9_of_72 rfl (by decide) (by repeat' (first | with_reducible rfl | apply ni_add | apply ni_mul)) (by omega) ?_
      rw [show (sI h 82 (dcR (ms h) (-1) (h.1 82) (nN (ms h)))).1 78 (9 * l + 1) = ms h 4 (9 * l + 1) from (ms_r4 (by omega)).symm]
      refine gd_ild1 dX9_of_73 ?_
      refine gd_icmp_ne_f 96 dX9_of_74 (by decide) (e) ?_
      refine gd_ild2 dX9_of_77 ?_
      refine gd_ic1 dX9_of_78 ?_
      refine gd_icmp_eq_t 92 dX9_of_79 (by decide) (by decide) ?_
      refine gd_ic1 dX9_of_92 ?_
      refine gd_goto 97 dX9_of_93 (by decide) ?_
      refine gd_iadd dX9_of_97 ?_
      rw [nI_c1 _ _ hp]
      refine gd_ist3 dX9_of_98 rfl ?_
      refine gd_iinc4 (b := nI 1) dX9_of_99 (by decide) rfl ?_
      rw [nI_add]
      refine gd_goto 44 dX9_of_102 (by decide) ?_
      exact ih
    · have hp : tls (ms h) (fun _ => true) t l = false := by unfold tls; rw [decide_eq_false e]; rfl
      refine gd_ild4 dX9_of_44 ?_
      refine gd_ald0 dX9_of_46 (by decide) ?_
      refine gd_getR (r := 74) dX9_of_47 fl_9_13 rfl rfl rfl (by decide) ?_
      refine gd_ic1 dX9_of_50 ?_
      refine gd_iald (n := 5) dX9_of_51 rfl (by decide) (by repeat' (first | with_reducible rfl | apply ni_add | apply ni_mul)) (by omega) ?_
      refine gd_icmp_ge_f 105 dX9_of_52 (by decide) (by rw [eN]; exact nI_ge (by omega) (by omega)) ?_
      refine gd_ild2 dX9_of_55 ?_
      refine gd_ic3 dX9_of_56 ?_
      refine gd_icmp_ge_f 105 dX9_of_57 (by decide) (by decide) ?_
      refine gd_ild3 dX9_of_60 ?_
      refine gd_ald0 dX9_of_61 (by decide) ?_
      refine gd_getR (r := 78) dX9_of_62 fl_9_25 rfl rfl rfl (by decide) ?_
      refine gd_bipush (v := nI 9) dX9_of_65 (by decide) ?_
      refine gd_ild4 dX9_of_67 ?_
      refine gd_imul dX9_of_69 ?_
      refine gd_ic1 dX9_of_70 ?_
      refine gd_iadd dX9_of_71 ?_
      refine gd_iald (n := 270) dX9_of_72 rfl (by decide) (by repeat' (first | with_reducible rfl | apply ni_add | apply ni_mul)) (by omega) ?_
      rw [show (sI h 82 (dcR (ms h) (-1) (h.1 82) (nN (ms h)))).1 78 (9 * l + 1) = ms h 4 (9 * l + 1) from (ms_r4 (by omega)).symm]
      refine gd_ild1 dX9_of_73 ?_
      refine gd_icmp_ne_t 96 dX9_of_74 (by decide) (e) ?_
      refine gd_ic0 dX9_of_96 ?_
      refine gd_iadd dX9_of_97 ?_
      rw [add_z]
      refine gd_ist3 dX9_of_98 rfl ?_
      refine gd_iinc4 (b := nI 1) dX9_of_99 (by decide) rfl ?_
      rw [nI_add]
      refine gd_goto 44 dX9_of_102 (by decide) ?_
      rw [cnt_no hp] at ih
      exact ih
theorem lp_of2 {h : Hp} (w : WF (ms h)) {t : Nat} : Gd mX9_of 44 [.ref 72, .int (nI t), .int (nI 2), .int (nI (cntN (tls (ms h) (cB (ms h) (-1) (nN (ms h))) t) 0)), .int (nI 0)] [] (sI h 82 (dcR (ms h) (-1) (h.1 82) (nN (ms h)))) (some (.int (nI (cntN (tls (ms h) (cB (ms h) (-1) (nN (ms h))) t) (nN (ms h))))), sI h 82 (dcR (ms h) (-1) (h.1 82) (nN (ms h)))) := by
  have lN := w.n.2
  have eN : (sI h 82 (dcR (ms h) (-1) (h.1 82) (nN (ms h)))).1 74 1 = nI (nN (ms h)) := by show h.1 74 1 = _; rw [← w.n.1, ms_r0 (by decide)]
  refine loopG (P := fun l => Gd mX9_of 44 [.ref 72, .int (nI t), .int (nI 2), .int (nI (cntN (tls (ms h) (cB (ms h) (-1) (nN (ms h))) t) l)), .int (nI l)] [] (sI h 82 (dcR (ms h) (-1) (h.1 82) (nN (ms h)))) (some (.int (nI (cntN (tls (ms h) (cB (ms h) (-1) (nN (ms h))) t) (nN (ms h))))), sI h 82 (dcR (ms h) (-1) (h.1 82) (nN (ms h))))) (n := nN (ms h)) ?_ ?_ 0 (by omega)
  · refine gd_ild4 dX9_of_44 ?_
    refine gd_ald0 dX9_of_46 (by decide) ?_
    refine gd_getR (r := 74) dX9_of_47 fl_9_13 rfl rfl rfl (by decide) ?_
    refine gd_ic1 dX9_of_50 ?_
    refine gd_iald (n := 5) dX9_of_51 rfl (by decide) (by repeat' (first | with_reducible rfl | apply ni_add | apply ni_mul)) (by omega) ?_
    refine gd_icmp_ge_t 105 dX9_of_52 (by decide) (by rw [eN]; exact nI_le (by omega) (by omega)) ?_
    refine gd_ic0 dX9_of_105 ?_
    refine gd_ist4 dX9_of_106 rfl ?_
    refine gd_ild4 dX9_of_108 ?_
    refine gd_ic3 dX9_of_110 ?_
    refine gd_icmp_ge_f 146 dX9_of_111 (by decide) (by decide) ?_
    refine gd_ild2 dX9_of_114 ?_
    refine gd_ic2 dX9_of_115 ?_
    refine gd_icmp_le_t 146 dX9_of_116 (by decide) (by decide) ?_
    refine gd_ild3 dX9_of_146 ?_
    refine gd_iret dX9_of_147 rfl rfl ?_
    rfl
  · intro l hl ih
    by_cases e : ms h 4 (9 * l + 1) = nI t
    · cases hb : cB (ms h) (-1) (nN (ms h)) l with
      | false =>
        have hp : tls (ms h) (cB (ms h) (-1) (nN (ms h))) t l = false := by unfold tls; rw [hb]; rfl
        refine gd_ild4 dX9_of_44 ?_
        refine gd_ald0 dX9_of_46 (by decide) ?_
        refine gd_getR (r := 74) dX9_of_47 fl_9_13 rfl rfl rfl (by decide) ?_
        refine gd_ic1 dX9_of_50 ?_
        refine gd_iald (n := 5) dX9_of_51 rfl (by decide) (by repeat' (first | with_reducible rfl | apply ni_add | apply ni_mul)) (by omega) ?_
        refine gd_icmp_ge_f 105 dX9_of_52 (by decide) (by rw [eN]; exact nI_ge (by omega) (by omega)) ?_
        refine gd_ild2 dX9_of_55 ?_
        refine gd_ic3 dX9_of_56 ?_
        refine gd_icmp_ge_f 105 dX9_of_57 (by decide) (by decide) ?_
        refine gd_ild3 dX9_of_60 ?_
        refine gd_ald0 dX9_of_61 (by decide) ?_
        refine gd_getR (r := 78) dX9_of_62 fl_9_25 rfl rfl rfl (by decide) ?_
        refine gd_bipush (v := nI 9) dX9_of_65 (by decide) ?_
        refine gd_ild4 dX9_of_67 ?_
        refine gd_imul dX9_of_69 ?_
        refine gd_ic1 dX9_of_70 ?_
        refine gd_iadd dX9_of_71 ?_
        refine gd_iald (n := 270) dX9_of_72 rfl (by decide) (by repeat' (first | with_reducible rfl | apply ni_add | apply ni_mul)) (by omega) ?_
        rw [show (sI h 82 (dcR (ms h) (-1) (h.1 82) (nN (ms h)))).1 78 (9 * l + 1) = ms h 4 (9 * l + 1) from (ms_r4 (by omega)).symm]
        refine gd_ild1 dX9_of_73 ?_
        refine gd_icmp_ne_f 96 dX9_of_74 (by decide) (e) ?_
        refine gd_ild2 dX9_of_77 ?_
        refine gd_ic1 dX9_of_78 ?_
        refine gd_icmp_eq_f 92 dX9_of_79 (by decide) (by decide) ?_
        refine gd_ald0 dX9_of_82 (by decide) ?_
        refine gd_getR (r := 82) dX9_of_83 fl_9_37 rfl rfl rfl (by decide) ?_
        refine gd_ild4 dX9_of_86 ?_
        refine gd_zald (n := 30) dX9_of_88 rfl (by decide) (by repeat' (first | with_reducible rfl | apply ni_add | apply ni_mul)) (by omega) ?_
        rw [show (sI h 82 (dcR (ms h) (-1) (h.1 82) (nN (ms h)))).1 82 l = bi (cB (ms h) (-1) (nN (ms h)) l) by rw [sI_s]; exact dcR_at hl]
        refine gd_if_eq_t 96 dX9_of_89 (by decide) (by rw [hb]; decide) ?_
        refine gd_ic0 dX9_of_96 ?_
        refine gd_iadd dX9_of_97 ?_
        rw [add_z]
        refine gd_ist3 dX9_of_98 rfl ?_
        refine gd_iinc4 (b := nI 1) dX9_of_99 (by decide) rfl ?_
        rw [nI_add]
        refine gd_goto 44 dX9_of_102 (by decide) ?_
        rw [cnt_no hp] at ih
        exact ih
      | true =>
        have hp : tls (ms h) (cB (ms h) (-1) (nN (ms h))) t l = true := by unfold tls; rw [hb, decide_eq_true e]; rfl
        refine gd_ild4 dX9_of_44 ?_
        refine gd_ald0 dX9_of_46 (by decide) ?_
        refine gd_getR (r := 74) dX9_of_47 fl_9_13 rfl rfl rfl (by decide) ?_
        refine gd_ic1 dX9_of_50 ?_
        refine gd_iald (n := 5) dX9_of_51 rfl (by decide) (by repeat' (first | with_reducible rfl | apply ni_add | apply ni_mul)) (by omega) ?_
        refine gd_icmp_ge_f 105 dX9_of_52 (by decide) (by rw [eN]; exact nI_ge (by omega) (by omega)) ?_
        refine gd_ild2 dX9_of_55 ?_
        refine gd_ic3 dX9_of_56 ?_
        refine gd_icmp_ge_f 105 dX9_of_57 (by decide) (by decide) ?_
        refine gd_ild3 dX9_of_60 ?_
        refine gd_ald0 dX9_of_61 (by decide) ?_
        refine gd_getR (r := 78) dX9_of_62 fl_9_25 rfl rfl rfl (by decide) ?_
        refine gd_bipush (v := nI 9) dX9_of_65 (by decide) ?_
        refine gd_ild4 dX9_of_67 ?_
        refine gd_imul dX9_of_69 ?_
        refine gd_ic1 dX9_of_70 ?_
        refine gd_iadd dX9_of_71 ?_
        refine gd_iald (n := 270) dX9_of_72 rfl (by decide) (by repeat' (first | with_reducible rfl | apply ni_add | apply ni_mul)) (by omega) ?_
        rw [show (sI h 82 (dcR (ms h) (-1) (h.1 82) (nN (ms h)))).1 78 (9 * l + 1) = ms h 4 (9 * l + 1) from (ms_r4 (by omega)).symm]
        refine gd_ild1 dX9_of_73 ?_
        refine gd_icmp_ne_f 96 dX9_of_74 (by decide) (e) ?_
        refine gd_ild2 dX9_of_77 ?_
        refine gd_ic1 dX9_of_78 ?_
        refine gd_icmp_eq_f 92 dX9_of_79 (by decide) (by decide) ?_
        refine gd_ald0 dX9_of_82 (by decide) ?_
        refine gd_getR (r := 82) dX9_of_83 fl_9_37 rfl rfl rfl (by decide) ?_
        refine gd_ild4 dX9_of_86 ?_
        refine gd_zald (n := 30) dX9_of_88 rfl (by decide) (by repeat' (first | with_reducible rfl | apply ni_add | apply ni_mul)) (by omega) ?_
        rw [show (sI h 82 (dcR (ms h) (-1) (h.1 82) (nN (ms h)))).1 82 l = bi (cB (ms h) (-1) (nN (ms h)) l) by rw [sI_s]; exact dcR_at hl]
        refine gd_if_eq_f 96 dX9_of_89 (by decide) (by rw [hb]; decide) ?_
        refine gd_ic1 dX9_of_92 ?_
        refine gd_goto 97 dX9_of_93 (by decide) ?_
        refine gd_iadd dX9_of_97 ?_
        rw [nI_c1 _ _ hp]
        refine gd_ist3 dX9_of_98 rfl ?_
        refine gd_iinc4 (b := nI 1) dX9_of_99 (by decide) rfl ?_
        rw [nI_add]
        refine gd_goto 44 dX9_of_102 (by decide) ?_
        exact ih
    · have hp : tls (ms h) (cB (ms h) (-1) (nN (ms h))) t l = false := by unfold tls; rw [decide_eq_false e, Bool.and_false]
      refine gd_ild4 dX9_of_44 ?_
      refine gd_ald0 dX9_of_46 (by decide) ?_
      refine gd_getR (r := 74) dX9_of_47 fl_9_13 rfl rfl rfl (by decide) ?_
      refine gd_ic1 dX9_of_50 ?_
      refine gd_iald (n := 5) dX9_of_51 rfl (by decide) (by repeat' (first | with_reducible rfl | apply ni_add | apply ni_mul)) (by omega) ?_
      refine gd_icmp_ge_f 105 dX9_of_52 (by decide) (by rw [eN]; exact nI_ge (by omega) (by omega)) ?_
      refine gd_ild2 dX9_of_55 ?_
      refine gd_ic3 dX9_of_56 ?_
      refine gd_icmp_ge_f 105 dX9_of_57 (by decide) (by decide) ?_
      refine gd_ild3 dX9_of_60 ?_
      refine gd_ald0 dX9_of_61 (by decide) ?_
      refine gd_getR (r := 78) dX9_of_62 fl_9_25 rfl rfl rfl (by decide) ?_
      refine gd_bipush (v := nI 9) dX9_of_65 (by decide) ?_
      refine gd_ild4 dX9_of_67 ?_
      refine gd_imul dX9_of_69 ?_
      refine gd_ic1 dX9_of_70 ?_
      refine gd_iadd dX9_of_71 ?_
      refine gd_iald (n := 270) dX9_of_72 rfl (by decide) (by repeat' (first | with_reducible rfl | apply ni_add | apply ni_mul)) (by omega) ?_
      rw [show (sI h 82 (dcR (ms h) (-1) (h.1 82) (nN (ms h)))).1 78 (9 * l + 1) = ms h 4 (9 * l + 1) from (ms_r4 (by omega)).symm]
      refine gd_ild1 dX9_of_73 ?_
      refine gd_icmp_ne_t 96 dX9_of_74 (by decide) (e) ?_
      refine gd_ic0 dX9_of_96 ?_
      refine gd_iadd dX9_of_97 ?_
      rw [add_z]
      refine gd_ist3 dX9_of_98 rfl ?_
      refine gd_iinc4 (b := nI 1) dX9_of_99 (by decide) rfl ?_
      rw [nI_add]
      refine gd_goto 44 dX9_of_102 (by decide) ?_
      rw [cnt_no hp] at ih
      exact ih
theorem rng_out {a : Int32} {n : Nat} {m : Int} (hn : n < 2 ^ 31 := by decide) (hm : (n : Int) = m + 1 := by decide) (ha : ¬ (0 ≤ a ∧ a < nI n)) : a.toInt < 0 ∨ m < a.toInt := by
  rw [Int32.le_iff_toInt_le, Int32.lt_iff_toInt_lt, nI_toInt hn, show (0 : Int32).toInt = 0 by decide] at ha
  omega
set_option maxHeartbeats 1000000 in
theorem p_of {h : Hp} (i : Inv h) (a b : Int32) : Pas mX8_of mX9_of [.ref 0, .int a, .int b] [.ref 72, .int a, .int b, .null, .null] h := by
  have lN := i.lN
  have lT := i.lT
  have eN : (sI h 82 (dcR (ms h) (-1) (h.1 82) (nN (ms h)))).1 74 1 = nI (nN (ms h)) := i.mN
  rcases rng a (nT (ms h)) (by omega) with ⟨t, ht, rfl⟩ | ha
  · rcases rng b (5) (by decide) with ⟨q, hq, rfl⟩ | hb
    · rcases (show q = 0 ∨ q = 1 ∨ q = 2 ∨ q = 3 ∨ q = 4 by omega) with rfl | rfl | rfl | rfl | rfl
      · refine Pas.read (r := .int (ms h 2 t)) (r2 := .int (ms h 2 t)) (h1 := h) (h2 := sI h 82 (dcR (ms h) (-1) (h.1 82) (nN (ms h)))) i rfl (Same.rf _) ((Same.rf _).si (by decide) (by decide) (by decide)) ?_ ?_
        · refine gd_ald0 dX8_of_0 (by decide) ?_
          refine gd_ild1 dX8_of_1 ?_
          refine gd_cV1i dX8_of_2 ct_8_74 rc_0 ⟨Nat.le_of_ble_eq_true rfl, Nat.le_of_ble_eq_true rfl⟩ (Nat.le_of_ble_eq_true rfl) (Nat.le_of_ble_eq_true rfl) (c_isTown_t i.w i.c ht) ?_
          refine gd_if_ne_t 15 dX8_of_5 (by decide) (by decide) ?_
          refine gd_ild2 dX8_of_15 ?_
          refine gd_tabIn (off := 36) 52 dX8_of_16 (by decide) (by decide) (by decide) (by decide) ?_
          refine gd_ald0 dX8_of_52 (by decide) ?_
          refine gd_getR (r := 1) dX8_of_53 fl_8_12 rfl rfl rfl (by decide) ?_
          refine gd_getR (r := 2) dX8_of_56 fl_8_57 rfl rfl rfl (by decide) ?_
          refine gd_getR (r := 4) dX8_of_59 fl_8_97 rfl rfl rfl (by decide) ?_
          refine gd_ild1 dX8_of_62 ?_
          refine gd_iald (n := 16) dX8_of_63 rfl (by decide) (by repeat' (first | with_reducible rfl | apply ni_add | apply ni_mul)) (by omega) ?_
          refine gd_iret dX8_of_64 rfl rfl ?_
          rw [i.c.c1 t ht]
        · refine gd_ald0 dX9_of_0 (by decide) ?_
          refine gd_ild1 dX9_of_1 ?_
          refine gd_cV1i dX9_of_2 ct_9_101 rc_72 ⟨Nat.le_of_ble_eq_true rfl, Nat.le_of_ble_eq_true rfl⟩ (Nat.le_of_ble_eq_true rfl) (Nat.le_of_ble_eq_true rfl) (m_isTown_t (h := h) (by exact i.w) ht) ?_
          refine gd_if_eq_f 17 dX9_of_5 (by decide) (by decide) ?_
          refine gd_ild2 dX9_of_8 ?_
          refine gd_ic0 dX9_of_9 ?_
          refine gd_ic4 dX9_of_10 ?_
          refine gd_cS3i dX9_of_11 ct_9_79 ⟨Nat.le_of_ble_eq_true rfl, Nat.le_of_ble_eq_true rfl⟩ (Nat.le_of_ble_eq_true rfl) (Nat.le_of_ble_eq_true rfl) (m_in_t (m := 4) (by decide) (by decide) _) ?_
          refine gd_if_ne_t 23 dX9_of_14 (by decide) (by decide) ?_
          refine gd_ald0 dX9_of_23 (by decide) ?_
          refine gd_icm1 dX9_of_24 ?_
          refine gd_cV1v dX9_of_25 ct_9_109 rc_72 ⟨Nat.le_of_ble_eq_true rfl, Nat.le_of_ble_eq_true rfl⟩ (Nat.le_of_ble_eq_true rfl) (Nat.le_of_ble_eq_true rfl) (m_count (h := h) i.w _) ?_
          refine gd_ic0 dX9_of_28 ?_
          refine gd_ist3 dX9_of_29 rfl ?_
          refine gd_ild2 dX9_of_30 ?_
          refine gd_if_ne_f 41 dX9_of_31 (by decide) (by decide) ?_
          refine gd_ald0 dX9_of_34 (by decide) ?_
          refine gd_getR (r := 76) dX9_of_35 fl_9_19 rfl rfl rfl (by decide) ?_
          refine gd_ild1 dX9_of_38 ?_
          refine gd_iald (n := 16) dX9_of_39 rfl (by decide) (by repeat' (first | with_reducible rfl | apply ni_add | apply ni_mul)) (by omega) ?_
          refine gd_iret dX9_of_40 rfl rfl ?_
          rw [ms_r2 (by omega)]; rfl
      · have ec : cntN (tls (ms h) (2 ^ nN (ms h) - 1).testBit t) (nN (ms h)) = cntN (tls (ms h) (fun _ => true) t) (nN (ms h)) := cntN_congr (fun k hk => by unfold tls; rw [every_bit hk])
        refine Pas.read (r := .int (nI (cntN (tls (ms h) (fun _ => true) t) (nN (ms h))))) (r2 := .int (nI (cntN (tls (ms h) (fun _ => true) t) (nN (ms h))))) (h1 := h) (h2 := sI h 82 (dcR (ms h) (-1) (h.1 82) (nN (ms h)))) i rfl (Same.rf _) ((Same.rf _).si (by decide) (by decide) (by decide)) ?_ ?_
        · refine gd_ald0 dX8_of_0 (by decide) ?_
          refine gd_ild1 dX8_of_1 ?_
          refine gd_cV1i dX8_of_2 ct_8_74 rc_0 ⟨Nat.le_of_ble_eq_true rfl, Nat.le_of_ble_eq_true rfl⟩ (Nat.le_of_ble_eq_true rfl) (Nat.le_of_ble_eq_true rfl) (c_isTown_t i.w i.c ht) ?_
          refine gd_if_ne_t 15 dX8_of_5 (by decide) (by decide) ?_
          refine gd_ild2 dX8_of_15 ?_
          refine gd_tabIn (off := 49) 65 dX8_of_16 (by decide) (by decide) (by decide) (by decide) ?_
          refine gd_ald0 dX8_of_65 (by decide) ?_
          refine gd_getR (r := 1) dX8_of_66 fl_8_12 rfl rfl rfl (by decide) ?_
          refine gd_getR (r := 6) dX8_of_69 fl_8_100 rfl rfl rfl (by decide) ?_
          refine gd_ild1 dX8_of_72 ?_
          refine gd_ald0 dX8_of_73 (by decide) ?_
          refine gd_getR (r := 1) dX8_of_74 fl_8_12 rfl rfl rfl (by decide) ?_
          refine gd_getR (r := 6) dX8_of_77 fl_8_100 rfl rfl rfl (by decide) ?_
          refine gd_cV0i dX8_of_80 ct_8_104 rc_6 ⟨Nat.le_of_ble_eq_true rfl, Nat.le_of_ble_eq_true rfl⟩ (Nat.le_of_ble_eq_true rfl) (Nat.le_of_ble_eq_true rfl) (c_everyOne i.w i.c) ?_
          refine gd_cV2i dX8_of_83 ct_8_110 rc_6 ⟨Nat.le_of_ble_eq_true rfl, Nat.le_of_ble_eq_true rfl⟩ (Nat.le_of_ble_eq_true rfl) (Nat.le_of_ble_eq_true rfl) (c_countOf i.w i.c (by omega) (by have : 2 ^ nN (ms h) ≤ 2 ^ 30 := Nat.pow_le_pow_right (by decide) lN; omega)) ?_
          refine gd_iret dX8_of_86 rfl rfl ?_
          rw [ec]
        · refine gd_ald0 dX9_of_0 (by decide) ?_
          refine gd_ild1 dX9_of_1 ?_
          refine gd_cV1i dX9_of_2 ct_9_101 rc_72 ⟨Nat.le_of_ble_eq_true rfl, Nat.le_of_ble_eq_true rfl⟩ (Nat.le_of_ble_eq_true rfl) (Nat.le_of_ble_eq_true rfl) (m_isTown_t (h := h) (by exact i.w) ht) ?_
          refine gd_if_eq_f 17 dX9_of_5 (by decide) (by decide) ?_
          refine gd_ild2 dX9_of_8 ?_
          refine gd_ic0 dX9_of_9 ?_
          refine gd_ic4 dX9_of_10 ?_
          refine gd_cS3i dX9_of_11 ct_9_79 ⟨Nat.le_of_ble_eq_true rfl, Nat.le_of_ble_eq_true rfl⟩ (Nat.le_of_ble_eq_true rfl) (Nat.le_of_ble_eq_true rfl) (m_in_t (m := 4) (by decide) (by decide) _) ?_
          refine gd_if_ne_t 23 dX9_of_14 (by decide) (by decide) ?_
          refine gd_ald0 dX9_of_23 (by decide) ?_
          refine gd_icm1 dX9_of_24 ?_
          refine gd_cV1v dX9_of_25 ct_9_109 rc_72 ⟨Nat.le_of_ble_eq_true rfl, Nat.le_of_ble_eq_true rfl⟩ (Nat.le_of_ble_eq_true rfl) (Nat.le_of_ble_eq_true rfl) (m_count (h := h) i.w _) ?_
          refine gd_ic0 dX9_of_28 ?_
          refine gd_ist3 dX9_of_29 rfl ?_
          refine gd_ild2 dX9_of_30 ?_
          refine gd_if_ne_t 41 dX9_of_31 (by decide) (by decide) ?_
          refine gd_ic0 dX9_of_41 ?_
          refine gd_ist4 dX9_of_42 rfl ?_
          exact lp_of1 i.w
      · have ec : cntN (tls (ms h) (cS (ms h) (-1)).testBit t) (nN (ms h)) = cntN (tls (ms h) (cB (ms h) (-1) (nN (ms h))) t) (nN (ms h)) := cntN_congr (fun k hk => by unfold tls; rw [cS_bit hk])
        refine Pas.read (r := .int (nI (cntN (tls (ms h) (cB (ms h) (-1) (nN (ms h))) t) (nN (ms h))))) (r2 := .int (nI (cntN (tls (ms h) (cB (ms h) (-1) (nN (ms h))) t) (nN (ms h))))) (h1 := h) (h2 := sI h 82 (dcR (ms h) (-1) (h.1 82) (nN (ms h)))) i rfl (Same.rf _) ((Same.rf _).si (by decide) (by decide) (by decide)) ?_ ?_
        · refine gd_ald0 dX8_of_0 (by decide) ?_
          refine gd_ild1 dX8_of_1 ?_
          refine gd_cV1i dX8_of_2 ct_8_74 rc_0 ⟨Nat.le_of_ble_eq_true rfl, Nat.le_of_ble_eq_true rfl⟩ (Nat.le_of_ble_eq_true rfl) (Nat.le_of_ble_eq_true rfl) (c_isTown_t i.w i.c ht) ?_
          refine gd_if_ne_t 15 dX8_of_5 (by decide) (by decide) ?_
          refine gd_ild2 dX8_of_15 ?_
          refine gd_tabIn (off := 71) 87 dX8_of_16 (by decide) (by decide) (by decide) (by decide) ?_
          refine gd_ald0 dX8_of_87 (by decide) ?_
          refine gd_getR (r := 1) dX8_of_88 fl_8_12 rfl rfl rfl (by decide) ?_
          refine gd_getR (r := 6) dX8_of_91 fl_8_100 rfl rfl rfl (by decide) ?_
          refine gd_ild1 dX8_of_94 ?_
          refine gd_ald0 dX8_of_95 (by decide) ?_
          refine gd_getR (r := 1) dX8_of_96 fl_8_12 rfl rfl rfl (by decide) ?_
          refine gd_icm1 dX8_of_99 ?_
          refine gd_cV1i dX8_of_100 ct_8_114 rc_1 ⟨Nat.le_of_ble_eq_true rfl, Nat.le_of_ble_eq_true rfl⟩ (Nat.le_of_ble_eq_true rfl) (Nat.le_of_ble_eq_true rfl) (c_counting i.w i.c _) ?_
          refine gd_cV2i dX8_of_103 ct_8_110 rc_6 ⟨Nat.le_of_ble_eq_true rfl, Nat.le_of_ble_eq_true rfl⟩ (Nat.le_of_ble_eq_true rfl) (Nat.le_of_ble_eq_true rfl) (c_countOf i.w i.c (by omega) (by have := cS_lt i.w (-1); omega)) ?_
          refine gd_iret dX8_of_106 rfl rfl ?_
          rw [ec]
        · refine gd_ald0 dX9_of_0 (by decide) ?_
          refine gd_ild1 dX9_of_1 ?_
          refine gd_cV1i dX9_of_2 ct_9_101 rc_72 ⟨Nat.le_of_ble_eq_true rfl, Nat.le_of_ble_eq_true rfl⟩ (Nat.le_of_ble_eq_true rfl) (Nat.le_of_ble_eq_true rfl) (m_isTown_t (h := h) (by exact i.w) ht) ?_
          refine gd_if_eq_f 17 dX9_of_5 (by decide) (by decide) ?_
          refine gd_ild2 dX9_of_8 ?_
          refine gd_ic0 dX9_of_9 ?_
          refine gd_ic4 dX9_of_10 ?_
          refine gd_cS3i dX9_of_11 ct_9_79 ⟨Nat.le_of_ble_eq_true rfl, Nat.le_of_ble_eq_true rfl⟩ (Nat.le_of_ble_eq_true rfl) (Nat.le_of_ble_eq_true rfl) (m_in_t (m := 4) (by decide) (by decide) _) ?_
          refine gd_if_ne_t 23 dX9_of_14 (by decide) (by decide) ?_
          refine gd_ald0 dX9_of_23 (by decide) ?_
          refine gd_icm1 dX9_of_24 ?_
          refine gd_cV1v dX9_of_25 ct_9_109 rc_72 ⟨Nat.le_of_ble_eq_true rfl, Nat.le_of_ble_eq_true rfl⟩ (Nat.le_of_ble_eq_true rfl) (Nat.le_of_ble_eq_true rfl) (m_count (h := h) i.w _) ?_
          refine gd_ic0 dX9_of_28 ?_
          refine gd_ist3 dX9_of_29 rfl ?_
          refine gd_ild2 dX9_of_30 ?_
          refine gd_if_ne_t 41 dX9_of_31 (by decide) (by decide) ?_
          refine gd_ic0 dX9_of_41 ?_
          refine gd_ist4 dX9_of_42 rfl ?_
          exact lp_of2 i.w
      · refine Pas.read (r := .int (nI 0 + ms h 3 (6 * t + 0) + ms h 3 (6 * t + 1) + ms h 3 (6 * t + 2))) (r2 := .int (nI 0 + ms h 3 (6 * t + 0) + ms h 3 (6 * t + 1) + ms h 3 (6 * t + 2))) (h1 := h) (h2 := sI h 82 (dcR (ms h) (-1) (h.1 82) (nN (ms h)))) i rfl (Same.rf _) ((Same.rf _).si (by decide) (by decide) (by decide)) ?_ ?_
        · refine gd_ald0 dX8_of_0 (by decide) ?_
          refine gd_ild1 dX8_of_1 ?_
          refine gd_cV1i dX8_of_2 ct_8_74 rc_0 ⟨Nat.le_of_ble_eq_true rfl, Nat.le_of_ble_eq_true rfl⟩ (Nat.le_of_ble_eq_true rfl) (Nat.le_of_ble_eq_true rfl) (c_isTown_t i.w i.c ht) ?_
          refine gd_if_ne_t 15 dX8_of_5 (by decide) (by decide) ?_
          refine gd_ild2 dX8_of_15 ?_
          refine gd_tabIn (off := 91) 107 dX8_of_16 (by decide) (by decide) (by decide) (by decide) ?_
          refine gd_ald0 dX8_of_107 (by decide) ?_
          refine gd_getR (r := 1) dX8_of_108 fl_8_12 rfl rfl rfl (by decide) ?_
          refine gd_getR (r := 2) dX8_of_111 fl_8_57 rfl rfl rfl (by decide) ?_
          refine gd_ild1 dX8_of_114 ?_
          refine gd_ic0 dX8_of_115 ?_
          refine gd_cV2i dX8_of_116 ct_8_117 rc_2 ⟨Nat.le_of_ble_eq_true rfl, Nat.le_of_ble_eq_true rfl⟩ (Nat.le_of_ble_eq_true rfl) (Nat.le_of_ble_eq_true rfl) (c_allHouses0 (by omega)) ?_
          refine gd_iret dX8_of_119 rfl rfl ?_
          rw [i.c.h1 _ (by omega), i.c.h1 _ (by omega), i.c.h1 _ (by omega)]
        · refine gd_ald0 dX9_of_0 (by decide) ?_
          refine gd_ild1 dX9_of_1 ?_
          refine gd_cV1i dX9_of_2 ct_9_101 rc_72 ⟨Nat.le_of_ble_eq_true rfl, Nat.le_of_ble_eq_true rfl⟩ (Nat.le_of_ble_eq_true rfl) (Nat.le_of_ble_eq_true rfl) (m_isTown_t (h := h) (by exact i.w) ht) ?_
          refine gd_if_eq_f 17 dX9_of_5 (by decide) (by decide) ?_
          refine gd_ild2 dX9_of_8 ?_
          refine gd_ic0 dX9_of_9 ?_
          refine gd_ic4 dX9_of_10 ?_
          refine gd_cS3i dX9_of_11 ct_9_79 ⟨Nat.le_of_ble_eq_true rfl, Nat.le_of_ble_eq_true rfl⟩ (Nat.le_of_ble_eq_true rfl) (Nat.le_of_ble_eq_true rfl) (m_in_t (m := 4) (by decide) (by decide) _) ?_
          refine gd_if_ne_t 23 dX9_of_14 (by decide) (by decide) ?_
          refine gd_ald0 dX9_of_23 (by decide) ?_
          refine gd_icm1 dX9_of_24 ?_
          refine gd_cV1v dX9_of_25 ct_9_109 rc_72 ⟨Nat.le_of_ble_eq_true rfl, Nat.le_of_ble_eq_true rfl⟩ (Nat.le_of_ble_eq_true rfl) (Nat.le_of_ble_eq_true rfl) (m_count i.w _) ?_
          refine gd_ic0 dX9_of_28 ?_
          refine gd_ist3 dX9_of_29 rfl ?_
          refine gd_ild2 dX9_of_30 ?_
          refine gd_if_ne_t 41 dX9_of_31 (by decide) (by decide) ?_
          refine gd_ic0 dX9_of_41 ?_
          refine gd_ist4 dX9_of_42 rfl ?_
          by_cases nz : nN (ms h) = 0
          · refine gd_ild4 dX9_of_44 ?_
            refine gd_ald0 dX9_of_46 (by decide) ?_
            refine gd_getR (r := 74) dX9_of_47 fl_9_13 rfl rfl rfl (by decide) ?_
            refine gd_ic1 dX9_of_50 ?_
            refine gd_iald (n := 5) dX9_of_51 rfl (by decide) (by repeat' (first | with_reducible rfl | apply ni_add | apply ni_mul)) (by omega) ?_
            refine gd_icmp_ge_t 105 dX9_of_52 (by decide) (by rw [eN]; exact nI_le (by omega) (by omega)) ?_
            refine gd_ic0 dX9_of_105 ?_
            refine gd_ist4 dX9_of_106 rfl ?_
            refine gd_ild4 dX9_of_108 ?_
            refine gd_ic3 dX9_of_110 ?_
            refine gd_icmp_ge_f 146 dX9_of_111 (by decide) (by decide) ?_
            refine gd_ild2 dX9_of_114 ?_
            refine gd_ic2 dX9_of_115 ?_
            refine gd_icmp_le_f 146 dX9_of_116 (by decide) (by decide) ?_
            refine gd_ild3 dX9_of_119 ?_
            refine gd_ald0 dX9_of_120 (by decide) ?_
            refine gd_getR (r := 77) dX9_of_121 fl_9_22 rfl rfl rfl (by decide) ?_
            refine gd_bipush (v := nI 6) dX9_of_124 (by decide) ?_
            refine gd_ild1 dX9_of_126 ?_
            refine gd_imul dX9_of_127 ?_
            refine gd_ic3 dX9_of_128 ?_
            refine gd_ild2 dX9_of_129 ?_
            refine gd_ic3 dX9_of_130 ?_
            refine gd_isub dX9_of_131 ?_
            refine gd_imul dX9_of_132 ?_
            refine gd_iadd dX9_of_133 ?_
            refine gd_ild4 dX9_of_134 ?_
            refine gd_iadd dX9_of_136 ?_
            refine gd_iald (n := 96) dX9_of_137 rfl (by decide) (by rw [show nI 3 - nI 3 = nI 0 by decide]; repeat' (first | with_reducible rfl | apply ni_add | apply ni_mul)) (by omega) ?_
            skip
            refine gd_iadd dX9_of_138 ?_
            refine gd_ist3 dX9_of_139 rfl ?_
            refine gd_iinc4 (b := nI 1) dX9_of_140 (by decide) rfl ?_
            refine gd_goto 108 dX9_of_143 (by decide) ?_
            refine gd_ild4 dX9_of_108 ?_
            refine gd_ic3 dX9_of_110 ?_
            refine gd_icmp_ge_f 146 dX9_of_111 (by decide) (by decide) ?_
            refine gd_ild2 dX9_of_114 ?_
            refine gd_ic2 dX9_of_115 ?_
            refine gd_icmp_le_f 146 dX9_of_116 (by decide) (by decide) ?_
            refine gd_ild3 dX9_of_119 ?_
            refine gd_ald0 dX9_of_120 (by decide) ?_
            refine gd_getR (r := 77) dX9_of_121 fl_9_22 rfl rfl rfl (by decide) ?_
            refine gd_bipush (v := nI 6) dX9_of_124 (by decide) ?_
            refine gd_ild1 dX9_of_126 ?_
            refine gd_imul dX9_of_127 ?_
            refine gd_ic3 dX9_of_128 ?_
            refine gd_ild2 dX9_of_129 ?_
            refine gd_ic3 dX9_of_130 ?_
            refine gd_isub dX9_of_131 ?_
            refine gd_imul dX9_of_132 ?_
            refine gd_iadd dX9_of_133 ?_
            refine gd_ild4 dX9_of_134 ?_
            refine gd_iadd dX9_of_136 ?_
            refine gd_iald (n := 96) dX9_of_137 rfl (by decide) (by rw [show nI 3 - nI 3 = nI 0 by decide]; repeat' (first | with_reducible rfl | apply ni_add | apply ni_mul)) (by omega) ?_
            skip
            refine gd_iadd dX9_of_138 ?_
            refine gd_ist3 dX9_of_139 rfl ?_
            refine gd_iinc4 (b := nI 1) dX9_of_140 (by decide) rfl ?_
            refine gd_goto 108 dX9_of_143 (by decide) ?_
            refine gd_ild4 dX9_of_108 ?_
            refine gd_ic3 dX9_of_110 ?_
            refine gd_icmp_ge_f 146 dX9_of_111 (by decide) (by decide) ?_
            refine gd_ild2 dX9_of_114 ?_
            refine gd_ic2 dX9_of_115 ?_
            refine gd_icmp_le_f 146 dX9_of_116 (by decide) (by decide) ?_
            refine gd_ild3 dX9_of_119 ?_
            refine gd_ald0 dX9_of_120 (by decide) ?_
            refine gd_getR (r := 77) dX9_of_121 fl_9_22 rfl rfl rfl (by decide) ?_
            refine gd_bipush (v := nI 6) dX9_of_124 (by decide) ?_
            refine gd_ild1 dX9_of_126 ?_
            refine gd_imul dX9_of_127 ?_
            refine gd_ic3 dX9_of_128 ?_
            refine gd_ild2 dX9_of_129 ?_
            refine gd_ic3 dX9_of_130 ?_
            refine gd_isub dX9_of_131 ?_
            refine gd_imul dX9_of_132 ?_
            refine gd_iadd dX9_of_133 ?_
            refine gd_ild4 dX9_of_134 ?_
            refine gd_iadd dX9_of_136 ?_
            refine gd_iald (n := 96) dX9_of_137 rfl (by decide) (by rw [show nI 3 - nI 3 = nI 0 by decide]; repeat' (first | with_reducible rfl | apply ni_add | apply ni_mul)) (by omega) ?_
            skip
            refine gd_iadd dX9_of_138 ?_
            refine gd_ist3 dX9_of_139 rfl ?_
            refine gd_iinc4 (b := nI 1) dX9_of_140 (by decide) rfl ?_
            refine gd_goto 108 dX9_of_143 (by decide) ?_
            refine gd_ild4 dX9_of_108 ?_
            refine gd_ic3 dX9_of_110 ?_
            refine gd_icmp_ge_t 146 dX9_of_111 (by decide) (by decide) ?_
            refine gd_ild3 dX9_of_146 ?_
            refine gd_iret dX9_of_147 rfl rfl ?_
            rw [show 6 * t + 3 * 0 + 0 = 6 * t + 0 by omega, show 6 * t + 3 * 0 + (0 + 1) = 6 * t + 1 by omega, show 6 * t + 3 * 0 + (0 + 1 + 1) = 6 * t + 2 by omega, show (sI h 82 (dcR (ms h) (-1) (h.1 82) (nN (ms h)))).1 77 = h.1 77 from rfl, ms_r3 (by omega), ms_r3 (by omega), ms_r3 (by omega)]
          · refine gd_ild4 dX9_of_44 ?_
            refine gd_ald0 dX9_of_46 (by decide) ?_
            refine gd_getR (r := 74) dX9_of_47 fl_9_13 rfl rfl rfl (by decide) ?_
            refine gd_ic1 dX9_of_50 ?_
            refine gd_iald (n := 5) dX9_of_51 rfl (by decide) (by repeat' (first | with_reducible rfl | apply ni_add | apply ni_mul)) (by omega) ?_
            refine gd_icmp_ge_f 105 dX9_of_52 (by decide) (by rw [eN]; exact nI_ge (by omega) (by omega)) ?_
            refine gd_ild2 dX9_of_55 ?_
            refine gd_ic3 dX9_of_56 ?_
            refine gd_icmp_ge_t 105 dX9_of_57 (by decide) (by decide) ?_
            refine gd_ic0 dX9_of_105 ?_
            refine gd_ist4 dX9_of_106 rfl ?_
            refine gd_ild4 dX9_of_108 ?_
            refine gd_ic3 dX9_of_110 ?_
            refine gd_icmp_ge_f 146 dX9_of_111 (by decide) (by decide) ?_
            refine gd_ild2 dX9_of_114 ?_
            refine gd_ic2 dX9_of_115 ?_
            refine gd_icmp_le_f 146 dX9_of_116 (by decide) (by decide) ?_
            refine gd_ild3 dX9_of_119 ?_
            refine gd_ald0 dX9_of_120 (by decide) ?_
            refine gd_getR (r := 77) dX9_of_121 fl_9_22 rfl rfl rfl (by decide) ?_
            refine gd_bipush (v := nI 6) dX9_of_124 (by decide) ?_
            refine gd_ild1 dX9_of_126 ?_
            refine gd_imul dX9_of_127 ?_
            refine gd_ic3 dX9_of_128 ?_
            refine gd_ild2 dX9_of_129 ?_
            refine gd_ic3 dX9_of_130 ?_
            refine gd_isub dX9_of_131 ?_
            refine gd_imul dX9_of_132 ?_
            refine gd_iadd dX9_of_133 ?_
            refine gd_ild4 dX9_of_134 ?_
            refine gd_iadd dX9_of_136 ?_
            refine gd_iald (n := 96) dX9_of_137 rfl (by decide) (by rw [show nI 3 - nI 3 = nI 0 by decide]; repeat' (first | with_reducible rfl | apply ni_add | apply ni_mul)) (by omega) ?_
            skip
            refine gd_iadd dX9_of_138 ?_
            refine gd_ist3 dX9_of_139 rfl ?_
            refine gd_iinc4 (b := nI 1) dX9_of_140 (by decide) rfl ?_
            refine gd_goto 108 dX9_of_143 (by decide) ?_
            refine gd_ild4 dX9_of_108 ?_
            refine gd_ic3 dX9_of_110 ?_
            refine gd_icmp_ge_f 146 dX9_of_111 (by decide) (by decide) ?_
            refine gd_ild2 dX9_of_114 ?_
            refine gd_ic2 dX9_of_115 ?_
            refine gd_icmp_le_f 146 dX9_of_116 (by decide) (by decide) ?_
            refine gd_ild3 dX9_of_119 ?_
            refine gd_ald0 dX9_of_120 (by decide) ?_
            refine gd_getR (r := 77) dX9_of_121 fl_9_22 rfl rfl rfl (by decide) ?_
            refine gd_bipush (v := nI 6) dX9_of_124 (by decide) ?_
            refine gd_ild1 dX9_of_126 ?_
            refine gd_imul dX9_of_127 ?_
            refine gd_ic3 dX9_of_128 ?_
            refine gd_ild2 dX9_of_129 ?_
            refine gd_ic3 dX9_of_130 ?_
            refine gd_isub dX9_of_131 ?_
            refine gd_imul dX9_of_132 ?_
            refine gd_iadd dX9_of_133 ?_
            refine gd_ild4 dX9_of_134 ?_
            refine gd_iadd dX9_of_136 ?_
            refine gd_iald (n := 96) dX9_of_137 rfl (by decide) (by rw [show nI 3 - nI 3 = nI 0 by decide]; repeat' (first | with_reducible rfl | apply ni_add | apply ni_mul)) (by omega) ?_
            skip
            refine gd_iadd dX9_of_138 ?_
            refine gd_ist3 dX9_of_139 rfl ?_
            refine gd_iinc4 (b := nI 1) dX9_of_140 (by decide) rfl ?_
            refine gd_goto 108 dX9_of_143 (by decide) ?_
            refine gd_ild4 dX9_of_108 ?_
            refine gd_ic3 dX9_of_110 ?_
            refine gd_icmp_ge_f 146 dX9_of_111 (by decide) (by decide) ?_
            refine gd_ild2 dX9_of_114 ?_
            refine gd_ic2 dX9_of_115 ?_
            refine gd_icmp_le_f 146 dX9_of_116 (by decide) (by decide) ?_
            refine gd_ild3 dX9_of_119 ?_
            refine gd_ald0 dX9_of_120 (by decide) ?_
            refine gd_getR (r := 77) dX9_of_121 fl_9_22 rfl rfl rfl (by decide) ?_
            refine gd_bipush (v := nI 6) dX9_of_124 (by decide) ?_
            refine gd_ild1 dX9_of_126 ?_
            refine gd_imul dX9_of_127 ?_
            refine gd_ic3 dX9_of_128 ?_
            refine gd_ild2 dX9_of_129 ?_
            refine gd_ic3 dX9_of_130 ?_
            refine gd_isub dX9_of_131 ?_
            refine gd_imul dX9_of_132 ?_
            refine gd_iadd dX9_of_133 ?_
            refine gd_ild4 dX9_of_134 ?_
            refine gd_iadd dX9_of_136 ?_
            refine gd_iald (n := 96) dX9_of_137 rfl (by decide) (by rw [show nI 3 - nI 3 = nI 0 by decide]; repeat' (first | with_reducible rfl | apply ni_add | apply ni_mul)) (by omega) ?_
            skip
            refine gd_iadd dX9_of_138 ?_
            refine gd_ist3 dX9_of_139 rfl ?_
            refine gd_iinc4 (b := nI 1) dX9_of_140 (by decide) rfl ?_
            refine gd_goto 108 dX9_of_143 (by decide) ?_
            refine gd_ild4 dX9_of_108 ?_
            refine gd_ic3 dX9_of_110 ?_
            refine gd_icmp_ge_t 146 dX9_of_111 (by decide) (by decide) ?_
            refine gd_ild3 dX9_of_146 ?_
            refine gd_iret dX9_of_147 rfl rfl ?_
            rw [show 6 * t + 3 * 0 + 0 = 6 * t + 0 by omega, show 6 * t + 3 * 0 + (0 + 1) = 6 * t + 1 by omega, show 6 * t + 3 * 0 + (0 + 1 + 1) = 6 * t + 2 by omega, show (sI h 82 (dcR (ms h) (-1) (h.1 82) (nN (ms h)))).1 77 = h.1 77 from rfl, ms_r3 (by omega), ms_r3 (by omega), ms_r3 (by omega)]
      · refine Pas.read (r := .int (nI 0 + ms h 3 (6 * t + 3) + ms h 3 (6 * t + 4) + ms h 3 (6 * t + 5))) (r2 := .int (nI 0 + ms h 3 (6 * t + 3) + ms h 3 (6 * t + 4) + ms h 3 (6 * t + 5))) (h1 := h) (h2 := sI h 82 (dcR (ms h) (-1) (h.1 82) (nN (ms h)))) i rfl (Same.rf _) ((Same.rf _).si (by decide) (by decide) (by decide)) ?_ ?_
        · refine gd_ald0 dX8_of_0 (by decide) ?_
          refine gd_ild1 dX8_of_1 ?_
          refine gd_cV1i dX8_of_2 ct_8_74 rc_0 ⟨Nat.le_of_ble_eq_true rfl, Nat.le_of_ble_eq_true rfl⟩ (Nat.le_of_ble_eq_true rfl) (Nat.le_of_ble_eq_true rfl) (c_isTown_t i.w i.c ht) ?_
          refine gd_if_ne_t 15 dX8_of_5 (by decide) (by decide) ?_
          refine gd_ild2 dX8_of_15 ?_
          refine gd_tabIn (off := 104) 120 dX8_of_16 (by decide) (by decide) (by decide) (by decide) ?_
          refine gd_ald0 dX8_of_120 (by decide) ?_
          refine gd_getR (r := 1) dX8_of_121 fl_8_12 rfl rfl rfl (by decide) ?_
          refine gd_getR (r := 2) dX8_of_124 fl_8_57 rfl rfl rfl (by decide) ?_
          refine gd_ild1 dX8_of_127 ?_
          refine gd_ic3 dX8_of_128 ?_
          refine gd_cV2i dX8_of_129 ct_8_117 rc_2 ⟨Nat.le_of_ble_eq_true rfl, Nat.le_of_ble_eq_true rfl⟩ (Nat.le_of_ble_eq_true rfl) (Nat.le_of_ble_eq_true rfl) (c_allHouses3 (by omega)) ?_
          refine gd_iret dX8_of_132 rfl rfl ?_
          rw [i.c.h1 _ (by omega), i.c.h1 _ (by omega), i.c.h1 _ (by omega)]
        · refine gd_ald0 dX9_of_0 (by decide) ?_
          refine gd_ild1 dX9_of_1 ?_
          refine gd_cV1i dX9_of_2 ct_9_101 rc_72 ⟨Nat.le_of_ble_eq_true rfl, Nat.le_of_ble_eq_true rfl⟩ (Nat.le_of_ble_eq_true rfl) (Nat.le_of_ble_eq_true rfl) (m_isTown_t (h := h) (by exact i.w) ht) ?_
          refine gd_if_eq_f 17 dX9_of_5 (by decide) (by decide) ?_
          refine gd_ild2 dX9_of_8 ?_
          refine gd_ic0 dX9_of_9 ?_
          refine gd_ic4 dX9_of_10 ?_
          refine gd_cS3i dX9_of_11 ct_9_79 ⟨Nat.le_of_ble_eq_true rfl, Nat.le_of_ble_eq_true rfl⟩ (Nat.le_of_ble_eq_true rfl) (Nat.le_of_ble_eq_true rfl) (m_in_t (m := 4) (by decide) (by decide) _) ?_
          refine gd_if_ne_t 23 dX9_of_14 (by decide) (by decide) ?_
          refine gd_ald0 dX9_of_23 (by decide) ?_
          refine gd_icm1 dX9_of_24 ?_
          refine gd_cV1v dX9_of_25 ct_9_109 rc_72 ⟨Nat.le_of_ble_eq_true rfl, Nat.le_of_ble_eq_true rfl⟩ (Nat.le_of_ble_eq_true rfl) (Nat.le_of_ble_eq_true rfl) (m_count i.w _) ?_
          refine gd_ic0 dX9_of_28 ?_
          refine gd_ist3 dX9_of_29 rfl ?_
          refine gd_ild2 dX9_of_30 ?_
          refine gd_if_ne_t 41 dX9_of_31 (by decide) (by decide) ?_
          refine gd_ic0 dX9_of_41 ?_
          refine gd_ist4 dX9_of_42 rfl ?_
          by_cases nz : nN (ms h) = 0
          · refine gd_ild4 dX9_of_44 ?_
            refine gd_ald0 dX9_of_46 (by decide) ?_
            refine gd_getR (r := 74) dX9_of_47 fl_9_13 rfl rfl rfl (by decide) ?_
            refine gd_ic1 dX9_of_50 ?_
            refine gd_iald (n := 5) dX9_of_51 rfl (by decide) (by repeat' (first | with_reducible rfl | apply ni_add | apply ni_mul)) (by omega) ?_
            refine gd_icmp_ge_t 105 dX9_of_52 (by decide) (by rw [eN]; exact nI_le (by omega) (by omega)) ?_
            refine gd_ic0 dX9_of_105 ?_
            refine gd_ist4 dX9_of_106 rfl ?_
            refine gd_ild4 dX9_of_108 ?_
            refine gd_ic3 dX9_of_110 ?_
            refine gd_icmp_ge_f 146 dX9_of_111 (by decide) (by decide) ?_
            refine gd_ild2 dX9_of_114 ?_
            refine gd_ic2 dX9_of_115 ?_
            refine gd_icmp_le_f 146 dX9_of_116 (by decide) (by decide) ?_
            refine gd_ild3 dX9_of_119 ?_
            refine gd_ald0 dX9_of_120 (by decide) ?_
            refine gd_getR (r := 77) dX9_of_121 fl_9_22 rfl rfl rfl (by decide) ?_
            refine gd_bipush (v := nI 6) dX9_of_124 (by decide) ?_
            refine gd_ild1 dX9_of_126 ?_
            refine gd_imul dX9_of_127 ?_
            refine gd_ic3 dX9_of_128 ?_
            refine gd_ild2 dX9_of_129 ?_
            refine gd_ic3 dX9_of_130 ?_
            refine gd_isub dX9_of_131 ?_
            refine gd_imul dX9_of_132 ?_
            refine gd_iadd dX9_of_133 ?_
            refine gd_ild4 dX9_of_134 ?_
            refine gd_iadd dX9_of_136 ?_
            refine gd_iald (n := 96) dX9_of_137 rfl (by decide) (by rw [show nI 4 - nI 3 = nI 1 by decide]; repeat' (first | with_reducible rfl | apply ni_add | apply ni_mul)) (by omega) ?_
            skip
            refine gd_iadd dX9_of_138 ?_
            refine gd_ist3 dX9_of_139 rfl ?_
            refine gd_iinc4 (b := nI 1) dX9_of_140 (by decide) rfl ?_
            refine gd_goto 108 dX9_of_143 (by decide) ?_
            refine gd_ild4 dX9_of_108 ?_
            refine gd_ic3 dX9_of_110 ?_
            refine gd_icmp_ge_f 146 dX9_of_111 (by decide) (by decide) ?_
            refine gd_ild2 dX9_of_114 ?_
            refine gd_ic2 dX9_of_115 ?_
            refine gd_icmp_le_f 146 dX9_of_116 (by decide) (by decide) ?_
            refine gd_ild3 dX9_of_119 ?_
            refine gd_ald0 dX9_of_120 (by decide) ?_
            refine gd_getR (r := 77) dX9_of_121 fl_9_22 rfl rfl rfl (by decide) ?_
            refine gd_bipush (v := nI 6) dX9_of_124 (by decide) ?_
            refine gd_ild1 dX9_of_126 ?_
            refine gd_imul dX9_of_127 ?_
            refine gd_ic3 dX9_of_128 ?_
            refine gd_ild2 dX9_of_129 ?_
            refine gd_ic3 dX9_of_130 ?_
            refine gd_isub dX9_of_131 ?_
            refine gd_imul dX9_of_132 ?_
            refine gd_iadd dX9_of_133 ?_
            refine gd_ild4 dX9_of_134 ?_
            refine gd_iadd dX9_of_136 ?_
            refine gd_iald (n := 96) dX9_of_137 rfl (by decide) (by rw [show nI 4 - nI 3 = nI 1 by decide]; repeat' (first | with_reducible rfl | apply ni_add | apply ni_mul)) (by omega) ?_
            skip
            refine gd_iadd dX9_of_138 ?_
            refine gd_ist3 dX9_of_139 rfl ?_
            refine gd_iinc4 (b := nI 1) dX9_of_140 (by decide) rfl ?_
            refine gd_goto 108 dX9_of_143 (by decide) ?_
            refine gd_ild4 dX9_of_108 ?_
            refine gd_ic3 dX9_of_110 ?_
            refine gd_icmp_ge_f 146 dX9_of_111 (by decide) (by decide) ?_
            refine gd_ild2 dX9_of_114 ?_
            refine gd_ic2 dX9_of_115 ?_
            refine gd_icmp_le_f 146 dX9_of_116 (by decide) (by decide) ?_
            refine gd_ild3 dX9_of_119 ?_
            refine gd_ald0 dX9_of_120 (by decide) ?_
            refine gd_getR (r := 77) dX9_of_121 fl_9_22 rfl rfl rfl (by decide) ?_
            refine gd_bipush (v := nI 6) dX9_of_124 (by decide) ?_
            refine gd_ild1 dX9_of_126 ?_
            refine gd_imul dX9_of_127 ?_
            refine gd_ic3 dX9_of_128 ?_
            refine gd_ild2 dX9_of_129 ?_
            refine gd_ic3 dX9_of_130 ?_
            refine gd_isub dX9_of_131 ?_
            refine gd_imul dX9_of_132 ?_
            refine gd_iadd dX9_of_133 ?_
            refine gd_ild4 dX9_of_134 ?_
            refine gd_iadd dX9_of_136 ?_
            refine gd_iald (n := 96) dX9_of_137 rfl (by decide) (by rw [show nI 4 - nI 3 = nI 1 by decide]; repeat' (first | with_reducible rfl | apply ni_add | apply ni_mul)) (by omega) ?_
            skip
            refine gd_iadd dX9_of_138 ?_
            refine gd_ist3 dX9_of_139 rfl ?_
            refine gd_iinc4 (b := nI 1) dX9_of_140 (by decide) rfl ?_
            refine gd_goto 108 dX9_of_143 (by decide) ?_
            refine gd_ild4 dX9_of_108 ?_
            refine gd_ic3 dX9_of_110 ?_
            refine gd_icmp_ge_t 146 dX9_of_111 (by decide) (by decide) ?_
            refine gd_ild3 dX9_of_146 ?_
            refine gd_iret dX9_of_147 rfl rfl ?_
            rw [show 6 * t + 3 * 1 + 0 = 6 * t + 3 by omega, show 6 * t + 3 * 1 + (0 + 1) = 6 * t + 4 by omega, show 6 * t + 3 * 1 + (0 + 1 + 1) = 6 * t + 5 by omega, show (sI h 82 (dcR (ms h) (-1) (h.1 82) (nN (ms h)))).1 77 = h.1 77 from rfl, ms_r3 (by omega), ms_r3 (by omega), ms_r3 (by omega)]
          · refine gd_ild4 dX9_of_44 ?_
            refine gd_ald0 dX9_of_46 (by decide) ?_
            refine gd_getR (r := 74) dX9_of_47 fl_9_13 rfl rfl rfl (by decide) ?_
            refine gd_ic1 dX9_of_50 ?_
            refine gd_iald (n := 5) dX9_of_51 rfl (by decide) (by repeat' (first | with_reducible rfl | apply ni_add | apply ni_mul)) (by omega) ?_
            refine gd_icmp_ge_f 105 dX9_of_52 (by decide) (by rw [eN]; exact nI_ge (by omega) (by omega)) ?_
            refine gd_ild2 dX9_of_55 ?_
            refine gd_ic3 dX9_of_56 ?_
            refine gd_icmp_ge_t 105 dX9_of_57 (by decide) (by decide) ?_
            refine gd_ic0 dX9_of_105 ?_
            refine gd_ist4 dX9_of_106 rfl ?_
            refine gd_ild4 dX9_of_108 ?_
            refine gd_ic3 dX9_of_110 ?_
            refine gd_icmp_ge_f 146 dX9_of_111 (by decide) (by decide) ?_
            refine gd_ild2 dX9_of_114 ?_
            refine gd_ic2 dX9_of_115 ?_
            refine gd_icmp_le_f 146 dX9_of_116 (by decide) (by decide) ?_
            refine gd_ild3 dX9_of_119 ?_
            refine gd_ald0 dX9_of_120 (by decide) ?_
            refine gd_getR (r := 77) dX9_of_121 fl_9_22 rfl rfl rfl (by decide) ?_
            refine gd_bipush (v := nI 6) dX9_of_124 (by decide) ?_
            refine gd_ild1 dX9_of_126 ?_
            refine gd_imul dX9_of_127 ?_
            refine gd_ic3 dX9_of_128 ?_
            refine gd_ild2 dX9_of_129 ?_
            refine gd_ic3 dX9_of_130 ?_
            refine gd_isub dX9_of_131 ?_
            refine gd_imul dX9_of_132 ?_
            refine gd_iadd dX9_of_133 ?_
            refine gd_ild4 dX9_of_134 ?_
            refine gd_iadd dX9_of_136 ?_
            refine gd_iald (n := 96) dX9_of_137 rfl (by decide) (by rw [show nI 4 - nI 3 = nI 1 by decide]; repeat' (first | with_reducible rfl | apply ni_add | apply ni_mul)) (by omega) ?_
            skip
            refine gd_iadd dX9_of_138 ?_
            refine gd_ist3 dX9_of_139 rfl ?_
            refine gd_iinc4 (b := nI 1) dX9_of_140 (by decide) rfl ?_
            refine gd_goto 108 dX9_of_143 (by decide) ?_
            refine gd_ild4 dX9_of_108 ?_
            refine gd_ic3 dX9_of_110 ?_
            refine gd_icmp_ge_f 146 dX9_of_111 (by decide) (by decide) ?_
            refine gd_ild2 dX9_of_114 ?_
            refine gd_ic2 dX9_of_115 ?_
            refine gd_icmp_le_f 146 dX9_of_116 (by decide) (by decide) ?_
            refine gd_ild3 dX9_of_119 ?_
            refine gd_ald0 dX9_of_120 (by decide) ?_
            refine gd_getR (r := 77) dX9_of_121 fl_9_22 rfl rfl rfl (by decide) ?_
            refine gd_bipush (v := nI 6) dX9_of_124 (by decide) ?_
            refine gd_ild1 dX9_of_126 ?_
            refine gd_imul dX9_of_127 ?_
            refine gd_ic3 dX9_of_128 ?_
            refine gd_ild2 dX9_of_129 ?_
            refine gd_ic3 dX9_of_130 ?_
            refine gd_isub dX9_of_131 ?_
            refine gd_imul dX9_of_132 ?_
            refine gd_iadd dX9_of_133 ?_
            refine gd_ild4 dX9_of_134 ?_
            refine gd_iadd dX9_of_136 ?_
            refine gd_iald (n := 96) dX9_of_137 rfl (by decide) (by rw [show nI 4 - nI 3 = nI 1 by decide]; repeat' (first | with_reducible rfl | apply ni_add | apply ni_mul)) (by omega) ?_
            skip
            refine gd_iadd dX9_of_138 ?_
            refine gd_ist3 dX9_of_139 rfl ?_
            refine gd_iinc4 (b := nI 1) dX9_of_140 (by decide) rfl ?_
            refine gd_goto 108 dX9_of_143 (by decide) ?_
            refine gd_ild4 dX9_of_108 ?_
            refine gd_ic3 dX9_of_110 ?_
            refine gd_icmp_ge_f 146 dX9_of_111 (by decide) (by decide) ?_
            refine gd_ild2 dX9_of_114 ?_
            refine gd_ic2 dX9_of_115 ?_
            refine gd_icmp_le_f 146 dX9_of_116 (by decide) (by decide) ?_
            refine gd_ild3 dX9_of_119 ?_
            refine gd_ald0 dX9_of_120 (by decide) ?_
            refine gd_getR (r := 77) dX9_of_121 fl_9_22 rfl rfl rfl (by decide) ?_
            refine gd_bipush (v := nI 6) dX9_of_124 (by decide) ?_
            refine gd_ild1 dX9_of_126 ?_
            refine gd_imul dX9_of_127 ?_
            refine gd_ic3 dX9_of_128 ?_
            refine gd_ild2 dX9_of_129 ?_
            refine gd_ic3 dX9_of_130 ?_
            refine gd_isub dX9_of_131 ?_
            refine gd_imul dX9_of_132 ?_
            refine gd_iadd dX9_of_133 ?_
            refine gd_ild4 dX9_of_134 ?_
            refine gd_iadd dX9_of_136 ?_
            refine gd_iald (n := 96) dX9_of_137 rfl (by decide) (by rw [show nI 4 - nI 3 = nI 1 by decide]; repeat' (first | with_reducible rfl | apply ni_add | apply ni_mul)) (by omega) ?_
            skip
            refine gd_iadd dX9_of_138 ?_
            refine gd_ist3 dX9_of_139 rfl ?_
            refine gd_iinc4 (b := nI 1) dX9_of_140 (by decide) rfl ?_
            refine gd_goto 108 dX9_of_143 (by decide) ?_
            refine gd_ild4 dX9_of_108 ?_
            refine gd_ic3 dX9_of_110 ?_
            refine gd_icmp_ge_t 146 dX9_of_111 (by decide) (by decide) ?_
            refine gd_ild3 dX9_of_146 ?_
            refine gd_iret dX9_of_147 rfl rfl ?_
            rw [show 6 * t + 3 * 1 + 0 = 6 * t + 3 by omega, show 6 * t + 3 * 1 + (0 + 1) = 6 * t + 4 by omega, show 6 * t + 3 * 1 + (0 + 1 + 1) = 6 * t + 5 by omega, show (sI h 82 (dcR (ms h) (-1) (h.1 82) (nN (ms h)))).1 77 = h.1 77 from rfl, ms_r3 (by omega), ms_r3 (by omega), ms_r3 (by omega)]
    · refine Pas.find (h1 := h) (h2 := hf (h) 0) (v := -1000000001) (w := (-1000000000 : Int32) - nI 1) 0 i (by decide) (by decide) (by decide) (Same.rf _) (Same.rf _) ?_ ?_
      · refine gd_ald0 dX8_of_0 (by decide) ?_
        refine gd_ild1 dX8_of_1 ?_
        refine gd_cV1i dX8_of_2 ct_8_74 rc_0 ⟨Nat.le_of_ble_eq_true rfl, Nat.le_of_ble_eq_true rfl⟩ (Nat.le_of_ble_eq_true rfl) (Nat.le_of_ble_eq_true rfl) (c_isTown_t i.w i.c ht) ?_
        refine gd_if_ne_t 15 dX8_of_5 (by decide) (by decide) ?_
        refine gd_ild2 dX8_of_15 ?_
        refine gd_tabOut 133 dX8_of_16 (rng_out (n := 5) (ha := hb)) (by decide) ?_
        refine gd_ald0 dX8_of_133 (by decide) ?_
        refine gd_ldc dX8_of_134 ld_8_52 ?_
        refine gd_cV1i dX8_of_136 ct_8_53 rc_0 ⟨Nat.le_of_ble_eq_true rfl, Nat.le_of_ble_eq_true rfl⟩ (Nat.le_of_ble_eq_true rfl) (Nat.le_of_ble_eq_true rfl) (c_f0 _) ?_
        refine gd_iret dX8_of_139 rfl rfl ?_
        rfl
      · refine gd_ald0 dX9_of_0 (by decide) ?_
        refine gd_ild1 dX9_of_1 ?_
        refine gd_cV1i dX9_of_2 ct_9_101 rc_72 ⟨Nat.le_of_ble_eq_true rfl, Nat.le_of_ble_eq_true rfl⟩ (Nat.le_of_ble_eq_true rfl) (Nat.le_of_ble_eq_true rfl) (m_isTown_t (h := hf h 0) (by exact i.w) ht) ?_
        refine gd_if_eq_f 17 dX9_of_5 (by decide) (by decide) ?_
        refine gd_ild2 dX9_of_8 ?_
        refine gd_ic0 dX9_of_9 ?_
        refine gd_ic4 dX9_of_10 ?_
        refine gd_cS3i dX9_of_11 ct_9_79 ⟨Nat.le_of_ble_eq_true rfl, Nat.le_of_ble_eq_true rfl⟩ (Nat.le_of_ble_eq_true rfl) (Nat.le_of_ble_eq_true rfl) (m_in_f (n := 5) (by decide) (by decide) hb _) ?_
        refine gd_if_ne_f 23 dX9_of_14 (by decide) (by decide) ?_
        refine gd_ald0 dX9_of_17 (by decide) ?_
        refine gd_ic1 dX9_of_18 ?_
        refine gd_cV1i dX9_of_19 ct_9_97 rc_72 ⟨Nat.le_of_ble_eq_true rfl, Nat.le_of_ble_eq_true rfl⟩ (Nat.le_of_ble_eq_true rfl) (Nat.le_of_ble_eq_true rfl) (m_f0 _) ?_
        refine gd_iret dX9_of_22 rfl rfl ?_
        rfl
  · refine Pas.find (h1 := h) (h2 := hf (h) 0) (v := -1000000001) (w := (-1000000000 : Int32) - nI 1) 0 i (by decide) (by decide) (by decide) (Same.rf _) (Same.rf _) ?_ ?_
    · refine gd_ald0 dX8_of_0 (by decide) ?_
      refine gd_ild1 dX8_of_1 ?_
      refine gd_cV1i dX8_of_2 ct_8_74 rc_0 ⟨Nat.le_of_ble_eq_true rfl, Nat.le_of_ble_eq_true rfl⟩ (Nat.le_of_ble_eq_true rfl) (Nat.le_of_ble_eq_true rfl) (c_isTown_f i.w i.c ha) ?_
      refine gd_if_ne_f 15 dX8_of_5 (by decide) (by decide) ?_
      refine gd_ald0 dX8_of_8 (by decide) ?_
      refine gd_ldc dX8_of_9 ld_8_52 ?_
      refine gd_cV1i dX8_of_11 ct_8_53 rc_0 ⟨Nat.le_of_ble_eq_true rfl, Nat.le_of_ble_eq_true rfl⟩ (Nat.le_of_ble_eq_true rfl) (Nat.le_of_ble_eq_true rfl) (c_f0 _) ?_
      refine gd_iret dX8_of_14 rfl rfl ?_
      rfl
    · refine gd_ald0 dX9_of_0 (by decide) ?_
      refine gd_ild1 dX9_of_1 ?_
      refine gd_cV1i dX9_of_2 ct_9_101 rc_72 ⟨Nat.le_of_ble_eq_true rfl, Nat.le_of_ble_eq_true rfl⟩ (Nat.le_of_ble_eq_true rfl) (Nat.le_of_ble_eq_true rfl) (m_isTown_f (h := hf h 0) (by exact i.w) ha) ?_
      refine gd_if_eq_t 17 dX9_of_5 (by decide) (by decide) ?_
      refine gd_ald0 dX9_of_17 (by decide) ?_
      refine gd_ic1 dX9_of_18 ?_
      refine gd_cV1i dX9_of_19 ct_9_97 rc_72 ⟨Nat.le_of_ble_eq_true rfl, Nat.le_of_ble_eq_true rfl⟩ (Nat.le_of_ble_eq_true rfl) (Nat.le_of_ble_eq_true rfl) (m_f0 _) ?_
      refine gd_iret dX9_of_22 rfl rfl ?_
      rfl
