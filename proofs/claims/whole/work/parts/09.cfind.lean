/-! ===== the class: what its acts ask of their arguments ===== -/
theorem c_isBelow (a b : Int32) (h : Hp) : Gd mX8_isBelow 0 [.int a, .int b] [] h (some (.int (bi (decide (0 ≤ a ∧ a < b)))), h) := by
  refine gd_ild0 dX8_isBelow_0 ?_
  refine gd_if_lt 13 dX8_isBelow_1 (by decide) (fun c1 => ?_) (fun c1 => ?_)
  · refine gd_ic0 dX8_isBelow_13 ?_
    refine gd_iret dX8_isBelow_14 rfl (by first | rfl | decide | exact nar_bi _ | assumption) ?_
    rw [show decide (0 ≤ a ∧ a < b) = false from decide_eq_false (fun z => absurd z.1 (Int32.not_le.mpr c1))]; rfl
  · refine gd_ild0 dX8_isBelow_4 ?_
    refine gd_ild1 dX8_isBelow_5 ?_
    refine gd_icmp_ge 13 dX8_isBelow_6 (by decide) (fun c6 => ?_) (fun c6 => ?_)
    · refine gd_ic0 dX8_isBelow_13 ?_
      refine gd_iret dX8_isBelow_14 rfl (by first | rfl | decide | exact nar_bi _ | assumption) ?_
      rw [show decide (0 ≤ a ∧ a < b) = false from decide_eq_false (fun z => absurd z.2 (Int32.not_lt.mpr c6))]; rfl
    · refine gd_ic1 dX8_isBelow_9 ?_
      refine gd_goto 14 dX8_isBelow_10 (by decide) ?_
      refine gd_iret dX8_isBelow_14 rfl (by first | rfl | decide | exact nar_bi _ | assumption) ?_
      rw [show decide (0 ≤ a ∧ a < b) = true from decide_eq_true ⟨Int32.not_lt.mp c1, Int32.not_le.mp c6⟩]; rfl

theorem c_isBelow_t {t n : Nat} (ht : t < n) (hn : n < 2 ^ 31) (h : Hp) : Gd mX8_isBelow 0 [.int (nI t), .int (nI n)] [] h (some (.int (nI 1)), h) := by
  have := c_isBelow (nI t) (nI n) h
  rwa [decide_eq_true (rng_in ht hn)] at this
theorem c_isBelow_f {a b : Int32} (ha : ¬ (0 ≤ a ∧ a < b)) (h : Hp) : Gd mX8_isBelow 0 [.int a, .int b] [] h (some (.int (nI 0)), h) := by
  have := c_isBelow a b h
  rwa [decide_eq_false ha] at this
theorem fi_ix {j : Nat} (hj : j < 7) : (-1000000001 : Int32) - ((-1000000001 : Int32) - nI j) = nI j := by
  have : ∀ j, j < 7 → (-1000000001 : Int32) - ((-1000000001 : Int32) - nI j) = nI j := by decide
  exact this j hj
def hf (h : Hp) (j : Nat) : Hp := sI h 71 (upd (h.1 71) j (h.1 71 j + nI 1))
theorem c_finding {j : Nat} (hj : j < 7) (h : Hp) : Gd mX8_finding 0 [.ref 0, .int ((-1000000001 : Int32) - nI j), .null] [] h (some (.int ((-1000000001 : Int32) - nI j)), hf h j) := by
  refine gd_ldc dX8_finding_0 ld_8_52 ?_
  refine gd_ild1 dX8_finding_2 ?_
  refine gd_isub dX8_finding_3 ?_
  rw [fi_ix hj]
  refine gd_ist2 dX8_finding_4 rfl ?_
  refine gd_ild2 dX8_finding_5 ?_
  refine gd_bipush (v := nI 7) dX8_finding_6 (by decide) ?_
  refine gd_cS2i dX8_finding_8 ct_8_48 ⟨Nat.le_of_ble_eq_true rfl, Nat.le_of_ble_eq_true rfl⟩ (Nat.le_of_ble_eq_true rfl) (Nat.le_of_ble_eq_true rfl) (c_isBelow_t (n := 7) hj (by decide) _) ?_
  refine gd_if_eq_f 24 dX8_finding_11 (by decide) (by decide) ?_
  refine gd_ald0 dX8_finding_14 (by decide) ?_
  refine gd_getR (r := 71) dX8_finding_15 fl_8_44 rfl rfl rfl (by decide) ?_
  refine gd_ild2 dX8_finding_18 ?_
  refine gd_dup2 (by decide) dX8_finding_19 ?_
  refine gd_iald (n := 7) dX8_finding_20 rfl (by decide) (by repeat (first | with_reducible rfl | refine ni_add ?_ ?_ | refine ni_mul ?_ ?_)) (by omega) ?_
  refine gd_ic1 dX8_finding_21 ?_
  refine gd_iadd dX8_finding_22 ?_
  refine gd_iast (n := 7) dX8_finding_23 rfl (by decide) (by repeat (first | with_reducible rfl | refine ni_add ?_ ?_ | refine ni_mul ?_ ?_)) (by omega) ?_
  refine gd_ild1 dX8_finding_24 ?_
  refine gd_iret dX8_finding_25 rfl rfl ?_
  rfl

theorem c_f0 (h : Hp) : Gd mX8_finding 0 [.ref 0, .int (-1000000001), .null] [] h (some (.int (-1000000001)), hf h 0) := by
  have := c_finding (j := 0) (by decide) h
  rwa [show (-1000000001 : Int32) - nI 0 = -1000000001 by decide] at this
theorem c_f1 (h : Hp) : Gd mX8_finding 0 [.ref 0, .int (-1000000002), .null] [] h (some (.int (-1000000002)), hf h 1) := by
  have := c_finding (j := 1) (by decide) h
  rwa [show (-1000000001 : Int32) - nI 1 = -1000000002 by decide] at this
theorem c_f2 (h : Hp) : Gd mX8_finding 0 [.ref 0, .int (-1000000003), .null] [] h (some (.int (-1000000003)), hf h 2) := by
  have := c_finding (j := 2) (by decide) h
  rwa [show (-1000000001 : Int32) - nI 2 = -1000000003 by decide] at this
theorem c_f3 (h : Hp) : Gd mX8_finding 0 [.ref 0, .int (-1000000004), .null] [] h (some (.int (-1000000004)), hf h 3) := by
  have := c_finding (j := 3) (by decide) h
  rwa [show (-1000000001 : Int32) - nI 3 = -1000000004 by decide] at this
theorem c_f4 (h : Hp) : Gd mX8_finding 0 [.ref 0, .int (-1000000005), .null] [] h (some (.int (-1000000005)), hf h 4) := by
  have := c_finding (j := 4) (by decide) h
  rwa [show (-1000000001 : Int32) - nI 4 = -1000000005 by decide] at this
theorem c_f5 (h : Hp) : Gd mX8_finding 0 [.ref 0, .int (-1000000006), .null] [] h (some (.int (-1000000006)), hf h 5) := by
  have := c_finding (j := 5) (by decide) h
  rwa [show (-1000000001 : Int32) - nI 5 = -1000000006 by decide] at this
theorem c_f6 (h : Hp) : Gd mX8_finding 0 [.ref 0, .int (-1000000007), .null] [] h (some (.int (-1000000007)), hf h 6) := by
  have := c_finding (j := 6) (by decide) h
  rwa [show (-1000000001 : Int32) - nI 6 = -1000000007 by decide] at this
