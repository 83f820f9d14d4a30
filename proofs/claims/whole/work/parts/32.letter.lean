
theorem upd_ss (f : Nat → Int32) (k : Nat) (v : Int32) : upd f k v k = v := if_pos rfl
theorem ngO (a : Int32) : a < 0 ∨ ∃ n, n < 2 ^ 31 ∧ a = nI n := by
  by_cases h : a < 0
  · exact Or.inl h
  · right
    have h1 : (0 : Int32) ≤ a := Int32.not_lt.mp h
    rw [Int32.le_iff_toInt_le, show (0 : Int32).toInt = 0 by decide] at h1
    have h2 := a.toInt_lt
    refine ⟨a.toInt.toNat, by omega, ?_⟩
    apply Int32.toInt_inj.mp
    rw [nI_toInt (by omega)]; omega
theorem rng_nI {t n : Nat} (h : ¬ t < n) (ht : t < 2 ^ 31) : ¬ (0 ≤ nI t ∧ nI t < nI n) := fun z => nI_nlt (by omega) ht z.2
theorem rng_big {a : Int32} {n : Nat} (hn : n < 2 ^ 31) (h : ¬ (0 ≤ a ∧ a < nI n)) : a < 0 ∨ ∃ m, n ≤ m ∧ m < 2 ^ 31 ∧ a = nI m := by
  rcases ngO a with h1 | ⟨m, hm, rfl⟩
  · exact Or.inl h1
  · right
    by_cases q : n ≤ m
    · exact ⟨m, q, hm, rfl⟩
    · exact absurd (rng_in (by omega) hn) h
/-- can letter number d be the source of a letter of kind k -/
def isL (s : Nat → Nat → Int32) (d : Int32) : Bool := decide (0 ≤ d ∧ d < nI (nN s))
def frB (s : Nat → Nat → Int32) (k : Nat) (d : Int32) : Bool := if k = 3 then isL s d else (decide (d = -1) || (decide (k = 2) && isL s d))
theorem c_isLet {h : Hp} (w : WF (ms h)) (c : CR h 1 (ms h)) (d : Int32) : Gd mX8_isLetter 0 [.ref 0, .int d] [] h (some (.int (bi (isL (ms h) d))), h) := by
  unfold isL
  have lN := w.n.2
  rcases rng d (nN (ms h)) (by omega) with ⟨t, ht, rfl⟩ | hd
  · rw [decide_eq_true (rng_in ht (by omega))]; exact c_isLetter_t w c ht
  · rw [decide_eq_false hd]; exact c_isLetter_f w c hd
theorem m_isLet {h : Hp} (w : WF (ms h)) (d : Int32) : Gd mX9_isLetter 0 [.ref 72, .int d] [] h (some (.int (bi (isL (ms h) d))), h) := by
  unfold isL
  have lN := w.n.2
  rcases rng d (nN (ms h)) (by omega) with ⟨t, ht, rfl⟩ | hd
  · rw [decide_eq_true (rng_in ht (by omega))]; exact m_isLetter_t w ht
  · rw [decide_eq_false hd]; exact m_isLetter_f w hd
theorem c_isAbout_n {h : Hp} (w : WF (ms h)) (c : CR h 1 (ms h)) {b : Int32} (hb : b < 0) : Gd mX8_isAbout 0 [.ref 0, .int b] [] h (some (.int (nI 0)), h) := by
  refine gd_ild1 dX8_isAbout_0 ?_
  refine gd_if_lt_t 28 dX8_isAbout_1 (by decide) (hb) ?_
  refine gd_ic0 dX8_isAbout_28 ?_
  refine gd_iret dX8_isAbout_29 rfl (by first | rfl | decide | exact nar_bi _ | assumption) ?_
  rfl
theorem c_isAbout_o {h : Hp} (w : WF (ms h)) (c : CR h 1 (ms h)) {n : Nat} (hn : n < 2 ^ 31) (ho : ¬ n / 100 < nT (ms h)) : Gd mX8_isAbout 0 [.ref 0, .int (nI n)] [] h (some (.int (nI 0)), h) := by
  refine gd_ild1 dX8_isAbout_0 ?_
  refine gd_if_lt_f 28 dX8_isAbout_1 (by decide) (by exact nI_pos (by omega)) ?_
  refine gd_ald0 dX8_isAbout_4 (by decide) ?_
  refine gd_ild1 dX8_isAbout_5 ?_
  refine gd_bipush (v := nI 100) dX8_isAbout_6 (by decide) ?_
  refine gd_idiv dX8_isAbout_8 (by decide) ?_
  rw [pk_div hn (by decide) (by decide)]
  refine gd_cV1i dX8_isAbout_9 ct_8_74 rc_0 ⟨Nat.le_of_ble_eq_true rfl, Nat.le_of_ble_eq_true rfl⟩ (Nat.le_of_ble_eq_true rfl) (Nat.le_of_ble_eq_true rfl) (c_isTown_f w c (rng_nI ho (by omega))) ?_
  refine gd_if_eq_t 28 dX8_isAbout_12 (by decide) (by decide) ?_
  refine gd_ic0 dX8_isAbout_28 ?_
  refine gd_iret dX8_isAbout_29 rfl (by first | rfl | decide | exact nar_bi _ | assumption) ?_
  rfl
theorem c_isAbout_w {h : Hp} (w : WF (ms h)) (c : CR h 1 (ms h)) {n : Nat} (hn : n < 2 ^ 31) (ho : n / 100 < nT (ms h)) (hw : ¬ n % 100 < 16) : Gd mX8_isAbout 0 [.ref 0, .int (nI n)] [] h (some (.int (nI 0)), h) := by
  refine gd_ild1 dX8_isAbout_0 ?_
  refine gd_if_lt_f 28 dX8_isAbout_1 (by decide) (by exact nI_pos (by omega)) ?_
  refine gd_ald0 dX8_isAbout_4 (by decide) ?_
  refine gd_ild1 dX8_isAbout_5 ?_
  refine gd_bipush (v := nI 100) dX8_isAbout_6 (by decide) ?_
  refine gd_idiv dX8_isAbout_8 (by decide) ?_
  rw [pk_div hn (by decide) (by decide)]
  refine gd_cV1i dX8_isAbout_9 ct_8_74 rc_0 ⟨Nat.le_of_ble_eq_true rfl, Nat.le_of_ble_eq_true rfl⟩ (Nat.le_of_ble_eq_true rfl) (Nat.le_of_ble_eq_true rfl) (c_isTown_t w c ho) ?_
  refine gd_if_eq_f 28 dX8_isAbout_12 (by decide) (by decide) ?_
  refine gd_ild1 dX8_isAbout_15 ?_
  refine gd_bipush (v := nI 100) dX8_isAbout_16 (by decide) ?_
  refine gd_irem dX8_isAbout_18 (by decide) ?_
  rw [pk_rem hn (by decide) (by decide)]
  refine gd_bipush (v := nI 16) dX8_isAbout_19 (by decide) ?_
  refine gd_icmp_ge_t 28 dX8_isAbout_21 (by decide) (by exact nI_le (by omega) (by omega)) ?_
  refine gd_ic0 dX8_isAbout_28 ?_
  refine gd_iret dX8_isAbout_29 rfl (by first | rfl | decide | exact nar_bi _ | assumption) ?_
  rfl
theorem c_isAbout_t {h : Hp} (w : WF (ms h)) (c : CR h 1 (ms h)) {n : Nat} (hn : n < 2 ^ 31) (ho : n / 100 < nT (ms h)) (hw : n % 100 < 16) : Gd mX8_isAbout 0 [.ref 0, .int (nI n)] [] h (some (.int (nI 1)), h) := by
  refine gd_ild1 dX8_isAbout_0 ?_
  refine gd_if_lt_f 28 dX8_isAbout_1 (by decide) (by exact nI_pos (by omega)) ?_
  refine gd_ald0 dX8_isAbout_4 (by decide) ?_
  refine gd_ild1 dX8_isAbout_5 ?_
  refine gd_bipush (v := nI 100) dX8_isAbout_6 (by decide) ?_
  refine gd_idiv dX8_isAbout_8 (by decide) ?_
  rw [pk_div hn (by decide) (by decide)]
  refine gd_cV1i dX8_isAbout_9 ct_8_74 rc_0 ⟨Nat.le_of_ble_eq_true rfl, Nat.le_of_ble_eq_true rfl⟩ (Nat.le_of_ble_eq_true rfl) (Nat.le_of_ble_eq_true rfl) (c_isTown_t w c ho) ?_
  refine gd_if_eq_f 28 dX8_isAbout_12 (by decide) (by decide) ?_
  refine gd_ild1 dX8_isAbout_15 ?_
  refine gd_bipush (v := nI 100) dX8_isAbout_16 (by decide) ?_
  refine gd_irem dX8_isAbout_18 (by decide) ?_
  rw [pk_rem hn (by decide) (by decide)]
  refine gd_bipush (v := nI 16) dX8_isAbout_19 (by decide) ?_
  refine gd_icmp_ge_f 28 dX8_isAbout_21 (by decide) (by exact nI_ge (by omega) (by omega)) ?_
  refine gd_ic1 dX8_isAbout_24 ?_
  refine gd_goto 29 dX8_isAbout_25 (by decide) ?_
  refine gd_iret dX8_isAbout_29 rfl (by first | rfl | decide | exact nar_bi _ | assumption) ?_
  rfl
theorem c_isWhen_t {n : Nat} (hn : n < 9995) (h4 : n % 10 ≤ 4) (h : Hp) : Gd mX8_isWhen 0 [.int (nI n)] [] h (some (.int (nI 1)), h) := by
  refine gd_ild0 dX8_isWhen_0 ?_
  refine gd_if_lt_f 26 dX8_isWhen_1 (by decide) (by exact nI_pos (by omega)) ?_
  refine gd_ild0 dX8_isWhen_4 ?_
  refine gd_bipush (v := nI 10) dX8_isWhen_5 (by decide) ?_
  refine gd_idiv dX8_isWhen_7 (by decide) ?_
  rw [pk_div (by omega) (by decide) (by decide)]
  refine gd_sipush (v := nI 999) dX8_isWhen_8 (by decide) ?_
  refine gd_icmp_gt_f 26 dX8_isWhen_11 (by decide) (by exact nI_nlt (by omega) (by omega)) ?_
  refine gd_ild0 dX8_isWhen_14 ?_
  refine gd_bipush (v := nI 10) dX8_isWhen_15 (by decide) ?_
  refine gd_irem dX8_isWhen_17 (by decide) ?_
  rw [pk_rem (by omega) (by decide) (by decide)]
  refine gd_ic4 dX8_isWhen_18 ?_
  refine gd_icmp_gt_f 26 dX8_isWhen_19 (by decide) (by exact nI_nlt (by omega) (by omega)) ?_
  refine gd_ic1 dX8_isWhen_22 ?_
  refine gd_goto 27 dX8_isWhen_23 (by decide) ?_
  refine gd_iret dX8_isWhen_27 rfl (by first | rfl | decide | exact nar_bi _ | assumption) ?_
  rfl
theorem c_isWhen_r {n : Nat} (hn : n < 9995) (h4 : ¬ n % 10 ≤ 4) (h : Hp) : Gd mX8_isWhen 0 [.int (nI n)] [] h (some (.int (nI 0)), h) := by
  refine gd_ild0 dX8_isWhen_0 ?_
  refine gd_if_lt_f 26 dX8_isWhen_1 (by decide) (by exact nI_pos (by omega)) ?_
  refine gd_ild0 dX8_isWhen_4 ?_
  refine gd_bipush (v := nI 10) dX8_isWhen_5 (by decide) ?_
  refine gd_idiv dX8_isWhen_7 (by decide) ?_
  rw [pk_div (by omega) (by decide) (by decide)]
  refine gd_sipush (v := nI 999) dX8_isWhen_8 (by decide) ?_
  refine gd_icmp_gt_f 26 dX8_isWhen_11 (by decide) (by exact nI_nlt (by omega) (by omega)) ?_
  refine gd_ild0 dX8_isWhen_14 ?_
  refine gd_bipush (v := nI 10) dX8_isWhen_15 (by decide) ?_
  refine gd_irem dX8_isWhen_17 (by decide) ?_
  rw [pk_rem (by omega) (by decide) (by decide)]
  refine gd_ic4 dX8_isWhen_18 ?_
  refine gd_icmp_gt_t 26 dX8_isWhen_19 (by decide) (by exact nI_lt (by omega) (by omega)) ?_
  refine gd_ic0 dX8_isWhen_26 ?_
  refine gd_iret dX8_isWhen_27 rfl (by first | rfl | decide | exact nar_bi _ | assumption) ?_
  rfl
theorem c_isWhen_f {c : Int32} (hc : ¬ (0 ≤ c ∧ c < nI 9995)) (h : Hp) : Gd mX8_isWhen 0 [.int c] [] h (some (.int (nI 0)), h) := by
  rcases rng_big (by decide) hc with hb | ⟨m, h1, h2, rfl⟩
  · refine gd_ild0 dX8_isWhen_0 ?_
    refine gd_if_lt_t 26 dX8_isWhen_1 (by decide) (hb) ?_
    refine gd_ic0 dX8_isWhen_26 ?_
    refine gd_iret dX8_isWhen_27 rfl (by first | rfl | decide | exact nar_bi _ | assumption) ?_
    rfl
  · by_cases hd : m / 10 ≤ 999
    · refine gd_ild0 dX8_isWhen_0 ?_
      refine gd_if_lt_f 26 dX8_isWhen_1 (by decide) (by exact nI_pos (by omega)) ?_
      refine gd_ild0 dX8_isWhen_4 ?_
      refine gd_bipush (v := nI 10) dX8_isWhen_5 (by decide) ?_
      refine gd_idiv dX8_isWhen_7 (by decide) ?_
      rw [pk_div (by omega) (by decide) (by decide)]
      refine gd_sipush (v := nI 999) dX8_isWhen_8 (by decide) ?_
      refine gd_icmp_gt_f 26 dX8_isWhen_11 (by decide) (by exact nI_nlt (by omega) (by omega)) ?_
      refine gd_ild0 dX8_isWhen_14 ?_
      refine gd_bipush (v := nI 10) dX8_isWhen_15 (by decide) ?_
      refine gd_irem dX8_isWhen_17 (by decide) ?_
      rw [pk_rem (by omega) (by decide) (by decide)]
      refine gd_ic4 dX8_isWhen_18 ?_
      refine gd_icmp_gt_t 26 dX8_isWhen_19 (by decide) (by exact nI_lt (by omega) (by omega)) ?_
      refine gd_ic0 dX8_isWhen_26 ?_
      refine gd_iret dX8_isWhen_27 rfl (by first | rfl | decide | exact nar_bi _ | assumption) ?_
      rfl
    · refine gd_ild0 dX8_isWhen_0 ?_
      refine gd_if_lt_f 26 dX8_isWhen_1 (by decide) (by exact nI_pos (by omega)) ?_
      refine gd_ild0 dX8_isWhen_4 ?_
      refine gd_bipush (v := nI 10) dX8_isWhen_5 (by decide) ?_
      refine gd_idiv dX8_isWhen_7 (by decide) ?_
      rw [pk_div (by omega) (by decide) (by decide)]
      refine gd_sipush (v := nI 999) dX8_isWhen_8 (by decide) ?_
      refine gd_icmp_gt_t 26 dX8_isWhen_11 (by decide) (by exact nI_lt (by omega) (by omega)) ?_
      refine gd_ic0 dX8_isWhen_26 ?_
      refine gd_iret dX8_isWhen_27 rfl (by first | rfl | decide | exact nar_bi _ | assumption) ?_
      rfl
theorem c_isLate_t {k n m : Nat} (hm : (k = 4 ∧ m = 5) ∨ (k ≠ 4 ∧ m = 0)) (hk : k < 6) (hn : n < 996) (h4 : n % 10 ≤ m) (h : Hp) : Gd mX8_isLate 0 [.int (nI k), .int (nI n)] [] h (some (.int (nI 1)), h) := by
  rcases hm with ⟨rfl, rfl⟩ | ⟨k4, rfl⟩
  · refine gd_ild1 dX8_isLate_0 ?_
    refine gd_if_lt_f 34 dX8_isLate_1 (by decide) (by exact nI_pos (by omega)) ?_
    refine gd_ild1 dX8_isLate_4 ?_
    refine gd_bipush (v := nI 10) dX8_isLate_5 (by decide) ?_
    refine gd_idiv dX8_isLate_7 (by decide) ?_
    rw [pk_div (by omega) (by decide) (by decide)]
    refine gd_bipush (v := nI 99) dX8_isLate_8 (by decide) ?_
    refine gd_icmp_gt_f 34 dX8_isLate_10 (by decide) (by exact nI_nlt (by omega) (by omega)) ?_
    refine gd_ild1 dX8_isLate_13 ?_
    refine gd_bipush (v := nI 10) dX8_isLate_14 (by decide) ?_
    refine gd_irem dX8_isLate_16 (by decide) ?_
    rw [pk_rem (by omega) (by decide) (by decide)]
    refine gd_ild0 dX8_isLate_17 ?_
    refine gd_ic4 dX8_isLate_18 ?_
    refine gd_icmp_ne_f 26 dX8_isLate_19 (by decide) (by decide) ?_
    refine gd_ic5 dX8_isLate_22 ?_
    refine gd_goto 27 dX8_isLate_23 (by decide) ?_
    refine gd_icmp_gt_f 34 dX8_isLate_27 (by decide) (by exact nI_nlt (by omega) (by omega)) ?_
    refine gd_ic1 dX8_isLate_30 ?_
    refine gd_goto 35 dX8_isLate_31 (by decide) ?_
    refine gd_iret dX8_isLate_35 rfl (by first | rfl | decide | exact nar_bi _ | assumption) ?_
    rfl
  · refine gd_ild1 dX8_isLate_0 ?_
    refine gd_if_lt_f 34 dX8_isLate_1 (by decide) (by exact nI_pos (by omega)) ?_
    refine gd_ild1 dX8_isLate_4 ?_
    refine gd_bipush (v := nI 10) dX8_isLate_5 (by decide) ?_
    refine gd_idiv dX8_isLate_7 (by decide) ?_
    rw [pk_div (by omega) (by decide) (by decide)]
    refine gd_bipush (v := nI 99) dX8_isLate_8 (by decide) ?_
    refine gd_icmp_gt_f 34 dX8_isLate_10 (by decide) (by exact nI_nlt (by omega) (by omega)) ?_
    refine gd_ild1 dX8_isLate_13 ?_
    refine gd_bipush (v := nI 10) dX8_isLate_14 (by decide) ?_
    refine gd_irem dX8_isLate_16 (by decide) ?_
    rw [pk_rem (by omega) (by decide) (by decide)]
    refine gd_ild0 dX8_isLate_17 ?_
    refine gd_ic4 dX8_isLate_18 ?_
    refine gd_icmp_ne_t 26 dX8_isLate_19 (by decide) (by exact fun z => absurd ((nI_eq (by omega) (by omega)).mp z) (by omega)) ?_
    refine gd_ic0 dX8_isLate_26 ?_
    refine gd_icmp_gt_f 34 dX8_isLate_27 (by decide) (by exact nI_nlt (by omega) (by omega)) ?_
    refine gd_ic1 dX8_isLate_30 ?_
    refine gd_goto 35 dX8_isLate_31 (by decide) ?_
    refine gd_iret dX8_isLate_35 rfl (by first | rfl | decide | exact nar_bi _ | assumption) ?_
    rfl
theorem c_isLate_r {k n m : Nat} (hm : (k = 4 ∧ m = 5) ∨ (k ≠ 4 ∧ m = 0)) (hk : k < 6) (hn : n < 996) (h4 : ¬ n % 10 ≤ m) (h : Hp) : Gd mX8_isLate 0 [.int (nI k), .int (nI n)] [] h (some (.int (nI 0)), h) := by
  rcases hm with ⟨rfl, rfl⟩ | ⟨k4, rfl⟩
  · refine gd_ild1 dX8_isLate_0 ?_
    refine gd_if_lt_f 34 dX8_isLate_1 (by decide) (by exact nI_pos (by omega)) ?_
    refine gd_ild1 dX8_isLate_4 ?_
    refine gd_bipush (v := nI 10) dX8_isLate_5 (by decide) ?_
    refine gd_idiv dX8_isLate_7 (by decide) ?_
    rw [pk_div (by omega) (by decide) (by decide)]
    refine gd_bipush (v := nI 99) dX8_isLate_8 (by decide) ?_
    refine gd_icmp_gt_f 34 dX8_isLate_10 (by decide) (by exact nI_nlt (by omega) (by omega)) ?_
    refine gd_ild1 dX8_isLate_13 ?_
    refine gd_bipush (v := nI 10) dX8_isLate_14 (by decide) ?_
    refine gd_irem dX8_isLate_16 (by decide) ?_
    rw [pk_rem (by omega) (by decide) (by decide)]
    refine gd_ild0 dX8_isLate_17 ?_
    refine gd_ic4 dX8_isLate_18 ?_
    refine gd_icmp_ne_f 26 dX8_isLate_19 (by decide) (by decide) ?_
    refine gd_ic5 dX8_isLate_22 ?_
    refine gd_goto 27 dX8_isLate_23 (by decide) ?_
    refine gd_icmp_gt_t 34 dX8_isLate_27 (by decide) (by exact nI_lt (by omega) (by omega)) ?_
    refine gd_ic0 dX8_isLate_34 ?_
    refine gd_iret dX8_isLate_35 rfl (by first | rfl | decide | exact nar_bi _ | assumption) ?_
    rfl
  · refine gd_ild1 dX8_isLate_0 ?_
    refine gd_if_lt_f 34 dX8_isLate_1 (by decide) (by exact nI_pos (by omega)) ?_
    refine gd_ild1 dX8_isLate_4 ?_
    refine gd_bipush (v := nI 10) dX8_isLate_5 (by decide) ?_
    refine gd_idiv dX8_isLate_7 (by decide) ?_
    rw [pk_div (by omega) (by decide) (by decide)]
    refine gd_bipush (v := nI 99) dX8_isLate_8 (by decide) ?_
    refine gd_icmp_gt_f 34 dX8_isLate_10 (by decide) (by exact nI_nlt (by omega) (by omega)) ?_
    refine gd_ild1 dX8_isLate_13 ?_
    refine gd_bipush (v := nI 10) dX8_isLate_14 (by decide) ?_
    refine gd_irem dX8_isLate_16 (by decide) ?_
    rw [pk_rem (by omega) (by decide) (by decide)]
    refine gd_ild0 dX8_isLate_17 ?_
    refine gd_ic4 dX8_isLate_18 ?_
    refine gd_icmp_ne_t 26 dX8_isLate_19 (by decide) (by exact fun z => absurd ((nI_eq (by omega) (by omega)).mp z) (by omega)) ?_
    refine gd_ic0 dX8_isLate_26 ?_
    refine gd_icmp_gt_t 34 dX8_isLate_27 (by decide) (by exact nI_lt (by omega) (by omega)) ?_
    refine gd_ic0 dX8_isLate_34 ?_
    refine gd_iret dX8_isLate_35 rfl (by first | rfl | decide | exact nar_bi _ | assumption) ?_
    rfl
theorem c_isLate_f {k m : Nat} {e : Int32} (hm : (k = 4 ∧ m = 5) ∨ (k ≠ 4 ∧ m = 0)) (hk : k < 6) (he : ¬ (0 ≤ e ∧ e < nI 996)) (h : Hp) : Gd mX8_isLate 0 [.int (nI k), .int e] [] h (some (.int (nI 0)), h) := by
  rcases rng_big (by decide) he with hb | ⟨n, h1, h2, rfl⟩
  · rcases hm with ⟨rfl, rfl⟩ | ⟨k4, rfl⟩
    · refine gd_ild1 dX8_isLate_0 ?_
      refine gd_if_lt_t 34 dX8_isLate_1 (by decide) (hb) ?_
      refine gd_ic0 dX8_isLate_34 ?_
      refine gd_iret dX8_isLate_35 rfl (by first | rfl | decide | exact nar_bi _ | assumption) ?_
      rfl
    · refine gd_ild1 dX8_isLate_0 ?_
      refine gd_if_lt_t 34 dX8_isLate_1 (by decide) (hb) ?_
      refine gd_ic0 dX8_isLate_34 ?_
      refine gd_iret dX8_isLate_35 rfl (by first | rfl | decide | exact nar_bi _ | assumption) ?_
      rfl
  · by_cases hd : n / 10 ≤ 99
    · rcases hm with ⟨rfl, rfl⟩ | ⟨k4, rfl⟩
      · refine gd_ild1 dX8_isLate_0 ?_
        refine gd_if_lt_f 34 dX8_isLate_1 (by decide) (by exact nI_pos (by omega)) ?_
        refine gd_ild1 dX8_isLate_4 ?_
        refine gd_bipush (v := nI 10) dX8_isLate_5 (by decide) ?_
        refine gd_idiv dX8_isLate_7 (by decide) ?_
        rw [pk_div (by omega) (by decide) (by decide)]
        refine gd_bipush (v := nI 99) dX8_isLate_8 (by decide) ?_
        refine gd_icmp_gt_f 34 dX8_isLate_10 (by decide) (by exact nI_nlt (by omega) (by omega)) ?_
        refine gd_ild1 dX8_isLate_13 ?_
        refine gd_bipush (v := nI 10) dX8_isLate_14 (by decide) ?_
        refine gd_irem dX8_isLate_16 (by decide) ?_
        rw [pk_rem (by omega) (by decide) (by decide)]
        refine gd_ild0 dX8_isLate_17 ?_
        refine gd_ic4 dX8_isLate_18 ?_
        refine gd_icmp_ne_f 26 dX8_isLate_19 (by decide) (by decide) ?_
        refine gd_ic5 dX8_isLate_22 ?_
        refine gd_goto 27 dX8_isLate_23 (by decide) ?_
        refine gd_icmp_gt_t 34 dX8_isLate_27 (by decide) (by exact nI_lt (by omega) (by omega)) ?_
        refine gd_ic0 dX8_isLate_34 ?_
        refine gd_iret dX8_isLate_35 rfl (by first | rfl | decide | exact nar_bi _ | assumption) ?_
        rfl
      · refine gd_ild1 dX8_isLate_0 ?_
        refine gd_if_lt_f 34 dX8_isLate_1 (by decide) (by exact nI_pos (by omega)) ?_
        refine gd_ild1 dX8_isLate_4 ?_
        refine gd_bipush (v := nI 10) dX8_isLate_5 (by decide) ?_
        refine gd_idiv dX8_isLate_7 (by decide) ?_
        rw [pk_div (by omega) (by decide) (by decide)]
        refine gd_bipush (v := nI 99) dX8_isLate_8 (by decide) ?_
        refine gd_icmp_gt_f 34 dX8_isLate_10 (by decide) (by exact nI_nlt (by omega) (by omega)) ?_
        refine gd_ild1 dX8_isLate_13 ?_
        refine gd_bipush (v := nI 10) dX8_isLate_14 (by decide) ?_
        refine gd_irem dX8_isLate_16 (by decide) ?_
        rw [pk_rem (by omega) (by decide) (by decide)]
        refine gd_ild0 dX8_isLate_17 ?_
        refine gd_ic4 dX8_isLate_18 ?_
        refine gd_icmp_ne_t 26 dX8_isLate_19 (by decide) (by exact fun z => absurd ((nI_eq (by omega) (by omega)).mp z) (by omega)) ?_
        refine gd_ic0 dX8_isLate_26 ?_
        refine gd_icmp_gt_t 34 dX8_isLate_27 (by decide) (by exact nI_lt (by omega) (by omega)) ?_
        refine gd_ic0 dX8_isLate_34 ?_
        refine gd_iret dX8_isLate_35 rfl (by first | rfl | decide | exact nar_bi _ | assumption) ?_
        rfl
    · rcases hm with ⟨rfl, rfl⟩ | ⟨k4, rfl⟩
      · refine gd_ild1 dX8_isLate_0 ?_
        refine gd_if_lt_f 34 dX8_isLate_1 (by decide) (by exact nI_pos (by omega)) ?_
        refine gd_ild1 dX8_isLate_4 ?_
        refine gd_bipush (v := nI 10) dX8_isLate_5 (by decide) ?_
        refine gd_idiv dX8_isLate_7 (by decide) ?_
        rw [pk_div (by omega) (by decide) (by decide)]
        refine gd_bipush (v := nI 99) dX8_isLate_8 (by decide) ?_
        refine gd_icmp_gt_t 34 dX8_isLate_10 (by decide) (by exact nI_lt (by omega) (by omega)) ?_
        refine gd_ic0 dX8_isLate_34 ?_
        refine gd_iret dX8_isLate_35 rfl (by first | rfl | decide | exact nar_bi _ | assumption) ?_
        rfl
      · refine gd_ild1 dX8_isLate_0 ?_
        refine gd_if_lt_f 34 dX8_isLate_1 (by decide) (by exact nI_pos (by omega)) ?_
        refine gd_ild1 dX8_isLate_4 ?_
        refine gd_bipush (v := nI 10) dX8_isLate_5 (by decide) ?_
        refine gd_idiv dX8_isLate_7 (by decide) ?_
        rw [pk_div (by omega) (by decide) (by decide)]
        refine gd_bipush (v := nI 99) dX8_isLate_8 (by decide) ?_
        refine gd_icmp_gt_t 34 dX8_isLate_10 (by decide) (by exact nI_lt (by omega) (by omega)) ?_
        refine gd_ic0 dX8_isLate_34 ?_
        refine gd_iret dX8_isLate_35 rfl (by first | rfl | decide | exact nar_bi _ | assumption) ?_
        rfl
theorem m_late_t {h : Hp} {k n m : Nat} {b c d : Int32} {x : Option Value × Hp} (hm : (k = 4 ∧ m = 5) ∨ (k ≠ 4 ∧ m = 0)) (hk : k < 6) (hn : n < 996) (h4 : n % 10 ≤ m) (g : Gd mX9_letter 104 [.ref 72, .int (nI k), .int b, .int c, .int d, .int (nI n), .null] [] h x) : Gd mX9_letter 80 [.ref 72, .int (nI k), .int b, .int c, .int d, .int (nI n), .null] [] h x := by
  rcases hm with ⟨rfl, rfl⟩ | ⟨k4, rfl⟩
  · refine gd_ild5 dX9_letter_80 ?_
    refine gd_bipush (v := nI 10) dX9_letter_82 (by decide) ?_
    refine gd_irem dX9_letter_84 (by decide) ?_
    rw [pk_rem (by omega) (by decide) (by decide)]
    refine gd_ild1 dX9_letter_85 ?_
    refine gd_ic4 dX9_letter_86 ?_
    refine gd_icmp_ne_f 94 dX9_letter_87 (by decide) (by decide) ?_
    refine gd_ic5 dX9_letter_90 ?_
    refine gd_goto 95 dX9_letter_91 (by decide) ?_
    refine gd_icmp_le_t 104 dX9_letter_95 (by decide) (by exact nI_le (by omega) (by omega)) ?_
    exact g
  · refine gd_ild5 dX9_letter_80 ?_
    refine gd_bipush (v := nI 10) dX9_letter_82 (by decide) ?_
    refine gd_irem dX9_letter_84 (by decide) ?_
    rw [pk_rem (by omega) (by decide) (by decide)]
    refine gd_ild1 dX9_letter_85 ?_
    refine gd_ic4 dX9_letter_86 ?_
    refine gd_icmp_ne_t 94 dX9_letter_87 (by decide) (by exact fun z => absurd ((nI_eq (by omega) (by omega)).mp z) (by omega)) ?_
    refine gd_ic0 dX9_letter_94 ?_
    refine gd_icmp_le_t 104 dX9_letter_95 (by decide) (by exact nI_le (by omega) (by omega)) ?_
    exact g
theorem m_late_r {h : Hp} {k n m : Nat} {b c d : Int32} {x : Option Value × Hp} (hm : (k = 4 ∧ m = 5) ∨ (k ≠ 4 ∧ m = 0)) (hk : k < 6) (hn : n < 996) (h4 : ¬ n % 10 ≤ m) (g : Gd mX9_letter 98 [.ref 72, .int (nI k), .int b, .int c, .int d, .int (nI n), .null] [] h x) : Gd mX9_letter 80 [.ref 72, .int (nI k), .int b, .int c, .int d, .int (nI n), .null] [] h x := by
  rcases hm with ⟨rfl, rfl⟩ | ⟨k4, rfl⟩
  · refine gd_ild5 dX9_letter_80 ?_
    refine gd_bipush (v := nI 10) dX9_letter_82 (by decide) ?_
    refine gd_irem dX9_letter_84 (by decide) ?_
    rw [pk_rem (by omega) (by decide) (by decide)]
    refine gd_ild1 dX9_letter_85 ?_
    refine gd_ic4 dX9_letter_86 ?_
    refine gd_icmp_ne_f 94 dX9_letter_87 (by decide) (by decide) ?_
    refine gd_ic5 dX9_letter_90 ?_
    refine gd_goto 95 dX9_letter_91 (by decide) ?_
    refine gd_icmp_le_f 104 dX9_letter_95 (by decide) (by exact nI_ge (by omega) (by omega)) ?_
    exact g
  · refine gd_ild5 dX9_letter_80 ?_
    refine gd_bipush (v := nI 10) dX9_letter_82 (by decide) ?_
    refine gd_irem dX9_letter_84 (by decide) ?_
    rw [pk_rem (by omega) (by decide) (by decide)]
    refine gd_ild1 dX9_letter_85 ?_
    refine gd_ic4 dX9_letter_86 ?_
    refine gd_icmp_ne_t 94 dX9_letter_87 (by decide) (by exact fun z => absurd ((nI_eq (by omega) (by omega)).mp z) (by omega)) ?_
    refine gd_ic0 dX9_letter_94 ?_
    refine gd_icmp_le_f 104 dX9_letter_95 (by decide) (by exact nI_ge (by omega) (by omega)) ?_
    exact g
theorem c_isFrom {h : Hp} (w : WF (ms h)) (c : CR h 1 (ms h)) {k : Nat} (hk : k < 6) (d : Int32) : Gd mX8_isFrom 0 [.ref 0, .int (nI k), .int d] [] h (some (.int (bi (frB (ms h) k d))), h) := by
  by_cases k3 : k = 3
  · subst k3
    refine gd_ild1 dX8_isFrom_0 ?_
    refine gd_ic3 dX8_isFrom_1 ?_
    refine gd_icmp_ne_f 11 dX8_isFrom_2 (by decide) (by decide) ?_
    refine gd_ald0 dX8_isFrom_5 (by decide) ?_
    refine gd_ild2 dX8_isFrom_6 ?_
    refine gd_cV1i dX8_isFrom_7 ct_8_142 rc_0 ⟨Nat.le_of_ble_eq_true rfl, Nat.le_of_ble_eq_true rfl⟩ (Nat.le_of_ble_eq_true rfl) (Nat.le_of_ble_eq_true rfl) (c_isLet w c d) ?_
    refine gd_iret dX8_isFrom_10 rfl (by first | rfl | decide | exact nar_bi _ | assumption) ?_
    rfl
  · by_cases k2 : k = 2
    · subst k2
      by_cases e : d = -1
      · refine gd_ild1 dX8_isFrom_0 ?_
        refine gd_ic3 dX8_isFrom_1 ?_
        refine gd_icmp_ne_t 11 dX8_isFrom_2 (by decide) (by decide) ?_
        refine gd_ild2 dX8_isFrom_11 ?_
        refine gd_icm1 dX8_isFrom_12 ?_
        refine gd_icmp_eq_t 29 dX8_isFrom_13 (by decide) (e) ?_
        refine gd_ic1 dX8_isFrom_29 ?_
        refine gd_goto 34 dX8_isFrom_30 (by decide) ?_
        refine gd_iret dX8_isFrom_34 rfl (by first | rfl | decide | exact nar_bi _ | assumption) ?_
        rw [show frB (ms h) 2 d = true by unfold frB; rw [if_neg (by omega), decide_eq_true e]; rfl]; rfl
      · cases hl : isL (ms h) d
        · refine gd_ild1 dX8_isFrom_0 ?_
          refine gd_ic3 dX8_isFrom_1 ?_
          refine gd_icmp_ne_t 11 dX8_isFrom_2 (by decide) (by decide) ?_
          refine gd_ild2 dX8_isFrom_11 ?_
          refine gd_icm1 dX8_isFrom_12 ?_
          refine gd_icmp_eq_f 29 dX8_isFrom_13 (by decide) (e) ?_
          refine gd_ild1 dX8_isFrom_16 ?_
          refine gd_ic2 dX8_isFrom_17 ?_
          refine gd_icmp_ne_f 33 dX8_isFrom_18 (by decide) (by decide) ?_
          refine gd_ald0 dX8_isFrom_21 (by decide) ?_
          refine gd_ild2 dX8_isFrom_22 ?_
          refine gd_cV1i dX8_isFrom_23 ct_8_142 rc_0 ⟨Nat.le_of_ble_eq_true rfl, Nat.le_of_ble_eq_true rfl⟩ (Nat.le_of_ble_eq_true rfl) (Nat.le_of_ble_eq_true rfl) (c_isLet w c d) ?_
          rw [hl]
          refine gd_if_eq_t 33 dX8_isFrom_26 (by decide) (by decide) ?_
          refine gd_ic0 dX8_isFrom_33 ?_
          refine gd_iret dX8_isFrom_34 rfl (by first | rfl | decide | exact nar_bi _ | assumption) ?_
          rw [show frB (ms h) 2 d = false by unfold frB; rw [if_neg (by decide), decide_eq_false e, hl]; rfl]; rfl
        · refine gd_ild1 dX8_isFrom_0 ?_
          refine gd_ic3 dX8_isFrom_1 ?_
          refine gd_icmp_ne_t 11 dX8_isFrom_2 (by decide) (by decide) ?_
          refine gd_ild2 dX8_isFrom_11 ?_
          refine gd_icm1 dX8_isFrom_12 ?_
          refine gd_icmp_eq_f 29 dX8_isFrom_13 (by decide) (e) ?_
          refine gd_ild1 dX8_isFrom_16 ?_
          refine gd_ic2 dX8_isFrom_17 ?_
          refine gd_icmp_ne_f 33 dX8_isFrom_18 (by decide) (by decide) ?_
          refine gd_ald0 dX8_isFrom_21 (by decide) ?_
          refine gd_ild2 dX8_isFrom_22 ?_
          refine gd_cV1i dX8_isFrom_23 ct_8_142 rc_0 ⟨Nat.le_of_ble_eq_true rfl, Nat.le_of_ble_eq_true rfl⟩ (Nat.le_of_ble_eq_true rfl) (Nat.le_of_ble_eq_true rfl) (c_isLet w c d) ?_
          rw [hl]
          refine gd_if_eq_f 33 dX8_isFrom_26 (by decide) (by decide) ?_
          refine gd_ic1 dX8_isFrom_29 ?_
          refine gd_goto 34 dX8_isFrom_30 (by decide) ?_
          refine gd_iret dX8_isFrom_34 rfl (by first | rfl | decide | exact nar_bi _ | assumption) ?_
          rw [show frB (ms h) 2 d = true by unfold frB; rw [if_neg (by decide), decide_eq_false e, hl]; rfl]; rfl
    · by_cases e : d = -1
      · refine gd_ild1 dX8_isFrom_0 ?_
        refine gd_ic3 dX8_isFrom_1 ?_
        refine gd_icmp_ne_t 11 dX8_isFrom_2 (by decide) (by exact fun z => absurd ((nI_eq (by omega) (by omega)).mp z) (by omega)) ?_
        refine gd_ild2 dX8_isFrom_11 ?_
        refine gd_icm1 dX8_isFrom_12 ?_
        refine gd_icmp_eq_t 29 dX8_isFrom_13 (by decide) (e) ?_
        refine gd_ic1 dX8_isFrom_29 ?_
        refine gd_goto 34 dX8_isFrom_30 (by decide) ?_
        refine gd_iret dX8_isFrom_34 rfl (by first | rfl | decide | exact nar_bi _ | assumption) ?_
        rw [show frB (ms h) k d = true by unfold frB; rw [if_neg (by omega), decide_eq_true e]; rfl]; rfl
      · refine gd_ild1 dX8_isFrom_0 ?_
        refine gd_ic3 dX8_isFrom_1 ?_
        refine gd_icmp_ne_t 11 dX8_isFrom_2 (by decide) (by exact fun z => absurd ((nI_eq (by omega) (by omega)).mp z) (by omega)) ?_
        refine gd_ild2 dX8_isFrom_11 ?_
        refine gd_icm1 dX8_isFrom_12 ?_
        refine gd_icmp_eq_f 29 dX8_isFrom_13 (by decide) (e) ?_
        refine gd_ild1 dX8_isFrom_16 ?_
        refine gd_ic2 dX8_isFrom_17 ?_
        refine gd_icmp_ne_t 33 dX8_isFrom_18 (by decide) (by exact fun z => absurd ((nI_eq (by omega) (by omega)).mp z) (by omega)) ?_
        refine gd_ic0 dX8_isFrom_33 ?_
        refine gd_iret dX8_isFrom_34 rfl (by first | rfl | decide | exact nar_bi _ | assumption) ?_
        rw [show frB (ms h) k d = false by unfold frB; rw [if_neg k3, decide_eq_false e, decide_eq_false k2]; rfl]; rfl
theorem m_isFrom {h : Hp} (w : WF (ms h)) {k : Nat} (hk : k < 6) (d : Int32) : Gd mX9_isFrom 0 [.ref 72, .int (nI k), .int d] [] h (some (.int (bi (frB (ms h) k d))), h) := by
  by_cases k3 : k = 3
  · subst k3
    refine gd_ild1 dX9_isFrom_0 ?_
    refine gd_ic3 dX9_isFrom_1 ?_
    refine gd_icmp_ne_f 13 dX9_isFrom_2 (by decide) (by decide) ?_
    refine gd_ald0 dX9_isFrom_5 (by decide) ?_
    refine gd_ild2 dX9_isFrom_6 ?_
    refine gd_cV1i dX9_isFrom_7 ct_9_113 rc_72 ⟨Nat.le_of_ble_eq_true rfl, Nat.le_of_ble_eq_true rfl⟩ (Nat.le_of_ble_eq_true rfl) (Nat.le_of_ble_eq_true rfl) (m_isLet w d) ?_
    refine gd_goto 49 dX9_isFrom_10 (by decide) ?_
    refine gd_iret dX9_isFrom_49 rfl (by first | rfl | decide | exact nar_bi _ | assumption) ?_
    rfl
  · by_cases k2 : k = 2
    · subst k2
      by_cases e : d = -1
      · refine gd_ild1 dX9_isFrom_0 ?_
        refine gd_ic3 dX9_isFrom_1 ?_
        refine gd_icmp_ne_t 13 dX9_isFrom_2 (by decide) (by decide) ?_
        refine gd_ild1 dX9_isFrom_13 ?_
        refine gd_ic2 dX9_isFrom_14 ?_
        refine gd_icmp_ne_f 39 dX9_isFrom_15 (by decide) (by decide) ?_
        refine gd_ild2 dX9_isFrom_18 ?_
        refine gd_icm1 dX9_isFrom_19 ?_
        refine gd_icmp_eq_t 31 dX9_isFrom_20 (by decide) (e) ?_
        refine gd_ic1 dX9_isFrom_31 ?_
        refine gd_goto 49 dX9_isFrom_32 (by decide) ?_
        refine gd_iret dX9_isFrom_49 rfl (by first | rfl | decide | exact nar_bi _ | assumption) ?_
        rw [show frB (ms h) 2 d = true by unfold frB; rw [if_neg (by omega), decide_eq_true e]; rfl]; rfl
      · cases hl : isL (ms h) d
        · refine gd_ild1 dX9_isFrom_0 ?_
          refine gd_ic3 dX9_isFrom_1 ?_
          refine gd_icmp_ne_t 13 dX9_isFrom_2 (by decide) (by decide) ?_
          refine gd_ild1 dX9_isFrom_13 ?_
          refine gd_ic2 dX9_isFrom_14 ?_
          refine gd_icmp_ne_f 39 dX9_isFrom_15 (by decide) (by decide) ?_
          refine gd_ild2 dX9_isFrom_18 ?_
          refine gd_icm1 dX9_isFrom_19 ?_
          refine gd_icmp_eq_f 31 dX9_isFrom_20 (by decide) (e) ?_
          refine gd_ald0 dX9_isFrom_23 (by decide) ?_
          refine gd_ild2 dX9_isFrom_24 ?_
          refine gd_cV1i dX9_isFrom_25 ct_9_113 rc_72 ⟨Nat.le_of_ble_eq_true rfl, Nat.le_of_ble_eq_true rfl⟩ (Nat.le_of_ble_eq_true rfl) (Nat.le_of_ble_eq_true rfl) (m_isLet w d) ?_
          rw [hl]
          refine gd_if_eq_t 35 dX9_isFrom_28 (by decide) (by decide) ?_
          refine gd_ic0 dX9_isFrom_35 ?_
          refine gd_goto 49 dX9_isFrom_36 (by decide) ?_
          refine gd_iret dX9_isFrom_49 rfl (by first | rfl | decide | exact nar_bi _ | assumption) ?_
          rw [show frB (ms h) 2 d = false by unfold frB; rw [if_neg (by decide), decide_eq_false e, hl]; rfl]; rfl
        · refine gd_ild1 dX9_isFrom_0 ?_
          refine gd_ic3 dX9_isFrom_1 ?_
          refine gd_icmp_ne_t 13 dX9_isFrom_2 (by decide) (by decide) ?_
          refine gd_ild1 dX9_isFrom_13 ?_
          refine gd_ic2 dX9_isFrom_14 ?_
          refine gd_icmp_ne_f 39 dX9_isFrom_15 (by decide) (by decide) ?_
          refine gd_ild2 dX9_isFrom_18 ?_
          refine gd_icm1 dX9_isFrom_19 ?_
          refine gd_icmp_eq_f 31 dX9_isFrom_20 (by decide) (e) ?_
          refine gd_ald0 dX9_isFrom_23 (by decide) ?_
          refine gd_ild2 dX9_isFrom_24 ?_
          refine gd_cV1i dX9_isFrom_25 ct_9_113 rc_72 ⟨Nat.le_of_ble_eq_true rfl, Nat.le_of_ble_eq_true rfl⟩ (Nat.le_of_ble_eq_true rfl) (Nat.le_of_ble_eq_true rfl) (m_isLet w d) ?_
          rw [hl]
          refine gd_if_eq_f 35 dX9_isFrom_28 (by decide) (by decide) ?_
          refine gd_ic1 dX9_isFrom_31 ?_
          refine gd_goto 49 dX9_isFrom_32 (by decide) ?_
          refine gd_iret dX9_isFrom_49 rfl (by first | rfl | decide | exact nar_bi _ | assumption) ?_
          rw [show frB (ms h) 2 d = true by unfold frB; rw [if_neg (by decide), decide_eq_false e, hl]; rfl]; rfl
    · by_cases e : d = -1
      · refine gd_ild1 dX9_isFrom_0 ?_
        refine gd_ic3 dX9_isFrom_1 ?_
        refine gd_icmp_ne_t 13 dX9_isFrom_2 (by decide) (by exact fun z => absurd ((nI_eq (by omega) (by omega)).mp z) (by omega)) ?_
        refine gd_ild1 dX9_isFrom_13 ?_
        refine gd_ic2 dX9_isFrom_14 ?_
        refine gd_icmp_ne_t 39 dX9_isFrom_15 (by decide) (by exact fun z => absurd ((nI_eq (by omega) (by omega)).mp z) (by omega)) ?_
        refine gd_ild2 dX9_isFrom_39 ?_
        refine gd_icm1 dX9_isFrom_40 ?_
        refine gd_icmp_ne_f 48 dX9_isFrom_41 (by decide) (e) ?_
        refine gd_ic1 dX9_isFrom_44 ?_
        refine gd_goto 49 dX9_isFrom_45 (by decide) ?_
        refine gd_iret dX9_isFrom_49 rfl (by first | rfl | decide | exact nar_bi _ | assumption) ?_
        rw [show frB (ms h) k d = true by unfold frB; rw [if_neg (by omega), decide_eq_true e]; rfl]; rfl
      · refine gd_ild1 dX9_isFrom_0 ?_
        refine gd_ic3 dX9_isFrom_1 ?_
        refine gd_icmp_ne_t 13 dX9_isFrom_2 (by decide) (by exact fun z => absurd ((nI_eq (by omega) (by omega)).mp z) (by omega)) ?_
        refine gd_ild1 dX9_isFrom_13 ?_
        refine gd_ic2 dX9_isFrom_14 ?_
        refine gd_icmp_ne_t 39 dX9_isFrom_15 (by decide) (by exact fun z => absurd ((nI_eq (by omega) (by omega)).mp z) (by omega)) ?_
        refine gd_ild2 dX9_isFrom_39 ?_
        refine gd_icm1 dX9_isFrom_40 ?_
        refine gd_icmp_ne_t 48 dX9_isFrom_41 (by decide) (e) ?_
        refine gd_ic0 dX9_isFrom_48 ?_
        refine gd_iret dX9_isFrom_49 rfl (by first | rfl | decide | exact nar_bi _ | assumption) ?_
        rw [show frB (ms h) k d = false by unfold frB; rw [if_neg k3, decide_eq_false e, decide_eq_false k2]; rfl]; rfl
theorem c_addLetter {h : Hp} {k n c e : Nat} {d : Int32} (i : Inv h) (hN : nN (ms h) < 30) (hn : n < 2 ^ 31) (hc : c < 9995) (he : e < 996) : Gd mX1_addLetter 0 [.ref 6, .int (nI k), .int (nI n), .int (nI c), .int d, .int (nI e), .int (nI (nD (ms h))), .null] [] h (some (.int (nI (nN (ms h)))), sI (sI (sI (sI (sI (sI (sI (sI (sI (h) 7 (upd (h.1 7) (nN (ms h)) (nI k))) 8 (upd (h.1 8) (nN (ms h)) (nI (n / 100)))) 9 (upd (h.1 9) (nN (ms h)) (nI (n % 100)))) 10 (upd (h.1 10) (nN (ms h)) (nI (c / 10)))) 11 (upd (h.1 11) (nN (ms h)) (nI (c % 10)))) 12 (upd (h.1 12) (nN (ms h)) (nI (nD (ms h) + e / 10)))) 13 (upd (h.1 13) (nN (ms h)) d)) 14 (upd (h.1 14) (nN (ms h)) (nI (e % 10)))) 6 (upd (h.1 6) 9 (nI (nN (ms h) + 1)))) := by
  refine gd_ald0 dX1_addLetter_0 (by decide) ?_
  refine gd_getI dX1_addLetter_1 fl_1_40 rfl rfl ?_
  rw [i.cN]
  refine gd_ist7 dX1_addLetter_4 rfl ?_
  refine gd_ald0 dX1_addLetter_6 (by decide) ?_
  refine gd_getR (r := 7) dX1_addLetter_7 fl_1_9 rfl rfl rfl (by decide) ?_
  refine gd_ild7 dX1_addLetter_10 ?_
  refine gd_ild1 dX1_addLetter_12 ?_
  refine gd_iast (n := 30) dX1_addLetter_13 rfl (by decide) (by repeat' (first | with_reducible rfl | apply ni_add | apply ni_mul)) (by omega) ?_
  refine gd_ald0 dX1_addLetter_14 (by decide) ?_
  refine gd_getR (r := 8) dX1_addLetter_15 fl_1_15 rfl rfl rfl (by decide) ?_
  refine gd_ild7 dX1_addLetter_18 ?_
  refine gd_ild2 dX1_addLetter_20 ?_
  refine gd_bipush (v := nI 100) dX1_addLetter_21 (by decide) ?_
  refine gd_idiv dX1_addLetter_23 (by decide) ?_
  rw [pk_div hn (by decide) (by decide)]
  refine gd_iast (n := 30) dX1_addLetter_24 rfl (by decide) (by repeat' (first | with_reducible rfl | apply ni_add | apply ni_mul)) (by omega) ?_
  refine gd_ald0 dX1_addLetter_25 (by decide) ?_
  refine gd_getR (r := 9) dX1_addLetter_26 fl_1_18 rfl rfl rfl (by decide) ?_
  refine gd_ild7 dX1_addLetter_29 ?_
  refine gd_ild2 dX1_addLetter_31 ?_
  refine gd_bipush (v := nI 100) dX1_addLetter_32 (by decide) ?_
  refine gd_irem dX1_addLetter_34 (by decide) ?_
  rw [pk_rem hn (by decide) (by decide)]
  refine gd_iast (n := 30) dX1_addLetter_35 rfl (by decide) (by repeat' (first | with_reducible rfl | apply ni_add | apply ni_mul)) (by omega) ?_
  refine gd_ald0 dX1_addLetter_36 (by decide) ?_
  refine gd_getR (r := 10) dX1_addLetter_37 fl_1_21 rfl rfl rfl (by decide) ?_
  refine gd_ild7 dX1_addLetter_40 ?_
  refine gd_ild3 dX1_addLetter_42 ?_
  refine gd_bipush (v := nI 10) dX1_addLetter_43 (by decide) ?_
  refine gd_idiv dX1_addLetter_45 (by decide) ?_
  rw [pk_div (by omega) (by decide) (by decide)]
  refine gd_iast (n := 30) dX1_addLetter_46 rfl (by decide) (by repeat' (first | with_reducible rfl | apply ni_add | apply ni_mul)) (by omega) ?_
  refine gd_ald0 dX1_addLetter_47 (by decide) ?_
  refine gd_getR (r := 11) dX1_addLetter_48 fl_1_24 rfl rfl rfl (by decide) ?_
  refine gd_ild7 dX1_addLetter_51 ?_
  refine gd_ild3 dX1_addLetter_53 ?_
  refine gd_bipush (v := nI 10) dX1_addLetter_54 (by decide) ?_
  refine gd_irem dX1_addLetter_56 (by decide) ?_
  rw [pk_rem (by omega) (by decide) (by decide)]
  refine gd_iast (n := 30) dX1_addLetter_57 rfl (by decide) (by repeat' (first | with_reducible rfl | apply ni_add | apply ni_mul)) (by omega) ?_
  refine gd_ald0 dX1_addLetter_58 (by decide) ?_
  refine gd_getR (r := 12) dX1_addLetter_59 fl_1_27 rfl rfl rfl (by decide) ?_
  refine gd_ild7 dX1_addLetter_62 ?_
  refine gd_ild6 dX1_addLetter_64 ?_
  refine gd_ild5 dX1_addLetter_66 ?_
  refine gd_bipush (v := nI 10) dX1_addLetter_68 (by decide) ?_
  refine gd_idiv dX1_addLetter_70 (by decide) ?_
  rw [pk_div (by omega) (by decide) (by decide)]
  refine gd_iadd dX1_addLetter_71 ?_
  rw [nI_add]
  refine gd_iast (n := 30) dX1_addLetter_72 rfl (by decide) (by repeat' (first | with_reducible rfl | apply ni_add | apply ni_mul)) (by omega) ?_
  refine gd_ald0 dX1_addLetter_73 (by decide) ?_
  refine gd_getR (r := 13) dX1_addLetter_74 fl_1_30 rfl rfl rfl (by decide) ?_
  refine gd_ild7 dX1_addLetter_77 ?_
  refine gd_ild4 dX1_addLetter_79 ?_
  refine gd_iast (n := 30) dX1_addLetter_81 rfl (by decide) (by repeat' (first | with_reducible rfl | apply ni_add | apply ni_mul)) (by omega) ?_
  refine gd_ald0 dX1_addLetter_82 (by decide) ?_
  refine gd_getR (r := 14) dX1_addLetter_83 fl_1_33 rfl rfl rfl (by decide) ?_
  refine gd_ild7 dX1_addLetter_86 ?_
  refine gd_ild5 dX1_addLetter_88 ?_
  refine gd_bipush (v := nI 10) dX1_addLetter_90 (by decide) ?_
  refine gd_irem dX1_addLetter_92 (by decide) ?_
  rw [pk_rem (by omega) (by decide) (by decide)]
  refine gd_iast (n := 30) dX1_addLetter_93 rfl (by decide) (by repeat' (first | with_reducible rfl | apply ni_add | apply ni_mul)) (by omega) ?_
  refine gd_ald0 dX1_addLetter_94 (by decide) ?_
  refine gd_dupr (by decide) dX1_addLetter_95 ?_
  refine gd_getI dX1_addLetter_96 fl_1_40 rfl rfl ?_
  rw [show ∀ f7 f8 f9 f10 f11 f12 f13 f14, (sI (sI (sI (sI (sI (sI (sI (sI h 7 f7) 8 f8) 9 f9) 10 f10) 11 f11) 12 f12) 13 f13) 14 f14).1 6 9 = nI (nN (ms h)) from fun _ _ _ _ _ _ _ _ => i.cN]
  refine gd_ic1 dX1_addLetter_99 ?_
  refine gd_iadd dX1_addLetter_100 ?_
  rw [nI_add]
  refine gd_putI dX1_addLetter_101 fl_1_40 rfl rfl (fun _ _ _ e => by cases e; rfl) ?_
  refine gd_ild7 dX1_addLetter_104 ?_
  refine gd_iret dX1_addLetter_106 rfl rfl ?_
  rfl
def lr9 (f : Nat → Int32) (L k t w c r q e : Nat) (d : Int32) : Nat → Int32 := upd (upd (upd (upd (upd (upd (upd (upd (upd (f) (9 * L + 0) (nI k)) (9 * L + 1) (nI t)) (9 * L + 2) (nI w)) (9 * L + 3) (nI c)) (9 * L + 4) (nI r)) (9 * L + 5) (nI q)) (9 * L + 6) (nI 0)) (9 * L + 7) d) (9 * L + 8) (nI e)
theorem lr9_at {f : Nat → Int32} {L k t w c r q e j : Nat} {d : Int32} : lr9 f L k t w c r q e d j = if j = 9 * L + 8 then nI e else if j = 9 * L + 7 then d else if j = 9 * L + 6 then nI 0 else if j = 9 * L + 5 then nI q else if j = 9 * L + 4 then nI r else if j = 9 * L + 3 then nI c else if j = 9 * L + 2 then nI w else if j = 9 * L + 1 then nI t else if j = 9 * L + 0 then nI k else f j := rfl
theorem lr9_o {f : Nat → Int32} {L k t w c r q e j : Nat} {d : Int32} (h : j < 9 * L) : lr9 f L k t w c r q e d j = f j := by
  rw [lr9_at, if_neg (by omega), if_neg (by omega), if_neg (by omega), if_neg (by omega), if_neg (by omega), if_neg (by omega), if_neg (by omega), if_neg (by omega), if_neg (by omega)]
theorem lr9_0 {f : Nat → Int32} {L k t w c r q e : Nat} {d : Int32} : lr9 f L k t w c r q e d (9 * L + 0) = nI k := by
  rw [lr9_at, if_neg (by omega), if_neg (by omega), if_neg (by omega), if_neg (by omega), if_neg (by omega), if_neg (by omega), if_neg (by omega), if_neg (by omega), if_pos rfl]
theorem lr9_1 {f : Nat → Int32} {L k t w c r q e : Nat} {d : Int32} : lr9 f L k t w c r q e d (9 * L + 1) = nI t := by
  rw [lr9_at, if_neg (by omega), if_neg (by omega), if_neg (by omega), if_neg (by omega), if_neg (by omega), if_neg (by omega), if_neg (by omega), if_pos rfl]
theorem lr9_2 {f : Nat → Int32} {L k t w c r q e : Nat} {d : Int32} : lr9 f L k t w c r q e d (9 * L + 2) = nI w := by
  rw [lr9_at, if_neg (by omega), if_neg (by omega), if_neg (by omega), if_neg (by omega), if_neg (by omega), if_neg (by omega), if_pos rfl]
theorem lr9_3 {f : Nat → Int32} {L k t w c r q e : Nat} {d : Int32} : lr9 f L k t w c r q e d (9 * L + 3) = nI c := by
  rw [lr9_at, if_neg (by omega), if_neg (by omega), if_neg (by omega), if_neg (by omega), if_neg (by omega), if_pos rfl]
theorem lr9_4 {f : Nat → Int32} {L k t w c r q e : Nat} {d : Int32} : lr9 f L k t w c r q e d (9 * L + 4) = nI r := by
  rw [lr9_at, if_neg (by omega), if_neg (by omega), if_neg (by omega), if_neg (by omega), if_pos rfl]
theorem lr9_5 {f : Nat → Int32} {L k t w c r q e : Nat} {d : Int32} : lr9 f L k t w c r q e d (9 * L + 5) = nI q := by
  rw [lr9_at, if_neg (by omega), if_neg (by omega), if_neg (by omega), if_pos rfl]
theorem lr9_6 {f : Nat → Int32} {L k t w c r q e : Nat} {d : Int32} : lr9 f L k t w c r q e d (9 * L + 6) = nI 0 := by
  rw [lr9_at, if_neg (by omega), if_neg (by omega), if_pos rfl]
theorem lr9_7 {f : Nat → Int32} {L k t w c r q e : Nat} {d : Int32} : lr9 f L k t w c r q e d (9 * L + 7) = d := by
  rw [lr9_at, if_neg (by omega), if_pos rfl]
theorem lr9_8 {f : Nat → Int32} {L k t w c r q e : Nat} {d : Int32} : lr9 f L k t w c r q e d (9 * L + 8) = nI e := by
  rw [lr9_at, if_pos rfl]
set_option maxHeartbeats 4000000 in
theorem p_letter {h : Hp} (i : Inv h) (a b c d e : Int32) : Pas mX8_letter mX9_letter [.ref 0, .int a, .int b, .int c, .int d, .int e] [.ref 72, .int a, .int b, .int c, .int d, .int e, .null] h := by
  have lN := i.lN
  have lT := i.lT
  rcases rng a (6) (by decide) with ⟨k, hk, rfl⟩ | ha
  · obtain ⟨m, hm⟩ : ∃ m, (k = 4 ∧ m = 5) ∨ (k ≠ 4 ∧ m = 0) := if z : k = 4 then ⟨5, Or.inl ⟨z, rfl⟩⟩ else ⟨0, Or.inr ⟨z, rfl⟩⟩
    have m5 : m ≤ 5 := by omega
    rcases ngO b with hb | ⟨n, hn, rfl⟩
    · refine Pas.find (h1 := h) (h2 := hf (h) 0) (v := -1000000001) (w := (-1000000000 : Int32) - nI 1) 0 i (by decide) (by decide) (by decide) (Same.rf _) (Same.rf _) ?_ ?_
      · refine gd_ild1 dX8_letter_0 ?_
        refine gd_bipush (v := nI 6) dX8_letter_1 (by decide) ?_
        refine gd_cS2i dX8_letter_3 ct_8_48 ⟨Nat.le_of_ble_eq_true rfl, Nat.le_of_ble_eq_true rfl⟩ (Nat.le_of_ble_eq_true rfl) (Nat.le_of_ble_eq_true rfl) (c_isBelow_t hk (by decide) _) ?_
        refine gd_if_eq_f 43 dX8_letter_6 (by decide) (by decide) ?_
        refine gd_ald0 dX8_letter_9 (by decide) ?_
        refine gd_ild2 dX8_letter_10 ?_
        refine gd_cV1i dX8_letter_11 ct_8_123 rc_0 ⟨Nat.le_of_ble_eq_true rfl, Nat.le_of_ble_eq_true rfl⟩ (Nat.le_of_ble_eq_true rfl) (Nat.le_of_ble_eq_true rfl) (c_isAbout_n i.w i.c hb) ?_
        refine gd_if_eq_t 43 dX8_letter_14 (by decide) (by decide) ?_
        refine gd_ald0 dX8_letter_43 (by decide) ?_
        refine gd_ldc dX8_letter_44 ld_8_52 ?_
        refine gd_cV1i dX8_letter_46 ct_8_53 rc_0 ⟨Nat.le_of_ble_eq_true rfl, Nat.le_of_ble_eq_true rfl⟩ (Nat.le_of_ble_eq_true rfl) (Nat.le_of_ble_eq_true rfl) (c_f0 _) ?_
        refine gd_iret dX8_letter_49 rfl rfl ?_
        rfl
      · refine gd_ild1 dX9_letter_0 ?_
        refine gd_ic0 dX9_letter_1 ?_
        refine gd_ic5 dX9_letter_2 ?_
        refine gd_cS3i dX9_letter_3 ct_9_79 ⟨Nat.le_of_ble_eq_true rfl, Nat.le_of_ble_eq_true rfl⟩ (Nat.le_of_ble_eq_true rfl) (Nat.le_of_ble_eq_true rfl) (m_in_t (m := 5) (by omega) (by decide) _) ?_
        refine gd_if_eq_f 52 dX9_letter_6 (by decide) (by decide) ?_
        refine gd_ild2 dX9_letter_9 ?_
        refine gd_if_lt_t 52 dX9_letter_10 (by decide) (hb) ?_
        refine gd_ald0 dX9_letter_52 (by decide) ?_
        refine gd_ic1 dX9_letter_53 ?_
        refine gd_cV1i dX9_letter_54 ct_9_97 rc_72 ⟨Nat.le_of_ble_eq_true rfl, Nat.le_of_ble_eq_true rfl⟩ (Nat.le_of_ble_eq_true rfl) (Nat.le_of_ble_eq_true rfl) (m_f0 _) ?_
        refine gd_iret dX9_letter_57 rfl rfl ?_
        rfl
    · by_cases ho : n / 100 < nT (ms h)
      · by_cases hw : n % 100 < 16
        · rcases rng c (9995) (by decide) with ⟨c, hc, rfl⟩ | hC
          · by_cases h4 : c % 10 ≤ 4
            · cases hfr : frB (ms h) k d
              · refine Pas.find (h1 := h) (h2 := hf (h) 0) (v := -1000000001) (w := (-1000000000 : Int32) - nI 1) 0 i (by decide) (by decide) (by decide) (Same.rf _) (Same.rf _) ?_ ?_
                · refine gd_ild1 dX8_letter_0 ?_
                  refine gd_bipush (v := nI 6) dX8_letter_1 (by decide) ?_
                  refine gd_cS2i dX8_letter_3 ct_8_48 ⟨Nat.le_of_ble_eq_true rfl, Nat.le_of_ble_eq_true rfl⟩ (Nat.le_of_ble_eq_true rfl) (Nat.le_of_ble_eq_true rfl) (c_isBelow_t hk (by decide) _) ?_
                  refine gd_if_eq_f 43 dX8_letter_6 (by decide) (by decide) ?_
                  refine gd_ald0 dX8_letter_9 (by decide) ?_
                  refine gd_ild2 dX8_letter_10 ?_
                  refine gd_cV1i dX8_letter_11 ct_8_123 rc_0 ⟨Nat.le_of_ble_eq_true rfl, Nat.le_of_ble_eq_true rfl⟩ (Nat.le_of_ble_eq_true rfl) (Nat.le_of_ble_eq_true rfl) (c_isAbout_t i.w i.c hn ho hw) ?_
                  refine gd_if_eq_f 43 dX8_letter_14 (by decide) (by decide) ?_
                  refine gd_ild3 dX8_letter_17 ?_
                  refine gd_cS1i dX8_letter_18 ct_8_126 ⟨Nat.le_of_ble_eq_true rfl, Nat.le_of_ble_eq_true rfl⟩ (Nat.le_of_ble_eq_true rfl) (Nat.le_of_ble_eq_true rfl) (c_isWhen_t hc h4 _) ?_
                  refine gd_if_eq_f 43 dX8_letter_21 (by decide) (by decide) ?_
                  refine gd_ald0 dX8_letter_24 (by decide) ?_
                  refine gd_ild1 dX8_letter_25 ?_
                  refine gd_ild4 dX8_letter_26 ?_
                  refine gd_cV2i dX8_letter_28 ct_8_129 rc_0 ⟨Nat.le_of_ble_eq_true rfl, Nat.le_of_ble_eq_true rfl⟩ (Nat.le_of_ble_eq_true rfl) (Nat.le_of_ble_eq_true rfl) (c_isFrom i.w i.c hk d) ?_
                  rw [hfr]
                  refine gd_if_eq_t 43 dX8_letter_31 (by decide) (by decide) ?_
                  refine gd_ald0 dX8_letter_43 (by decide) ?_
                  refine gd_ldc dX8_letter_44 ld_8_52 ?_
                  refine gd_cV1i dX8_letter_46 ct_8_53 rc_0 ⟨Nat.le_of_ble_eq_true rfl, Nat.le_of_ble_eq_true rfl⟩ (Nat.le_of_ble_eq_true rfl) (Nat.le_of_ble_eq_true rfl) (c_f0 _) ?_
                  refine gd_iret dX8_letter_49 rfl rfl ?_
                  rfl
                · refine gd_ild1 dX9_letter_0 ?_
                  refine gd_ic0 dX9_letter_1 ?_
                  refine gd_ic5 dX9_letter_2 ?_
                  refine gd_cS3i dX9_letter_3 ct_9_79 ⟨Nat.le_of_ble_eq_true rfl, Nat.le_of_ble_eq_true rfl⟩ (Nat.le_of_ble_eq_true rfl) (Nat.le_of_ble_eq_true rfl) (m_in_t (m := 5) (by omega) (by decide) _) ?_
                  refine gd_if_eq_f 52 dX9_letter_6 (by decide) (by decide) ?_
                  refine gd_ild2 dX9_letter_9 ?_
                  refine gd_if_lt_f 52 dX9_letter_10 (by decide) (by exact nI_pos (by omega)) ?_
                  refine gd_ald0 dX9_letter_13 (by decide) ?_
                  refine gd_ild2 dX9_letter_14 ?_
                  refine gd_bipush (v := nI 100) dX9_letter_15 (by decide) ?_
                  refine gd_idiv dX9_letter_17 (by decide) ?_
                  rw [pk_div hn (by decide) (by decide)]
                  refine gd_cV1i dX9_letter_18 ct_9_101 rc_72 ⟨Nat.le_of_ble_eq_true rfl, Nat.le_of_ble_eq_true rfl⟩ (Nat.le_of_ble_eq_true rfl) (Nat.le_of_ble_eq_true rfl) (m_isTown_t (h := hf h 0) (by exact i.w) ho) ?_
                  refine gd_if_eq_f 52 dX9_letter_21 (by decide) (by decide) ?_
                  refine gd_ild2 dX9_letter_24 ?_
                  refine gd_bipush (v := nI 100) dX9_letter_25 (by decide) ?_
                  refine gd_irem dX9_letter_27 (by decide) ?_
                  rw [pk_rem hn (by decide) (by decide)]
                  refine gd_bipush (v := nI 15) dX9_letter_28 (by decide) ?_
                  refine gd_icmp_gt_f 52 dX9_letter_30 (by decide) (by exact nI_nlt (by omega) (by omega)) ?_
                  refine gd_ild3 dX9_letter_33 ?_
                  refine gd_ic0 dX9_letter_34 ?_
                  refine gd_sipush (v := nI 9994) dX9_letter_35 (by decide) ?_
                  refine gd_cS3i dX9_letter_38 ct_9_79 ⟨Nat.le_of_ble_eq_true rfl, Nat.le_of_ble_eq_true rfl⟩ (Nat.le_of_ble_eq_true rfl) (Nat.le_of_ble_eq_true rfl) (m_in_t (m := 9994) (by omega) (by decide) _) ?_
                  refine gd_if_eq_f 52 dX9_letter_41 (by decide) (by decide) ?_
                  refine gd_ild3 dX9_letter_44 ?_
                  refine gd_bipush (v := nI 10) dX9_letter_45 (by decide) ?_
                  refine gd_irem dX9_letter_47 (by decide) ?_
                  rw [pk_rem (by omega) (by decide) (by decide)]
                  refine gd_ic4 dX9_letter_48 ?_
                  refine gd_icmp_le_t 58 dX9_letter_49 (by decide) (by exact nI_le (by omega) (by omega)) ?_
                  refine gd_ald0 dX9_letter_58 (by decide) ?_
                  refine gd_ild1 dX9_letter_59 ?_
                  refine gd_ild4 dX9_letter_60 ?_
                  refine gd_cV2i dX9_letter_62 ct_9_116 rc_72 ⟨Nat.le_of_ble_eq_true rfl, Nat.le_of_ble_eq_true rfl⟩ (Nat.le_of_ble_eq_true rfl) (Nat.le_of_ble_eq_true rfl) (m_isFrom (h := hf h 0) (by exact i.w) hk d) ?_
                  rw [show frB (ms (hf h 0)) k d = false from hfr]
                  refine gd_if_eq_t 98 dX9_letter_65 (by decide) (by decide) ?_
                  refine gd_ald0 dX9_letter_98 (by decide) ?_
                  refine gd_ic1 dX9_letter_99 ?_
                  refine gd_cV1i dX9_letter_100 ct_9_97 rc_72 ⟨Nat.le_of_ble_eq_true rfl, Nat.le_of_ble_eq_true rfl⟩ (Nat.le_of_ble_eq_true rfl) (Nat.le_of_ble_eq_true rfl) (m_f0 _) ?_
                  refine gd_iret dX9_letter_103 rfl rfl ?_
                  rfl
              · rcases rng e (996) (by decide) with ⟨e, he, rfl⟩ | hE
                · by_cases h5 : e % 10 ≤ m
                  · by_cases hN : nN (ms h) < 30
                    · refine ⟨.int (nI (nN (ms h))), sI (sI (sI (sI (sI (sI (sI (sI (sI (h) 7 (upd (h.1 7) (nN (ms h)) (nI k))) 8 (upd (h.1 8) (nN (ms h)) (nI (n / 100)))) 9 (upd (h.1 9) (nN (ms h)) (nI (n % 100)))) 10 (upd (h.1 10) (nN (ms h)) (nI (c / 10)))) 11 (upd (h.1 11) (nN (ms h)) (nI (c % 10)))) 12 (upd (h.1 12) (nN (ms h)) (nI (nD (ms h) + e / 10)))) 13 (upd (h.1 13) (nN (ms h)) d)) 14 (upd (h.1 14) (nN (ms h)) (nI (e % 10)))) 6 (upd (h.1 6) 9 (nI (nN (ms h) + 1))), sI (sI (sI (sI (sI (sI (sI (sI (sI (sI (sI (h) 7 (upd (h.1 7) (nN (ms h)) (nI k))) 8 (upd (h.1 8) (nN (ms h)) (nI (n / 100)))) 9 (upd (h.1 9) (nN (ms h)) (nI (n % 100)))) 10 (upd (h.1 10) (nN (ms h)) (nI (c / 10)))) 11 (upd (h.1 11) (nN (ms h)) (nI (c % 10)))) 12 (upd (h.1 12) (nN (ms h)) (nI (nD (ms h) + e / 10)))) 13 (upd (h.1 13) (nN (ms h)) d)) 14 (upd (h.1 14) (nN (ms h)) (nI (e % 10)))) 6 (upd (h.1 6) 9 (nI (nN (ms h) + 1)))) 78 (lr9 (h.1 78) (nN (ms h)) k (n / 100) (n % 100) (c / 10) (c % 10) (nD (ms h) + e / 10) (e % 10) d)) 74 (upd (h.1 74) 1 (nI (nN (ms h) + 1))), ?_, ?_, ?_, rfl, rfl⟩
                      · refine gd_ild1 dX8_letter_0 ?_
                        refine gd_bipush (v := nI 6) dX8_letter_1 (by decide) ?_
                        refine gd_cS2i dX8_letter_3 ct_8_48 ⟨Nat.le_of_ble_eq_true rfl, Nat.le_of_ble_eq_true rfl⟩ (Nat.le_of_ble_eq_true rfl) (Nat.le_of_ble_eq_true rfl) (c_isBelow_t hk (by decide) _) ?_
                        refine gd_if_eq_f 43 dX8_letter_6 (by decide) (by decide) ?_
                        refine gd_ald0 dX8_letter_9 (by decide) ?_
                        refine gd_ild2 dX8_letter_10 ?_
                        refine gd_cV1i dX8_letter_11 ct_8_123 rc_0 ⟨Nat.le_of_ble_eq_true rfl, Nat.le_of_ble_eq_true rfl⟩ (Nat.le_of_ble_eq_true rfl) (Nat.le_of_ble_eq_true rfl) (c_isAbout_t i.w i.c hn ho hw) ?_
                        refine gd_if_eq_f 43 dX8_letter_14 (by decide) (by decide) ?_
                        refine gd_ild3 dX8_letter_17 ?_
                        refine gd_cS1i dX8_letter_18 ct_8_126 ⟨Nat.le_of_ble_eq_true rfl, Nat.le_of_ble_eq_true rfl⟩ (Nat.le_of_ble_eq_true rfl) (Nat.le_of_ble_eq_true rfl) (c_isWhen_t hc h4 _) ?_
                        refine gd_if_eq_f 43 dX8_letter_21 (by decide) (by decide) ?_
                        refine gd_ald0 dX8_letter_24 (by decide) ?_
                        refine gd_ild1 dX8_letter_25 ?_
                        refine gd_ild4 dX8_letter_26 ?_
                        refine gd_cV2i dX8_letter_28 ct_8_129 rc_0 ⟨Nat.le_of_ble_eq_true rfl, Nat.le_of_ble_eq_true rfl⟩ (Nat.le_of_ble_eq_true rfl) (Nat.le_of_ble_eq_true rfl) (c_isFrom i.w i.c hk d) ?_
                        rw [hfr]
                        refine gd_if_eq_f 43 dX8_letter_31 (by decide) (by decide) ?_
                        refine gd_ild1 dX8_letter_34 ?_
                        refine gd_ild5 dX8_letter_35 ?_
                        refine gd_cS2i dX8_letter_37 ct_8_132 ⟨Nat.le_of_ble_eq_true rfl, Nat.le_of_ble_eq_true rfl⟩ (Nat.le_of_ble_eq_true rfl) (Nat.le_of_ble_eq_true rfl) (c_isLate_t hm hk he h5 _) ?_
                        refine gd_if_ne_t 50 dX8_letter_40 (by decide) (by decide) ?_
                        refine gd_ald0 dX8_letter_50 (by decide) ?_
                        refine gd_getR (r := 1) dX8_letter_51 fl_8_12 rfl rfl rfl (by decide) ?_
                        refine gd_getR (r := 6) dX8_letter_54 fl_8_100 rfl rfl rfl (by decide) ?_
                        refine gd_getI dX8_letter_57 fl_8_135 rfl rfl ?_
                        refine gd_bipush (v := nI 30) dX8_letter_60 (by decide) ?_
                        refine gd_icmp_lt_t 72 dX8_letter_62 (by decide) (by rw [i.cN]; exact nI_lt (by omega) (by omega)) ?_
                        refine gd_ald0 dX8_letter_72 (by decide) ?_
                        refine gd_getR (r := 1) dX8_letter_73 fl_8_12 rfl rfl rfl (by decide) ?_
                        refine gd_getR (r := 6) dX8_letter_76 fl_8_100 rfl rfl rfl (by decide) ?_
                        refine gd_ild1 dX8_letter_79 ?_
                        refine gd_ild2 dX8_letter_80 ?_
                        refine gd_ild3 dX8_letter_81 ?_
                        refine gd_ild4 dX8_letter_82 ?_
                        refine gd_ild5 dX8_letter_84 ?_
                        refine gd_ald0 dX8_letter_86 (by decide) ?_
                        refine gd_getR (r := 1) dX8_letter_87 fl_8_12 rfl rfl rfl (by decide) ?_
                        refine gd_getR (r := 2) dX8_letter_90 fl_8_57 rfl rfl rfl (by decide) ?_
                        refine gd_getI dX8_letter_93 fl_8_120 rfl rfl ?_
                        rw [show h.1 2 4 = nI (nD (ms h)) from i.cD]
                        refine gd_cV6i dX8_letter_96 ct_8_138 rc_6 ⟨Nat.le_of_ble_eq_true rfl, Nat.le_of_ble_eq_true rfl⟩ (Nat.le_of_ble_eq_true rfl) (Nat.le_of_ble_eq_true rfl) (c_addLetter i hN hn hc he) ?_
                        refine gd_iret dX8_letter_99 rfl rfl ?_
                        rfl
                      · refine gd_ild1 dX9_letter_0 ?_
                        refine gd_ic0 dX9_letter_1 ?_
                        refine gd_ic5 dX9_letter_2 ?_
                        refine gd_cS3i dX9_letter_3 ct_9_79 ⟨Nat.le_of_ble_eq_true rfl, Nat.le_of_ble_eq_true rfl⟩ (Nat.le_of_ble_eq_true rfl) (Nat.le_of_ble_eq_true rfl) (m_in_t (m := 5) (by omega) (by decide) _) ?_
                        refine gd_if_eq_f 52 dX9_letter_6 (by decide) (by decide) ?_
                        refine gd_ild2 dX9_letter_9 ?_
                        refine gd_if_lt_f 52 dX9_letter_10 (by decide) (by exact nI_pos (by omega)) ?_
                        refine gd_ald0 dX9_letter_13 (by decide) ?_
                        refine gd_ild2 dX9_letter_14 ?_
                        refine gd_bipush (v := nI 100) dX9_letter_15 (by decide) ?_
                        refine gd_idiv dX9_letter_17 (by decide) ?_
                        rw [pk_div hn (by decide) (by decide)]
                        refine gd_cV1i dX9_letter_18 ct_9_101 rc_72 ⟨Nat.le_of_ble_eq_true rfl, Nat.le_of_ble_eq_true rfl⟩ (Nat.le_of_ble_eq_true rfl) (Nat.le_of_ble_eq_true rfl) (m_isTown_t (h := sI (sI (sI (sI (sI (sI (sI (sI (sI (h) 7 (upd (h.1 7) (nN (ms h)) (nI k))) 8 (upd (h.1 8) (nN (ms h)) (nI (n / 100)))) 9 (upd (h.1 9) (nN (ms h)) (nI (n % 100)))) 10 (upd (h.1 10) (nN (ms h)) (nI (c / 10)))) 11 (upd (h.1 11) (nN (ms h)) (nI (c % 10)))) 12 (upd (h.1 12) (nN (ms h)) (nI (nD (ms h) + e / 10)))) 13 (upd (h.1 13) (nN (ms h)) d)) 14 (upd (h.1 14) (nN (ms h)) (nI (e % 10)))) 6 (upd (h.1 6) 9 (nI (nN (ms h) + 1)))) (by exact i.w) ho) ?_
                        refine gd_if_eq_f 52 dX9_letter_21 (by decide) (by decide) ?_
                        refine gd_ild2 dX9_letter_24 ?_
                        refine gd_bipush (v := nI 100) dX9_letter_25 (by decide) ?_
                        refine gd_irem dX9_letter_27 (by decide) ?_
                        rw [pk_rem hn (by decide) (by decide)]
                        refine gd_bipush (v := nI 15) dX9_letter_28 (by decide) ?_
                        refine gd_icmp_gt_f 52 dX9_letter_30 (by decide) (by exact nI_nlt (by omega) (by omega)) ?_
                        refine gd_ild3 dX9_letter_33 ?_
                        refine gd_ic0 dX9_letter_34 ?_
                        refine gd_sipush (v := nI 9994) dX9_letter_35 (by decide) ?_
                        refine gd_cS3i dX9_letter_38 ct_9_79 ⟨Nat.le_of_ble_eq_true rfl, Nat.le_of_ble_eq_true rfl⟩ (Nat.le_of_ble_eq_true rfl) (Nat.le_of_ble_eq_true rfl) (m_in_t (m := 9994) (by omega) (by decide) _) ?_
                        refine gd_if_eq_f 52 dX9_letter_41 (by decide) (by decide) ?_
                        refine gd_ild3 dX9_letter_44 ?_
                        refine gd_bipush (v := nI 10) dX9_letter_45 (by decide) ?_
                        refine gd_irem dX9_letter_47 (by decide) ?_
                        rw [pk_rem (by omega) (by decide) (by decide)]
                        refine gd_ic4 dX9_letter_48 ?_
                        refine gd_icmp_le_t 58 dX9_letter_49 (by decide) (by exact nI_le (by omega) (by omega)) ?_
                        refine gd_ald0 dX9_letter_58 (by decide) ?_
                        refine gd_ild1 dX9_letter_59 ?_
                        refine gd_ild4 dX9_letter_60 ?_
                        refine gd_cV2i dX9_letter_62 ct_9_116 rc_72 ⟨Nat.le_of_ble_eq_true rfl, Nat.le_of_ble_eq_true rfl⟩ (Nat.le_of_ble_eq_true rfl) (Nat.le_of_ble_eq_true rfl) (m_isFrom (h := sI (sI (sI (sI (sI (sI (sI (sI (sI (h) 7 (upd (h.1 7) (nN (ms h)) (nI k))) 8 (upd (h.1 8) (nN (ms h)) (nI (n / 100)))) 9 (upd (h.1 9) (nN (ms h)) (nI (n % 100)))) 10 (upd (h.1 10) (nN (ms h)) (nI (c / 10)))) 11 (upd (h.1 11) (nN (ms h)) (nI (c % 10)))) 12 (upd (h.1 12) (nN (ms h)) (nI (nD (ms h) + e / 10)))) 13 (upd (h.1 13) (nN (ms h)) d)) 14 (upd (h.1 14) (nN (ms h)) (nI (e % 10)))) 6 (upd (h.1 6) 9 (nI (nN (ms h) + 1)))) (by exact i.w) hk d) ?_
                        rw [show frB (ms (sI (sI (sI (sI (sI (sI (sI (sI (sI (h) 7 (upd (h.1 7) (nN (ms h)) (nI k))) 8 (upd (h.1 8) (nN (ms h)) (nI (n / 100)))) 9 (upd (h.1 9) (nN (ms h)) (nI (n % 100)))) 10 (upd (h.1 10) (nN (ms h)) (nI (c / 10)))) 11 (upd (h.1 11) (nN (ms h)) (nI (c % 10)))) 12 (upd (h.1 12) (nN (ms h)) (nI (nD (ms h) + e / 10)))) 13 (upd (h.1 13) (nN (ms h)) d)) 14 (upd (h.1 14) (nN (ms h)) (nI (e % 10)))) 6 (upd (h.1 6) 9 (nI (nN (ms h) + 1))))) k d = true from hfr]
                        refine gd_if_eq_f 98 dX9_letter_65 (by decide) (by decide) ?_
                        refine gd_ild5 dX9_letter_68 ?_
                        refine gd_ic0 dX9_letter_70 ?_
                        refine gd_sipush (v := nI 995) dX9_letter_71 (by decide) ?_
                        refine gd_cS3i dX9_letter_74 ct_9_79 ⟨Nat.le_of_ble_eq_true rfl, Nat.le_of_ble_eq_true rfl⟩ (Nat.le_of_ble_eq_true rfl) (Nat.le_of_ble_eq_true rfl) (m_in_t (m := 995) (by omega) (by decide) _) ?_
                        refine gd_if_eq_f 98 dX9_letter_77 (by decide) (by decide) ?_
                        refine m_late_t hm hk he h5 ?_
                        refine gd_ald0 dX9_letter_104 (by decide) ?_
                        refine gd_getR (r := 74) dX9_letter_105 fl_9_13 rfl rfl rfl (by decide) ?_
                        refine gd_ic1 dX9_letter_108 ?_
                        refine gd_iald (n := 5) dX9_letter_109 rfl (by decide) (by repeat' (first | with_reducible rfl | apply ni_add | apply ni_mul)) (by omega) ?_
                        rw [show (sI (sI (sI (sI (sI (sI (sI (sI (sI (h) 7 (upd (h.1 7) (nN (ms h)) (nI k))) 8 (upd (h.1 8) (nN (ms h)) (nI (n / 100)))) 9 (upd (h.1 9) (nN (ms h)) (nI (n % 100)))) 10 (upd (h.1 10) (nN (ms h)) (nI (c / 10)))) 11 (upd (h.1 11) (nN (ms h)) (nI (c % 10)))) 12 (upd (h.1 12) (nN (ms h)) (nI (nD (ms h) + e / 10)))) 13 (upd (h.1 13) (nN (ms h)) d)) 14 (upd (h.1 14) (nN (ms h)) (nI (e % 10)))) 6 (upd (h.1 6) 9 (nI (nN (ms h) + 1)))).1 74 1 = nI (nN (ms h)) from i.mN]
                        refine gd_bipush (v := nI 30) dX9_letter_110 (by decide) ?_
                        refine gd_icmp_ne_t 121 dX9_letter_112 (by decide) (by exact fun z => absurd ((nI_eq (by omega) (by omega)).mp z) (by omega)) ?_
                        refine gd_bipush (v := nI 9) dX9_letter_121 (by decide) ?_
                        refine gd_ald0 dX9_letter_123 (by decide) ?_
                        refine gd_getR (r := 74) dX9_letter_124 fl_9_13 rfl rfl rfl (by decide) ?_
                        refine gd_ic1 dX9_letter_127 ?_
                        refine gd_iald (n := 5) dX9_letter_128 rfl (by decide) (by repeat' (first | with_reducible rfl | apply ni_add | apply ni_mul)) (by omega) ?_
                        rw [show (sI (sI (sI (sI (sI (sI (sI (sI (sI (h) 7 (upd (h.1 7) (nN (ms h)) (nI k))) 8 (upd (h.1 8) (nN (ms h)) (nI (n / 100)))) 9 (upd (h.1 9) (nN (ms h)) (nI (n % 100)))) 10 (upd (h.1 10) (nN (ms h)) (nI (c / 10)))) 11 (upd (h.1 11) (nN (ms h)) (nI (c % 10)))) 12 (upd (h.1 12) (nN (ms h)) (nI (nD (ms h) + e / 10)))) 13 (upd (h.1 13) (nN (ms h)) d)) 14 (upd (h.1 14) (nN (ms h)) (nI (e % 10)))) 6 (upd (h.1 6) 9 (nI (nN (ms h) + 1)))).1 74 1 = nI (nN (ms h)) from i.mN]
                        refine gd_imul dX9_letter_129 ?_
                        rw [show nI 9 * nI (nN (ms h)) = nI (9 * nN (ms h)) from pk_mul _ _]
                        refine gd_ist6 dX9_letter_130 rfl ?_
                        refine gd_ald0 dX9_letter_132 (by decide) ?_
                        refine gd_getR (r := 78) dX9_letter_133 fl_9_25 rfl rfl rfl (by decide) ?_
                        refine gd_ild6 dX9_letter_136 ?_
                        refine gd_ic0 dX9_letter_138 ?_
                        refine gd_iadd dX9_letter_139 ?_
                        refine gd_ild1 dX9_letter_140 ?_
                        refine gd_iast (n := 270) dX9_letter_141 rfl (by decide) (by repeat' (first | with_reducible rfl | apply ni_add | apply ni_mul)) (by omega) ?_
                        refine gd_ald0 dX9_letter_142 (by decide) ?_
                        refine gd_getR (r := 78) dX9_letter_143 fl_9_25 rfl rfl rfl (by decide) ?_
                        refine gd_ild6 dX9_letter_146 ?_
                        refine gd_ic1 dX9_letter_148 ?_
                        refine gd_iadd dX9_letter_149 ?_
                        refine gd_ild2 dX9_letter_150 ?_
                        refine gd_bipush (v := nI 100) dX9_letter_151 (by decide) ?_
                        refine gd_idiv dX9_letter_153 (by decide) ?_
                        rw [pk_div hn (by decide) (by decide)]
                        refine gd_iast (n := 270) dX9_letter_154 rfl (by decide) (by repeat' (first | with_reducible rfl | apply ni_add | apply ni_mul)) (by omega) ?_
                        refine gd_ald0 dX9_letter_155 (by decide) ?_
                        refine gd_getR (r := 78) dX9_letter_156 fl_9_25 rfl rfl rfl (by decide) ?_
                        refine gd_ild6 dX9_letter_159 ?_
                        refine gd_ic2 dX9_letter_161 ?_
                        refine gd_iadd dX9_letter_162 ?_
                        refine gd_ild2 dX9_letter_163 ?_
                        refine gd_bipush (v := nI 100) dX9_letter_164 (by decide) ?_
                        refine gd_irem dX9_letter_166 (by decide) ?_
                        rw [pk_rem hn (by decide) (by decide)]
                        refine gd_iast (n := 270) dX9_letter_167 rfl (by decide) (by repeat' (first | with_reducible rfl | apply ni_add | apply ni_mul)) (by omega) ?_
                        refine gd_ald0 dX9_letter_168 (by decide) ?_
                        refine gd_getR (r := 78) dX9_letter_169 fl_9_25 rfl rfl rfl (by decide) ?_
                        refine gd_ild6 dX9_letter_172 ?_
                        refine gd_ic3 dX9_letter_174 ?_
                        refine gd_iadd dX9_letter_175 ?_
                        refine gd_ild3 dX9_letter_176 ?_
                        refine gd_bipush (v := nI 10) dX9_letter_177 (by decide) ?_
                        refine gd_idiv dX9_letter_179 (by decide) ?_
                        rw [pk_div (by omega) (by decide) (by decide)]
                        refine gd_iast (n := 270) dX9_letter_180 rfl (by decide) (by repeat' (first | with_reducible rfl | apply ni_add | apply ni_mul)) (by omega) ?_
                        refine gd_ald0 dX9_letter_181 (by decide) ?_
                        refine gd_getR (r := 78) dX9_letter_182 fl_9_25 rfl rfl rfl (by decide) ?_
                        refine gd_ild6 dX9_letter_185 ?_
                        refine gd_ic4 dX9_letter_187 ?_
                        refine gd_iadd dX9_letter_188 ?_
                        refine gd_ild3 dX9_letter_189 ?_
                        refine gd_bipush (v := nI 10) dX9_letter_190 (by decide) ?_
                        refine gd_irem dX9_letter_192 (by decide) ?_
                        rw [pk_rem (by omega) (by decide) (by decide)]
                        refine gd_iast (n := 270) dX9_letter_193 rfl (by decide) (by repeat' (first | with_reducible rfl | apply ni_add | apply ni_mul)) (by omega) ?_
                        refine gd_ald0 dX9_letter_194 (by decide) ?_
                        refine gd_getR (r := 78) dX9_letter_195 fl_9_25 rfl rfl rfl (by decide) ?_
                        refine gd_ild6 dX9_letter_198 ?_
                        refine gd_ic5 dX9_letter_200 ?_
                        refine gd_iadd dX9_letter_201 ?_
                        refine gd_ald0 dX9_letter_202 (by decide) ?_
                        refine gd_getR (r := 74) dX9_letter_203 fl_9_13 rfl rfl rfl (by decide) ?_
                        refine gd_ic4 dX9_letter_206 ?_
                        refine gd_iald (n := 5) dX9_letter_207 rfl (by decide) (by repeat' (first | with_reducible rfl | apply ni_add | apply ni_mul)) (by omega) ?_
                        refine gd_ild5 dX9_letter_208 ?_
                        refine gd_bipush (v := nI 10) dX9_letter_210 (by decide) ?_
                        refine gd_idiv dX9_letter_212 (by decide) ?_
                        rw [pk_div (by omega) (by decide) (by decide)]
                        refine gd_iadd dX9_letter_213 ?_
                        refine gd_iast (n := 270) dX9_letter_214 rfl (by decide) (by repeat' (first | with_reducible rfl | apply ni_add | apply ni_mul)) (by omega) ?_
                        refine gd_ald0 dX9_letter_215 (by decide) ?_
                        refine gd_getR (r := 78) dX9_letter_216 fl_9_25 rfl rfl rfl (by decide) ?_
                        refine gd_ild6 dX9_letter_219 ?_
                        refine gd_bipush (v := nI 6) dX9_letter_221 (by decide) ?_
                        refine gd_iadd dX9_letter_223 ?_
                        refine gd_ic0 dX9_letter_224 ?_
                        refine gd_iast (n := 270) dX9_letter_225 rfl (by decide) (by repeat' (first | with_reducible rfl | apply ni_add | apply ni_mul)) (by omega) ?_
                        refine gd_ald0 dX9_letter_226 (by decide) ?_
                        refine gd_getR (r := 78) dX9_letter_227 fl_9_25 rfl rfl rfl (by decide) ?_
                        refine gd_ild6 dX9_letter_230 ?_
                        refine gd_bipush (v := nI 7) dX9_letter_232 (by decide) ?_
                        refine gd_iadd dX9_letter_234 ?_
                        refine gd_ild4 dX9_letter_235 ?_
                        refine gd_iast (n := 270) dX9_letter_237 rfl (by decide) (by repeat' (first | with_reducible rfl | apply ni_add | apply ni_mul)) (by omega) ?_
                        refine gd_ald0 dX9_letter_238 (by decide) ?_
                        refine gd_getR (r := 78) dX9_letter_239 fl_9_25 rfl rfl rfl (by decide) ?_
                        refine gd_ild6 dX9_letter_242 ?_
                        refine gd_bipush (v := nI 8) dX9_letter_244 (by decide) ?_
                        refine gd_iadd dX9_letter_246 ?_
                        refine gd_ild5 dX9_letter_247 ?_
                        refine gd_bipush (v := nI 10) dX9_letter_249 (by decide) ?_
                        refine gd_irem dX9_letter_251 (by decide) ?_
                        rw [pk_rem (by omega) (by decide) (by decide)]
                        refine gd_iast (n := 270) dX9_letter_252 rfl (by decide) (by repeat' (first | with_reducible rfl | apply ni_add | apply ni_mul)) (by omega) ?_
                        refine gd_ald0 dX9_letter_253 (by decide) ?_
                        refine gd_getR (r := 74) dX9_letter_254 fl_9_13 rfl rfl rfl (by decide) ?_
                        refine gd_ic1 dX9_letter_257 ?_
                        refine gd_dup2 (by decide) dX9_letter_258 ?_
                        refine gd_iald (n := 5) dX9_letter_259 rfl (by decide) (by repeat' (first | with_reducible rfl | apply ni_add | apply ni_mul)) (by omega) ?_
                        refine gd_ic1 dX9_letter_260 ?_
                        refine gd_iadd dX9_letter_261 ?_
                        refine gd_iast (n := 5) dX9_letter_262 rfl (by decide) (by repeat' (first | with_reducible rfl | apply ni_add | apply ni_mul)) (by omega) ?_
                        refine gd_ald0 dX9_letter_263 (by decide) ?_
                        refine gd_getR (r := 74) dX9_letter_264 fl_9_13 rfl rfl rfl (by decide) ?_
                        refine gd_ic1 dX9_letter_267 ?_
                        refine gd_iald (n := 5) dX9_letter_268 rfl (by decide) (by repeat' (first | with_reducible rfl | apply ni_add | apply ni_mul)) (by omega) ?_
                        refine gd_ic1 dX9_letter_269 ?_
                        refine gd_isub dX9_letter_270 ?_
                        refine gd_iret dX9_letter_271 rfl rfl ?_
                        simp only [sI_sI, sI_at, sI_2, sL_sL, sL_at, sL_1, Nat.reduceEqDiff, reduceIte, i.mN, i.mD, nI_add, upd_ss]
                        rw [pk_sub (by omega), Nat.add_sub_cancel]
                        rfl
                      · have em : ms (sI (sI (sI (sI (sI (sI (sI (sI (sI (sI (sI (h) 7 (upd (h.1 7) (nN (ms h)) (nI k))) 8 (upd (h.1 8) (nN (ms h)) (nI (n / 100)))) 9 (upd (h.1 9) (nN (ms h)) (nI (n % 100)))) 10 (upd (h.1 10) (nN (ms h)) (nI (c / 10)))) 11 (upd (h.1 11) (nN (ms h)) (nI (c % 10)))) 12 (upd (h.1 12) (nN (ms h)) (nI (nD (ms h) + e / 10)))) 13 (upd (h.1 13) (nN (ms h)) d)) 14 (upd (h.1 14) (nN (ms h)) (nI (e % 10)))) 6 (upd (h.1 6) 9 (nI (nN (ms h) + 1)))) 78 (lr9 (h.1 78) (nN (ms h)) k (n / 100) (n % 100) (c / 10) (c % 10) (nD (ms h) + e / 10) (e % 10) d)) 74 (upd (h.1 74) 1 (nI (nN (ms h) + 1)))) = sR (sR (ms h) 4 (trR 4 (lr9 (h.1 78) (nN (ms h)) k (n / 100) (n % 100) (c / 10) (c % 10) (nD (ms h) + e / 10) (e % 10) d))) 0 (trR 0 (upd (h.1 74) 1 (nI (nN (ms h) + 1)))) := by
                          rw [ms_set 0 (by decide), ms_set 4 (by decide), ms_si (Or.inl (by decide)), ms_si (Or.inl (by decide)), ms_si (Or.inl (by decide)), ms_si (Or.inl (by decide)), ms_si (Or.inl (by decide)), ms_si (Or.inl (by decide)), ms_si (Or.inl (by decide)), ms_si (Or.inl (by decide)), ms_si (Or.inl (by decide))]
                        have e0 : nN (sR (sR (ms h) 4 (trR 4 (lr9 (h.1 78) (nN (ms h)) k (n / 100) (n % 100) (c / 10) (c % 10) (nD (ms h) + e / 10) (e % 10) d))) 0 (trR 0 (upd (h.1 74) 1 (nI (nN (ms h) + 1))))) = nN (ms h) + 1 := tn_nI (by omega)
                        have E : ∀ j, j < 9 * nN (ms h) → (sR (sR (ms h) 4 (trR 4 (lr9 (h.1 78) (nN (ms h)) k (n / 100) (n % 100) (c / 10) (c % 10) (nD (ms h) + e / 10) (e % 10) d))) 0 (trR 0 (upd (h.1 74) 1 (nI (nN (ms h) + 1))))) 4 j = ms h 4 j := fun j hj => by show trR 4 (lr9 (h.1 78) (nN (ms h)) k (n / 100) (n % 100) (c / 10) (c % 10) (nD (ms h) + e / 10) (e % 10) d) j = _; rw [trR_at (show j < 270 by omega), lr9_o hj, ms_r4 (by omega)]
                        have F : ∀ j, j < 9 → (sR (sR (ms h) 4 (trR 4 (lr9 (h.1 78) (nN (ms h)) k (n / 100) (n % 100) (c / 10) (c % 10) (nD (ms h) + e / 10) (e % 10) d))) 0 (trR 0 (upd (h.1 74) 1 (nI (nN (ms h) + 1))))) 4 (9 * nN (ms h) + j) = lr9 (h.1 78) (nN (ms h)) k (n / 100) (n % 100) (c / 10) (c % 10) (nD (ms h) + e / 10) (e % 10) d (9 * nN (ms h) + j) := fun j hj => trR_at (show 9 * nN (ms h) + j < 270 by omega)
                        have fr1 : d = -1 ∨ ∃ j, j < nN (ms h) ∧ d = nI j := by
                          unfold frB at hfr
                          split at hfr
                          · rcases rng d (nN (ms h)) (by omega) with ⟨t, ht, e⟩ | hd
                            · exact Or.inr ⟨t, ht, e⟩
                            · exact absurd (of_decide_eq_true hfr) hd
                          · rw [Bool.or_eq_true, Bool.and_eq_true] at hfr
                            rcases hfr with z | z
                            · exact Or.inl (of_decide_eq_true z)
                            · rcases rng d (nN (ms h)) (by omega) with ⟨t, ht, e⟩ | hd
                              · exact Or.inr ⟨t, ht, e⟩
                              · exact absurd (of_decide_eq_true z.2) hd
                        have fr2 : k = 3 → ¬ d = -1 := by
                          intro k3 dm
                          unfold frB at hfr
                          rw [if_pos k3] at hfr
                          have := (of_decide_eq_true hfr).1
                          rw [dm] at this
                          exact absurd this (by decide)
                        refine inv_world i (fun k hk => by rw [sI_n (by omega), sI_n (by omega), sI_n (by omega), sI_n (by omega), sI_n (by omega), sI_n (by omega), sI_n (by omega), sI_n (by omega), sI_n (by omega), sI_n (by omega), sI_n (by omega)]) rfl ?_ ?_
                        · rw [em]
                          refine ⟨i.w.t, ⟨by rw [e0]; rfl, by omega⟩, i.w.x, i.w.o, i.w.d, i.w.g, i.w.c, i.w.h, ?_, i.w.f, i.w.c6, i.w.r, i.w.k⟩
                          · rw [e0]
                            intro l hl
                            by_cases ll : l < nN (ms h)
                            · obtain ⟨k1, t1, w1, d1, r1, q1, o1, e1, a1, a2, a3, a4, a5, a6, a7, a8, b1, b2, b3, b4, b5, b6, b7, b8, b9, b10⟩ := i.w.l l (by omega)
                              refine ⟨k1, t1, w1, d1, r1, q1, o1, e1, (E _ (by omega)).trans a1, (E _ (by omega)).trans a2, (E _ (by omega)).trans a3, (E _ (by omega)).trans a4, (E _ (by omega)).trans a5, (E _ (by omega)).trans a6, (E _ (by omega)).trans a7, (E _ (by omega)).trans a8, b1, b2, b3, b4, b5, b6, b7, b8, ?_, ?_⟩
                              · rw [E _ (by omega)]; exact b9
                              · rw [E _ (by omega)]; exact b10
                            · have ln : l = nN (ms h) := by omega
                              subst ln
                              refine ⟨k, n / 100, n % 100, c / 10, c % 10, nD (ms h) + e / 10, 0, e % 10, (F 0 (by decide)).trans lr9_0, (F 1 (by decide)).trans lr9_1, (F 2 (by decide)).trans lr9_2, (F 3 (by decide)).trans lr9_3, (F 4 (by decide)).trans lr9_4, (F 5 (by decide)).trans lr9_5, (F 6 (by decide)).trans lr9_6, (F 8 (by decide)).trans lr9_8, by omega, ho, by omega, by omega, by omega, by have := i.w.d.2; omega, by omega, by omega, ?_, ?_⟩
                              · rw [show _ = _ from (F 7 (by decide)).trans lr9_7]; exact fr1
                              · rw [show _ = _ from (F 7 (by decide)).trans lr9_7]; exact fr2
                        · rw [em]
                          refine ⟨i.c.t, i.c.d, ?_, i.c.x, i.c.o, i.c.g, i.c.c, i.c.h, i.c.h0, ?_, ?_, ?_, ?_, ?_, ?_, ?_, ?_, ?_, i.c.f, i.c.c6, i.c.rk, i.c.rl, i.c.rh, i.c.ks, i.c.km, i.c.kd⟩
                          · rfl
                          · rw [e0]
                            intro l hl
                            show upd (h.1 7) (nN (ms h)) (nI k) l = (sR (sR (ms h) 4 (trR 4 (lr9 (h.1 78) (nN (ms h)) k (n / 100) (n % 100) (c / 10) (c % 10) (nD (ms h) + e / 10) (e % 10) d))) 0 (trR 0 (upd (h.1 74) 1 (nI (nN (ms h) + 1))))) 4 (9 * l)
                            rw [upd_at]
                            by_cases ln : l = nN (ms h)
                            · rw [if_pos ln, ln]; exact ((F 0 (by decide)).trans lr9_0).symm
                            · rw [if_neg ln, E _ (by omega)]; exact i.c.lk1 l (by omega)
                          · rw [e0]
                            intro l hl
                            show upd (h.1 8) (nN (ms h)) (nI (n / 100)) l = (sR (sR (ms h) 4 (trR 4 (lr9 (h.1 78) (nN (ms h)) k (n / 100) (n % 100) (c / 10) (c % 10) (nD (ms h) + e / 10) (e % 10) d))) 0 (trR 0 (upd (h.1 74) 1 (nI (nN (ms h) + 1))))) 4 (9 * l + 1)
                            rw [upd_at]
                            by_cases ln : l = nN (ms h)
                            · rw [if_pos ln, ln]; exact ((F 1 (by decide)).trans lr9_1).symm
                            · rw [if_neg ln, E _ (by omega)]; exact i.c.lt1 l (by omega)
                          · rw [e0]
                            intro l hl
                            show upd (h.1 9) (nN (ms h)) (nI (n % 100)) l = (sR (sR (ms h) 4 (trR 4 (lr9 (h.1 78) (nN (ms h)) k (n / 100) (n % 100) (c / 10) (c % 10) (nD (ms h) + e / 10) (e % 10) d))) 0 (trR 0 (upd (h.1 74) 1 (nI (nN (ms h) + 1))))) 4 (9 * l + 2)
                            rw [upd_at]
                            by_cases ln : l = nN (ms h)
                            · rw [if_pos ln, ln]; exact ((F 2 (by decide)).trans lr9_2).symm
                            · rw [if_neg ln, E _ (by omega)]; exact i.c.lw1 l (by omega)
                          · rw [e0]
                            intro l hl
                            show upd (h.1 10) (nN (ms h)) (nI (c / 10)) l = (sR (sR (ms h) 4 (trR 4 (lr9 (h.1 78) (nN (ms h)) k (n / 100) (n % 100) (c / 10) (c % 10) (nD (ms h) + e / 10) (e % 10) d))) 0 (trR 0 (upd (h.1 74) 1 (nI (nN (ms h) + 1))))) 4 (9 * l + 3)
                            rw [upd_at]
                            by_cases ln : l = nN (ms h)
                            · rw [if_pos ln, ln]; exact ((F 3 (by decide)).trans lr9_3).symm
                            · rw [if_neg ln, E _ (by omega)]; exact i.c.ld1 l (by omega)
                          · rw [e0]
                            intro l hl
                            show upd (h.1 11) (nN (ms h)) (nI (c % 10)) l = (sR (sR (ms h) 4 (trR 4 (lr9 (h.1 78) (nN (ms h)) k (n / 100) (n % 100) (c / 10) (c % 10) (nD (ms h) + e / 10) (e % 10) d))) 0 (trR 0 (upd (h.1 74) 1 (nI (nN (ms h) + 1))))) 4 (9 * l + 4)
                            rw [upd_at]
                            by_cases ln : l = nN (ms h)
                            · rw [if_pos ln, ln]; exact ((F 4 (by decide)).trans lr9_4).symm
                            · rw [if_neg ln, E _ (by omega)]; exact i.c.lr1 l (by omega)
                          · rw [e0]
                            intro l hl
                            show upd (h.1 12) (nN (ms h)) (nI (nD (ms h) + e / 10)) l = (sR (sR (ms h) 4 (trR 4 (lr9 (h.1 78) (nN (ms h)) k (n / 100) (n % 100) (c / 10) (c % 10) (nD (ms h) + e / 10) (e % 10) d))) 0 (trR 0 (upd (h.1 74) 1 (nI (nN (ms h) + 1))))) 4 (9 * l + 5)
                            rw [upd_at]
                            by_cases ln : l = nN (ms h)
                            · rw [if_pos ln, ln]; exact ((F 5 (by decide)).trans lr9_5).symm
                            · rw [if_neg ln, E _ (by omega)]; exact i.c.lq1 l (by omega)
                          · rw [e0]
                            intro l hl
                            show upd (h.1 13) (nN (ms h)) d l = (sR (sR (ms h) 4 (trR 4 (lr9 (h.1 78) (nN (ms h)) k (n / 100) (n % 100) (c / 10) (c % 10) (nD (ms h) + e / 10) (e % 10) d))) 0 (trR 0 (upd (h.1 74) 1 (nI (nN (ms h) + 1))))) 4 (9 * l + 7)
                            rw [upd_at]
                            by_cases ln : l = nN (ms h)
                            · rw [if_pos ln, ln]; exact ((F 7 (by decide)).trans lr9_7).symm
                            · rw [if_neg ln, E _ (by omega)]; exact i.c.lf1 l (by omega)
                          · rw [e0]
                            intro l hl
                            show upd (h.1 14) (nN (ms h)) (nI (e % 10)) l = (sR (sR (ms h) 4 (trR 4 (lr9 (h.1 78) (nN (ms h)) k (n / 100) (n % 100) (c / 10) (c % 10) (nD (ms h) + e / 10) (e % 10) d))) 0 (trR 0 (upd (h.1 74) 1 (nI (nN (ms h) + 1))))) 4 (9 * l + 8)
                            rw [upd_at]
                            by_cases ln : l = nN (ms h)
                            · rw [if_pos ln, ln]; exact ((F 8 (by decide)).trans lr9_8).symm
                            · rw [if_neg ln, E _ (by omega)]; exact i.c.le1 l (by omega)
                          · show h.1 6 8 = nI (bset (fun l => decide ((sR (sR (ms h) 4 (trR 4 (lr9 (h.1 78) (nN (ms h)) k (n / 100) (n % 100) (c / 10) (c % 10) (nD (ms h) + e / 10) (e % 10) d))) 0 (trR 0 (upd (h.1 74) 1 (nI (nN (ms h) + 1))))) 4 (9 * l + 6) = nI 1)) (nN (sR (sR (ms h) 4 (trR 4 (lr9 (h.1 78) (nN (ms h)) k (n / 100) (n % 100) (c / 10) (c % 10) (nD (ms h) + e / 10) (e % 10) d))) 0 (trR 0 (upd (h.1 74) 1 (nI (nN (ms h) + 1)))))))
                            rw [e0, i.c.lo1]
                            congr 1
                            show bset _ _ = bset _ _ + _
                            rw [if_neg (fun z => absurd (((F 6 (by decide)).trans lr9_6).symm.trans (of_decide_eq_true z)) (by decide)), Nat.add_zero]
                            exact bset_congr (fun l hl => by rw [E _ (by omega)])
                    · refine Pas.find (h1 := h) (h2 := hf (h) 1) (v := -1000000002) (w := (-1000000000 : Int32) - nI 2) 1 i (by decide) (by decide) (by decide) (Same.rf _) (Same.rf _) ?_ ?_
                      · refine gd_ild1 dX8_letter_0 ?_
                        refine gd_bipush (v := nI 6) dX8_letter_1 (by decide) ?_
                        refine gd_cS2i dX8_letter_3 ct_8_48 ⟨Nat.le_of_ble_eq_true rfl, Nat.le_of_ble_eq_true rfl⟩ (Nat.le_of_ble_eq_true rfl) (Nat.le_of_ble_eq_true rfl) (c_isBelow_t hk (by decide) _) ?_
                        refine gd_if_eq_f 43 dX8_letter_6 (by decide) (by decide) ?_
                        refine gd_ald0 dX8_letter_9 (by decide) ?_
                        refine gd_ild2 dX8_letter_10 ?_
                        refine gd_cV1i dX8_letter_11 ct_8_123 rc_0 ⟨Nat.le_of_ble_eq_true rfl, Nat.le_of_ble_eq_true rfl⟩ (Nat.le_of_ble_eq_true rfl) (Nat.le_of_ble_eq_true rfl) (c_isAbout_t i.w i.c hn ho hw) ?_
                        refine gd_if_eq_f 43 dX8_letter_14 (by decide) (by decide) ?_
                        refine gd_ild3 dX8_letter_17 ?_
                        refine gd_cS1i dX8_letter_18 ct_8_126 ⟨Nat.le_of_ble_eq_true rfl, Nat.le_of_ble_eq_true rfl⟩ (Nat.le_of_ble_eq_true rfl) (Nat.le_of_ble_eq_true rfl) (c_isWhen_t hc h4 _) ?_
                        refine gd_if_eq_f 43 dX8_letter_21 (by decide) (by decide) ?_
                        refine gd_ald0 dX8_letter_24 (by decide) ?_
                        refine gd_ild1 dX8_letter_25 ?_
                        refine gd_ild4 dX8_letter_26 ?_
                        refine gd_cV2i dX8_letter_28 ct_8_129 rc_0 ⟨Nat.le_of_ble_eq_true rfl, Nat.le_of_ble_eq_true rfl⟩ (Nat.le_of_ble_eq_true rfl) (Nat.le_of_ble_eq_true rfl) (c_isFrom i.w i.c hk d) ?_
                        rw [hfr]
                        refine gd_if_eq_f 43 dX8_letter_31 (by decide) (by decide) ?_
                        refine gd_ild1 dX8_letter_34 ?_
                        refine gd_ild5 dX8_letter_35 ?_
                        refine gd_cS2i dX8_letter_37 ct_8_132 ⟨Nat.le_of_ble_eq_true rfl, Nat.le_of_ble_eq_true rfl⟩ (Nat.le_of_ble_eq_true rfl) (Nat.le_of_ble_eq_true rfl) (c_isLate_t hm hk he h5 _) ?_
                        refine gd_if_ne_t 50 dX8_letter_40 (by decide) (by decide) ?_
                        refine gd_ald0 dX8_letter_50 (by decide) ?_
                        refine gd_getR (r := 1) dX8_letter_51 fl_8_12 rfl rfl rfl (by decide) ?_
                        refine gd_getR (r := 6) dX8_letter_54 fl_8_100 rfl rfl rfl (by decide) ?_
                        refine gd_getI dX8_letter_57 fl_8_135 rfl rfl ?_
                        refine gd_bipush (v := nI 30) dX8_letter_60 (by decide) ?_
                        refine gd_icmp_lt_f 72 dX8_letter_62 (by decide) (by rw [i.cN]; exact nI_nlt (by omega) (by omega)) ?_
                        refine gd_ald0 dX8_letter_65 (by decide) ?_
                        refine gd_ldc dX8_letter_66 ld_8_70 ?_
                        refine gd_cV1i dX8_letter_68 ct_8_53 rc_0 ⟨Nat.le_of_ble_eq_true rfl, Nat.le_of_ble_eq_true rfl⟩ (Nat.le_of_ble_eq_true rfl) (Nat.le_of_ble_eq_true rfl) (c_f1 _) ?_
                        refine gd_iret dX8_letter_71 rfl rfl ?_
                        rfl
                      · refine gd_ild1 dX9_letter_0 ?_
                        refine gd_ic0 dX9_letter_1 ?_
                        refine gd_ic5 dX9_letter_2 ?_
                        refine gd_cS3i dX9_letter_3 ct_9_79 ⟨Nat.le_of_ble_eq_true rfl, Nat.le_of_ble_eq_true rfl⟩ (Nat.le_of_ble_eq_true rfl) (Nat.le_of_ble_eq_true rfl) (m_in_t (m := 5) (by omega) (by decide) _) ?_
                        refine gd_if_eq_f 52 dX9_letter_6 (by decide) (by decide) ?_
                        refine gd_ild2 dX9_letter_9 ?_
                        refine gd_if_lt_f 52 dX9_letter_10 (by decide) (by exact nI_pos (by omega)) ?_
                        refine gd_ald0 dX9_letter_13 (by decide) ?_
                        refine gd_ild2 dX9_letter_14 ?_
                        refine gd_bipush (v := nI 100) dX9_letter_15 (by decide) ?_
                        refine gd_idiv dX9_letter_17 (by decide) ?_
                        rw [pk_div hn (by decide) (by decide)]
                        refine gd_cV1i dX9_letter_18 ct_9_101 rc_72 ⟨Nat.le_of_ble_eq_true rfl, Nat.le_of_ble_eq_true rfl⟩ (Nat.le_of_ble_eq_true rfl) (Nat.le_of_ble_eq_true rfl) (m_isTown_t (h := hf h 1) (by exact i.w) ho) ?_
                        refine gd_if_eq_f 52 dX9_letter_21 (by decide) (by decide) ?_
                        refine gd_ild2 dX9_letter_24 ?_
                        refine gd_bipush (v := nI 100) dX9_letter_25 (by decide) ?_
                        refine gd_irem dX9_letter_27 (by decide) ?_
                        rw [pk_rem hn (by decide) (by decide)]
                        refine gd_bipush (v := nI 15) dX9_letter_28 (by decide) ?_
                        refine gd_icmp_gt_f 52 dX9_letter_30 (by decide) (by exact nI_nlt (by omega) (by omega)) ?_
                        refine gd_ild3 dX9_letter_33 ?_
                        refine gd_ic0 dX9_letter_34 ?_
                        refine gd_sipush (v := nI 9994) dX9_letter_35 (by decide) ?_
                        refine gd_cS3i dX9_letter_38 ct_9_79 ⟨Nat.le_of_ble_eq_true rfl, Nat.le_of_ble_eq_true rfl⟩ (Nat.le_of_ble_eq_true rfl) (Nat.le_of_ble_eq_true rfl) (m_in_t (m := 9994) (by omega) (by decide) _) ?_
                        refine gd_if_eq_f 52 dX9_letter_41 (by decide) (by decide) ?_
                        refine gd_ild3 dX9_letter_44 ?_
                        refine gd_bipush (v := nI 10) dX9_letter_45 (by decide) ?_
                        refine gd_irem dX9_letter_47 (by decide) ?_
                        rw [pk_rem (by omega) (by decide) (by decide)]
                        refine gd_ic4 dX9_letter_48 ?_
                        refine gd_icmp_le_t 58 dX9_letter_49 (by decide) (by exact nI_le (by omega) (by omega)) ?_
                        refine gd_ald0 dX9_letter_58 (by decide) ?_
                        refine gd_ild1 dX9_letter_59 ?_
                        refine gd_ild4 dX9_letter_60 ?_
                        refine gd_cV2i dX9_letter_62 ct_9_116 rc_72 ⟨Nat.le_of_ble_eq_true rfl, Nat.le_of_ble_eq_true rfl⟩ (Nat.le_of_ble_eq_true rfl) (Nat.le_of_ble_eq_true rfl) (m_isFrom (h := hf h 1) (by exact i.w) hk d) ?_
                        rw [show frB (ms (hf h 1)) k d = true from hfr]
                        refine gd_if_eq_f 98 dX9_letter_65 (by decide) (by decide) ?_
                        refine gd_ild5 dX9_letter_68 ?_
                        refine gd_ic0 dX9_letter_70 ?_
                        refine gd_sipush (v := nI 995) dX9_letter_71 (by decide) ?_
                        refine gd_cS3i dX9_letter_74 ct_9_79 ⟨Nat.le_of_ble_eq_true rfl, Nat.le_of_ble_eq_true rfl⟩ (Nat.le_of_ble_eq_true rfl) (Nat.le_of_ble_eq_true rfl) (m_in_t (m := 995) (by omega) (by decide) _) ?_
                        refine gd_if_eq_f 98 dX9_letter_77 (by decide) (by decide) ?_
                        refine m_late_t hm hk he h5 ?_
                        refine gd_ald0 dX9_letter_104 (by decide) ?_
                        refine gd_getR (r := 74) dX9_letter_105 fl_9_13 rfl rfl rfl (by decide) ?_
                        refine gd_ic1 dX9_letter_108 ?_
                        refine gd_iald (n := 5) dX9_letter_109 rfl (by decide) (by repeat' (first | with_reducible rfl | apply ni_add | apply ni_mul)) (by omega) ?_
                        rw [show (hf h 1).1 74 1 = nI (nN (ms h)) from i.mN]
                        refine gd_bipush (v := nI 30) dX9_letter_110 (by decide) ?_
                        refine gd_icmp_ne_f 121 dX9_letter_112 (by decide) (by rw [show nN (ms h) = 30 by omega]) ?_
                        refine gd_ald0 dX9_letter_115 (by decide) ?_
                        refine gd_ic2 dX9_letter_116 ?_
                        refine gd_cV1i dX9_letter_117 ct_9_97 rc_72 ⟨Nat.le_of_ble_eq_true rfl, Nat.le_of_ble_eq_true rfl⟩ (Nat.le_of_ble_eq_true rfl) (Nat.le_of_ble_eq_true rfl) (m_f1 _) ?_
                        refine gd_iret dX9_letter_120 rfl rfl ?_
                        rfl
                  · refine Pas.find (h1 := h) (h2 := hf (h) 0) (v := -1000000001) (w := (-1000000000 : Int32) - nI 1) 0 i (by decide) (by decide) (by decide) (Same.rf _) (Same.rf _) ?_ ?_
                    · refine gd_ild1 dX8_letter_0 ?_
                      refine gd_bipush (v := nI 6) dX8_letter_1 (by decide) ?_
                      refine gd_cS2i dX8_letter_3 ct_8_48 ⟨Nat.le_of_ble_eq_true rfl, Nat.le_of_ble_eq_true rfl⟩ (Nat.le_of_ble_eq_true rfl) (Nat.le_of_ble_eq_true rfl) (c_isBelow_t hk (by decide) _) ?_
                      refine gd_if_eq_f 43 dX8_letter_6 (by decide) (by decide) ?_
                      refine gd_ald0 dX8_letter_9 (by decide) ?_
                      refine gd_ild2 dX8_letter_10 ?_
                      refine gd_cV1i dX8_letter_11 ct_8_123 rc_0 ⟨Nat.le_of_ble_eq_true rfl, Nat.le_of_ble_eq_true rfl⟩ (Nat.le_of_ble_eq_true rfl) (Nat.le_of_ble_eq_true rfl) (c_isAbout_t i.w i.c hn ho hw) ?_
                      refine gd_if_eq_f 43 dX8_letter_14 (by decide) (by decide) ?_
                      refine gd_ild3 dX8_letter_17 ?_
                      refine gd_cS1i dX8_letter_18 ct_8_126 ⟨Nat.le_of_ble_eq_true rfl, Nat.le_of_ble_eq_true rfl⟩ (Nat.le_of_ble_eq_true rfl) (Nat.le_of_ble_eq_true rfl) (c_isWhen_t hc h4 _) ?_
                      refine gd_if_eq_f 43 dX8_letter_21 (by decide) (by decide) ?_
                      refine gd_ald0 dX8_letter_24 (by decide) ?_
                      refine gd_ild1 dX8_letter_25 ?_
                      refine gd_ild4 dX8_letter_26 ?_
                      refine gd_cV2i dX8_letter_28 ct_8_129 rc_0 ⟨Nat.le_of_ble_eq_true rfl, Nat.le_of_ble_eq_true rfl⟩ (Nat.le_of_ble_eq_true rfl) (Nat.le_of_ble_eq_true rfl) (c_isFrom i.w i.c hk d) ?_
                      rw [hfr]
                      refine gd_if_eq_f 43 dX8_letter_31 (by decide) (by decide) ?_
                      refine gd_ild1 dX8_letter_34 ?_
                      refine gd_ild5 dX8_letter_35 ?_
                      refine gd_cS2i dX8_letter_37 ct_8_132 ⟨Nat.le_of_ble_eq_true rfl, Nat.le_of_ble_eq_true rfl⟩ (Nat.le_of_ble_eq_true rfl) (Nat.le_of_ble_eq_true rfl) (c_isLate_r hm hk he h5 _) ?_
                      refine gd_if_ne_f 50 dX8_letter_40 (by decide) (by decide) ?_
                      refine gd_ald0 dX8_letter_43 (by decide) ?_
                      refine gd_ldc dX8_letter_44 ld_8_52 ?_
                      refine gd_cV1i dX8_letter_46 ct_8_53 rc_0 ⟨Nat.le_of_ble_eq_true rfl, Nat.le_of_ble_eq_true rfl⟩ (Nat.le_of_ble_eq_true rfl) (Nat.le_of_ble_eq_true rfl) (c_f0 _) ?_
                      refine gd_iret dX8_letter_49 rfl rfl ?_
                      rfl
                    · refine gd_ild1 dX9_letter_0 ?_
                      refine gd_ic0 dX9_letter_1 ?_
                      refine gd_ic5 dX9_letter_2 ?_
                      refine gd_cS3i dX9_letter_3 ct_9_79 ⟨Nat.le_of_ble_eq_true rfl, Nat.le_of_ble_eq_true rfl⟩ (Nat.le_of_ble_eq_true rfl) (Nat.le_of_ble_eq_true rfl) (m_in_t (m := 5) (by omega) (by decide) _) ?_
                      refine gd_if_eq_f 52 dX9_letter_6 (by decide) (by decide) ?_
                      refine gd_ild2 dX9_letter_9 ?_
                      refine gd_if_lt_f 52 dX9_letter_10 (by decide) (by exact nI_pos (by omega)) ?_
                      refine gd_ald0 dX9_letter_13 (by decide) ?_
                      refine gd_ild2 dX9_letter_14 ?_
                      refine gd_bipush (v := nI 100) dX9_letter_15 (by decide) ?_
                      refine gd_idiv dX9_letter_17 (by decide) ?_
                      rw [pk_div hn (by decide) (by decide)]
                      refine gd_cV1i dX9_letter_18 ct_9_101 rc_72 ⟨Nat.le_of_ble_eq_true rfl, Nat.le_of_ble_eq_true rfl⟩ (Nat.le_of_ble_eq_true rfl) (Nat.le_of_ble_eq_true rfl) (m_isTown_t (h := hf h 0) (by exact i.w) ho) ?_
                      refine gd_if_eq_f 52 dX9_letter_21 (by decide) (by decide) ?_
                      refine gd_ild2 dX9_letter_24 ?_
                      refine gd_bipush (v := nI 100) dX9_letter_25 (by decide) ?_
                      refine gd_irem dX9_letter_27 (by decide) ?_
                      rw [pk_rem hn (by decide) (by decide)]
                      refine gd_bipush (v := nI 15) dX9_letter_28 (by decide) ?_
                      refine gd_icmp_gt_f 52 dX9_letter_30 (by decide) (by exact nI_nlt (by omega) (by omega)) ?_
                      refine gd_ild3 dX9_letter_33 ?_
                      refine gd_ic0 dX9_letter_34 ?_
                      refine gd_sipush (v := nI 9994) dX9_letter_35 (by decide) ?_
                      refine gd_cS3i dX9_letter_38 ct_9_79 ⟨Nat.le_of_ble_eq_true rfl, Nat.le_of_ble_eq_true rfl⟩ (Nat.le_of_ble_eq_true rfl) (Nat.le_of_ble_eq_true rfl) (m_in_t (m := 9994) (by omega) (by decide) _) ?_
                      refine gd_if_eq_f 52 dX9_letter_41 (by decide) (by decide) ?_
                      refine gd_ild3 dX9_letter_44 ?_
                      refine gd_bipush (v := nI 10) dX9_letter_45 (by decide) ?_
                      refine gd_irem dX9_letter_47 (by decide) ?_
                      rw [pk_rem (by omega) (by decide) (by decide)]
                      refine gd_ic4 dX9_letter_48 ?_
                      refine gd_icmp_le_t 58 dX9_letter_49 (by decide) (by exact nI_le (by omega) (by omega)) ?_
                      refine gd_ald0 dX9_letter_58 (by decide) ?_
                      refine gd_ild1 dX9_letter_59 ?_
                      refine gd_ild4 dX9_letter_60 ?_
                      refine gd_cV2i dX9_letter_62 ct_9_116 rc_72 ⟨Nat.le_of_ble_eq_true rfl, Nat.le_of_ble_eq_true rfl⟩ (Nat.le_of_ble_eq_true rfl) (Nat.le_of_ble_eq_true rfl) (m_isFrom (h := hf h 0) (by exact i.w) hk d) ?_
                      rw [show frB (ms (hf h 0)) k d = true from hfr]
                      refine gd_if_eq_f 98 dX9_letter_65 (by decide) (by decide) ?_
                      refine gd_ild5 dX9_letter_68 ?_
                      refine gd_ic0 dX9_letter_70 ?_
                      refine gd_sipush (v := nI 995) dX9_letter_71 (by decide) ?_
                      refine gd_cS3i dX9_letter_74 ct_9_79 ⟨Nat.le_of_ble_eq_true rfl, Nat.le_of_ble_eq_true rfl⟩ (Nat.le_of_ble_eq_true rfl) (Nat.le_of_ble_eq_true rfl) (m_in_t (m := 995) (by omega) (by decide) _) ?_
                      refine gd_if_eq_f 98 dX9_letter_77 (by decide) (by decide) ?_
                      refine m_late_r hm hk he h5 ?_
                      refine gd_ald0 dX9_letter_98 (by decide) ?_
                      refine gd_ic1 dX9_letter_99 ?_
                      refine gd_cV1i dX9_letter_100 ct_9_97 rc_72 ⟨Nat.le_of_ble_eq_true rfl, Nat.le_of_ble_eq_true rfl⟩ (Nat.le_of_ble_eq_true rfl) (Nat.le_of_ble_eq_true rfl) (m_f0 _) ?_
                      refine gd_iret dX9_letter_103 rfl rfl ?_
                      rfl
                · refine Pas.find (h1 := h) (h2 := hf (h) 0) (v := -1000000001) (w := (-1000000000 : Int32) - nI 1) 0 i (by decide) (by decide) (by decide) (Same.rf _) (Same.rf _) ?_ ?_
                  · refine gd_ild1 dX8_letter_0 ?_
                    refine gd_bipush (v := nI 6) dX8_letter_1 (by decide) ?_
                    refine gd_cS2i dX8_letter_3 ct_8_48 ⟨Nat.le_of_ble_eq_true rfl, Nat.le_of_ble_eq_true rfl⟩ (Nat.le_of_ble_eq_true rfl) (Nat.le_of_ble_eq_true rfl) (c_isBelow_t hk (by decide) _) ?_
                    refine gd_if_eq_f 43 dX8_letter_6 (by decide) (by decide) ?_
                    refine gd_ald0 dX8_letter_9 (by decide) ?_
                    refine gd_ild2 dX8_letter_10 ?_
                    refine gd_cV1i dX8_letter_11 ct_8_123 rc_0 ⟨Nat.le_of_ble_eq_true rfl, Nat.le_of_ble_eq_true rfl⟩ (Nat.le_of_ble_eq_true rfl) (Nat.le_of_ble_eq_true rfl) (c_isAbout_t i.w i.c hn ho hw) ?_
                    refine gd_if_eq_f 43 dX8_letter_14 (by decide) (by decide) ?_
                    refine gd_ild3 dX8_letter_17 ?_
                    refine gd_cS1i dX8_letter_18 ct_8_126 ⟨Nat.le_of_ble_eq_true rfl, Nat.le_of_ble_eq_true rfl⟩ (Nat.le_of_ble_eq_true rfl) (Nat.le_of_ble_eq_true rfl) (c_isWhen_t hc h4 _) ?_
                    refine gd_if_eq_f 43 dX8_letter_21 (by decide) (by decide) ?_
                    refine gd_ald0 dX8_letter_24 (by decide) ?_
                    refine gd_ild1 dX8_letter_25 ?_
                    refine gd_ild4 dX8_letter_26 ?_
                    refine gd_cV2i dX8_letter_28 ct_8_129 rc_0 ⟨Nat.le_of_ble_eq_true rfl, Nat.le_of_ble_eq_true rfl⟩ (Nat.le_of_ble_eq_true rfl) (Nat.le_of_ble_eq_true rfl) (c_isFrom i.w i.c hk d) ?_
                    rw [hfr]
                    refine gd_if_eq_f 43 dX8_letter_31 (by decide) (by decide) ?_
                    refine gd_ild1 dX8_letter_34 ?_
                    refine gd_ild5 dX8_letter_35 ?_
                    refine gd_cS2i dX8_letter_37 ct_8_132 ⟨Nat.le_of_ble_eq_true rfl, Nat.le_of_ble_eq_true rfl⟩ (Nat.le_of_ble_eq_true rfl) (Nat.le_of_ble_eq_true rfl) (c_isLate_f hm hk hE _) ?_
                    refine gd_if_ne_f 50 dX8_letter_40 (by decide) (by decide) ?_
                    refine gd_ald0 dX8_letter_43 (by decide) ?_
                    refine gd_ldc dX8_letter_44 ld_8_52 ?_
                    refine gd_cV1i dX8_letter_46 ct_8_53 rc_0 ⟨Nat.le_of_ble_eq_true rfl, Nat.le_of_ble_eq_true rfl⟩ (Nat.le_of_ble_eq_true rfl) (Nat.le_of_ble_eq_true rfl) (c_f0 _) ?_
                    refine gd_iret dX8_letter_49 rfl rfl ?_
                    rfl
                  · refine gd_ild1 dX9_letter_0 ?_
                    refine gd_ic0 dX9_letter_1 ?_
                    refine gd_ic5 dX9_letter_2 ?_
                    refine gd_cS3i dX9_letter_3 ct_9_79 ⟨Nat.le_of_ble_eq_true rfl, Nat.le_of_ble_eq_true rfl⟩ (Nat.le_of_ble_eq_true rfl) (Nat.le_of_ble_eq_true rfl) (m_in_t (m := 5) (by omega) (by decide) _) ?_
                    refine gd_if_eq_f 52 dX9_letter_6 (by decide) (by decide) ?_
                    refine gd_ild2 dX9_letter_9 ?_
                    refine gd_if_lt_f 52 dX9_letter_10 (by decide) (by exact nI_pos (by omega)) ?_
                    refine gd_ald0 dX9_letter_13 (by decide) ?_
                    refine gd_ild2 dX9_letter_14 ?_
                    refine gd_bipush (v := nI 100) dX9_letter_15 (by decide) ?_
                    refine gd_idiv dX9_letter_17 (by decide) ?_
                    rw [pk_div hn (by decide) (by decide)]
                    refine gd_cV1i dX9_letter_18 ct_9_101 rc_72 ⟨Nat.le_of_ble_eq_true rfl, Nat.le_of_ble_eq_true rfl⟩ (Nat.le_of_ble_eq_true rfl) (Nat.le_of_ble_eq_true rfl) (m_isTown_t (h := hf h 0) (by exact i.w) ho) ?_
                    refine gd_if_eq_f 52 dX9_letter_21 (by decide) (by decide) ?_
                    refine gd_ild2 dX9_letter_24 ?_
                    refine gd_bipush (v := nI 100) dX9_letter_25 (by decide) ?_
                    refine gd_irem dX9_letter_27 (by decide) ?_
                    rw [pk_rem hn (by decide) (by decide)]
                    refine gd_bipush (v := nI 15) dX9_letter_28 (by decide) ?_
                    refine gd_icmp_gt_f 52 dX9_letter_30 (by decide) (by exact nI_nlt (by omega) (by omega)) ?_
                    refine gd_ild3 dX9_letter_33 ?_
                    refine gd_ic0 dX9_letter_34 ?_
                    refine gd_sipush (v := nI 9994) dX9_letter_35 (by decide) ?_
                    refine gd_cS3i dX9_letter_38 ct_9_79 ⟨Nat.le_of_ble_eq_true rfl, Nat.le_of_ble_eq_true rfl⟩ (Nat.le_of_ble_eq_true rfl) (Nat.le_of_ble_eq_true rfl) (m_in_t (m := 9994) (by omega) (by decide) _) ?_
                    refine gd_if_eq_f 52 dX9_letter_41 (by decide) (by decide) ?_
                    refine gd_ild3 dX9_letter_44 ?_
                    refine gd_bipush (v := nI 10) dX9_letter_45 (by decide) ?_
                    refine gd_irem dX9_letter_47 (by decide) ?_
                    rw [pk_rem (by omega) (by decide) (by decide)]
                    refine gd_ic4 dX9_letter_48 ?_
                    refine gd_icmp_le_t 58 dX9_letter_49 (by decide) (by exact nI_le (by omega) (by omega)) ?_
                    refine gd_ald0 dX9_letter_58 (by decide) ?_
                    refine gd_ild1 dX9_letter_59 ?_
                    refine gd_ild4 dX9_letter_60 ?_
                    refine gd_cV2i dX9_letter_62 ct_9_116 rc_72 ⟨Nat.le_of_ble_eq_true rfl, Nat.le_of_ble_eq_true rfl⟩ (Nat.le_of_ble_eq_true rfl) (Nat.le_of_ble_eq_true rfl) (m_isFrom (h := hf h 0) (by exact i.w) hk d) ?_
                    rw [show frB (ms (hf h 0)) k d = true from hfr]
                    refine gd_if_eq_f 98 dX9_letter_65 (by decide) (by decide) ?_
                    refine gd_ild5 dX9_letter_68 ?_
                    refine gd_ic0 dX9_letter_70 ?_
                    refine gd_sipush (v := nI 995) dX9_letter_71 (by decide) ?_
                    refine gd_cS3i dX9_letter_74 ct_9_79 ⟨Nat.le_of_ble_eq_true rfl, Nat.le_of_ble_eq_true rfl⟩ (Nat.le_of_ble_eq_true rfl) (Nat.le_of_ble_eq_true rfl) (m_in_f (n := 996) (by decide) (by decide) hE _) ?_
                    refine gd_if_eq_t 98 dX9_letter_77 (by decide) (by decide) ?_
                    refine gd_ald0 dX9_letter_98 (by decide) ?_
                    refine gd_ic1 dX9_letter_99 ?_
                    refine gd_cV1i dX9_letter_100 ct_9_97 rc_72 ⟨Nat.le_of_ble_eq_true rfl, Nat.le_of_ble_eq_true rfl⟩ (Nat.le_of_ble_eq_true rfl) (Nat.le_of_ble_eq_true rfl) (m_f0 _) ?_
                    refine gd_iret dX9_letter_103 rfl rfl ?_
                    rfl
            · refine Pas.find (h1 := h) (h2 := hf (h) 0) (v := -1000000001) (w := (-1000000000 : Int32) - nI 1) 0 i (by decide) (by decide) (by decide) (Same.rf _) (Same.rf _) ?_ ?_
              · refine gd_ild1 dX8_letter_0 ?_
                refine gd_bipush (v := nI 6) dX8_letter_1 (by decide) ?_
                refine gd_cS2i dX8_letter_3 ct_8_48 ⟨Nat.le_of_ble_eq_true rfl, Nat.le_of_ble_eq_true rfl⟩ (Nat.le_of_ble_eq_true rfl) (Nat.le_of_ble_eq_true rfl) (c_isBelow_t hk (by decide) _) ?_
                refine gd_if_eq_f 43 dX8_letter_6 (by decide) (by decide) ?_
                refine gd_ald0 dX8_letter_9 (by decide) ?_
                refine gd_ild2 dX8_letter_10 ?_
                refine gd_cV1i dX8_letter_11 ct_8_123 rc_0 ⟨Nat.le_of_ble_eq_true rfl, Nat.le_of_ble_eq_true rfl⟩ (Nat.le_of_ble_eq_true rfl) (Nat.le_of_ble_eq_true rfl) (c_isAbout_t i.w i.c hn ho hw) ?_
                refine gd_if_eq_f 43 dX8_letter_14 (by decide) (by decide) ?_
                refine gd_ild3 dX8_letter_17 ?_
                refine gd_cS1i dX8_letter_18 ct_8_126 ⟨Nat.le_of_ble_eq_true rfl, Nat.le_of_ble_eq_true rfl⟩ (Nat.le_of_ble_eq_true rfl) (Nat.le_of_ble_eq_true rfl) (c_isWhen_r hc h4 _) ?_
                refine gd_if_eq_t 43 dX8_letter_21 (by decide) (by decide) ?_
                refine gd_ald0 dX8_letter_43 (by decide) ?_
                refine gd_ldc dX8_letter_44 ld_8_52 ?_
                refine gd_cV1i dX8_letter_46 ct_8_53 rc_0 ⟨Nat.le_of_ble_eq_true rfl, Nat.le_of_ble_eq_true rfl⟩ (Nat.le_of_ble_eq_true rfl) (Nat.le_of_ble_eq_true rfl) (c_f0 _) ?_
                refine gd_iret dX8_letter_49 rfl rfl ?_
                rfl
              · refine gd_ild1 dX9_letter_0 ?_
                refine gd_ic0 dX9_letter_1 ?_
                refine gd_ic5 dX9_letter_2 ?_
                refine gd_cS3i dX9_letter_3 ct_9_79 ⟨Nat.le_of_ble_eq_true rfl, Nat.le_of_ble_eq_true rfl⟩ (Nat.le_of_ble_eq_true rfl) (Nat.le_of_ble_eq_true rfl) (m_in_t (m := 5) (by omega) (by decide) _) ?_
                refine gd_if_eq_f 52 dX9_letter_6 (by decide) (by decide) ?_
                refine gd_ild2 dX9_letter_9 ?_
                refine gd_if_lt_f 52 dX9_letter_10 (by decide) (by exact nI_pos (by omega)) ?_
                refine gd_ald0 dX9_letter_13 (by decide) ?_
                refine gd_ild2 dX9_letter_14 ?_
                refine gd_bipush (v := nI 100) dX9_letter_15 (by decide) ?_
                refine gd_idiv dX9_letter_17 (by decide) ?_
                rw [pk_div hn (by decide) (by decide)]
                refine gd_cV1i dX9_letter_18 ct_9_101 rc_72 ⟨Nat.le_of_ble_eq_true rfl, Nat.le_of_ble_eq_true rfl⟩ (Nat.le_of_ble_eq_true rfl) (Nat.le_of_ble_eq_true rfl) (m_isTown_t (h := hf h 0) (by exact i.w) ho) ?_
                refine gd_if_eq_f 52 dX9_letter_21 (by decide) (by decide) ?_
                refine gd_ild2 dX9_letter_24 ?_
                refine gd_bipush (v := nI 100) dX9_letter_25 (by decide) ?_
                refine gd_irem dX9_letter_27 (by decide) ?_
                rw [pk_rem hn (by decide) (by decide)]
                refine gd_bipush (v := nI 15) dX9_letter_28 (by decide) ?_
                refine gd_icmp_gt_f 52 dX9_letter_30 (by decide) (by exact nI_nlt (by omega) (by omega)) ?_
                refine gd_ild3 dX9_letter_33 ?_
                refine gd_ic0 dX9_letter_34 ?_
                refine gd_sipush (v := nI 9994) dX9_letter_35 (by decide) ?_
                refine gd_cS3i dX9_letter_38 ct_9_79 ⟨Nat.le_of_ble_eq_true rfl, Nat.le_of_ble_eq_true rfl⟩ (Nat.le_of_ble_eq_true rfl) (Nat.le_of_ble_eq_true rfl) (m_in_t (m := 9994) (by omega) (by decide) _) ?_
                refine gd_if_eq_f 52 dX9_letter_41 (by decide) (by decide) ?_
                refine gd_ild3 dX9_letter_44 ?_
                refine gd_bipush (v := nI 10) dX9_letter_45 (by decide) ?_
                refine gd_irem dX9_letter_47 (by decide) ?_
                rw [pk_rem (by omega) (by decide) (by decide)]
                refine gd_ic4 dX9_letter_48 ?_
                refine gd_icmp_le_f 58 dX9_letter_49 (by decide) (by exact nI_ge (by omega) (by omega)) ?_
                refine gd_ald0 dX9_letter_52 (by decide) ?_
                refine gd_ic1 dX9_letter_53 ?_
                refine gd_cV1i dX9_letter_54 ct_9_97 rc_72 ⟨Nat.le_of_ble_eq_true rfl, Nat.le_of_ble_eq_true rfl⟩ (Nat.le_of_ble_eq_true rfl) (Nat.le_of_ble_eq_true rfl) (m_f0 _) ?_
                refine gd_iret dX9_letter_57 rfl rfl ?_
                rfl
          · refine Pas.find (h1 := h) (h2 := hf (h) 0) (v := -1000000001) (w := (-1000000000 : Int32) - nI 1) 0 i (by decide) (by decide) (by decide) (Same.rf _) (Same.rf _) ?_ ?_
            · refine gd_ild1 dX8_letter_0 ?_
              refine gd_bipush (v := nI 6) dX8_letter_1 (by decide) ?_
              refine gd_cS2i dX8_letter_3 ct_8_48 ⟨Nat.le_of_ble_eq_true rfl, Nat.le_of_ble_eq_true rfl⟩ (Nat.le_of_ble_eq_true rfl) (Nat.le_of_ble_eq_true rfl) (c_isBelow_t hk (by decide) _) ?_
              refine gd_if_eq_f 43 dX8_letter_6 (by decide) (by decide) ?_
              refine gd_ald0 dX8_letter_9 (by decide) ?_
              refine gd_ild2 dX8_letter_10 ?_
              refine gd_cV1i dX8_letter_11 ct_8_123 rc_0 ⟨Nat.le_of_ble_eq_true rfl, Nat.le_of_ble_eq_true rfl⟩ (Nat.le_of_ble_eq_true rfl) (Nat.le_of_ble_eq_true rfl) (c_isAbout_t i.w i.c hn ho hw) ?_
              refine gd_if_eq_f 43 dX8_letter_14 (by decide) (by decide) ?_
              refine gd_ild3 dX8_letter_17 ?_
              refine gd_cS1i dX8_letter_18 ct_8_126 ⟨Nat.le_of_ble_eq_true rfl, Nat.le_of_ble_eq_true rfl⟩ (Nat.le_of_ble_eq_true rfl) (Nat.le_of_ble_eq_true rfl) (c_isWhen_f hC _) ?_
              refine gd_if_eq_t 43 dX8_letter_21 (by decide) (by decide) ?_
              refine gd_ald0 dX8_letter_43 (by decide) ?_
              refine gd_ldc dX8_letter_44 ld_8_52 ?_
              refine gd_cV1i dX8_letter_46 ct_8_53 rc_0 ⟨Nat.le_of_ble_eq_true rfl, Nat.le_of_ble_eq_true rfl⟩ (Nat.le_of_ble_eq_true rfl) (Nat.le_of_ble_eq_true rfl) (c_f0 _) ?_
              refine gd_iret dX8_letter_49 rfl rfl ?_
              rfl
            · refine gd_ild1 dX9_letter_0 ?_
              refine gd_ic0 dX9_letter_1 ?_
              refine gd_ic5 dX9_letter_2 ?_
              refine gd_cS3i dX9_letter_3 ct_9_79 ⟨Nat.le_of_ble_eq_true rfl, Nat.le_of_ble_eq_true rfl⟩ (Nat.le_of_ble_eq_true rfl) (Nat.le_of_ble_eq_true rfl) (m_in_t (m := 5) (by omega) (by decide) _) ?_
              refine gd_if_eq_f 52 dX9_letter_6 (by decide) (by decide) ?_
              refine gd_ild2 dX9_letter_9 ?_
              refine gd_if_lt_f 52 dX9_letter_10 (by decide) (by exact nI_pos (by omega)) ?_
              refine gd_ald0 dX9_letter_13 (by decide) ?_
              refine gd_ild2 dX9_letter_14 ?_
              refine gd_bipush (v := nI 100) dX9_letter_15 (by decide) ?_
              refine gd_idiv dX9_letter_17 (by decide) ?_
              rw [pk_div hn (by decide) (by decide)]
              refine gd_cV1i dX9_letter_18 ct_9_101 rc_72 ⟨Nat.le_of_ble_eq_true rfl, Nat.le_of_ble_eq_true rfl⟩ (Nat.le_of_ble_eq_true rfl) (Nat.le_of_ble_eq_true rfl) (m_isTown_t (h := hf h 0) (by exact i.w) ho) ?_
              refine gd_if_eq_f 52 dX9_letter_21 (by decide) (by decide) ?_
              refine gd_ild2 dX9_letter_24 ?_
              refine gd_bipush (v := nI 100) dX9_letter_25 (by decide) ?_
              refine gd_irem dX9_letter_27 (by decide) ?_
              rw [pk_rem hn (by decide) (by decide)]
              refine gd_bipush (v := nI 15) dX9_letter_28 (by decide) ?_
              refine gd_icmp_gt_f 52 dX9_letter_30 (by decide) (by exact nI_nlt (by omega) (by omega)) ?_
              refine gd_ild3 dX9_letter_33 ?_
              refine gd_ic0 dX9_letter_34 ?_
              refine gd_sipush (v := nI 9994) dX9_letter_35 (by decide) ?_
              refine gd_cS3i dX9_letter_38 ct_9_79 ⟨Nat.le_of_ble_eq_true rfl, Nat.le_of_ble_eq_true rfl⟩ (Nat.le_of_ble_eq_true rfl) (Nat.le_of_ble_eq_true rfl) (m_in_f (n := 9995) (by decide) (by decide) hC _) ?_
              refine gd_if_eq_t 52 dX9_letter_41 (by decide) (by decide) ?_
              refine gd_ald0 dX9_letter_52 (by decide) ?_
              refine gd_ic1 dX9_letter_53 ?_
              refine gd_cV1i dX9_letter_54 ct_9_97 rc_72 ⟨Nat.le_of_ble_eq_true rfl, Nat.le_of_ble_eq_true rfl⟩ (Nat.le_of_ble_eq_true rfl) (Nat.le_of_ble_eq_true rfl) (m_f0 _) ?_
              refine gd_iret dX9_letter_57 rfl rfl ?_
              rfl
        · refine Pas.find (h1 := h) (h2 := hf (h) 0) (v := -1000000001) (w := (-1000000000 : Int32) - nI 1) 0 i (by decide) (by decide) (by decide) (Same.rf _) (Same.rf _) ?_ ?_
          · refine gd_ild1 dX8_letter_0 ?_
            refine gd_bipush (v := nI 6) dX8_letter_1 (by decide) ?_
            refine gd_cS2i dX8_letter_3 ct_8_48 ⟨Nat.le_of_ble_eq_true rfl, Nat.le_of_ble_eq_true rfl⟩ (Nat.le_of_ble_eq_true rfl) (Nat.le_of_ble_eq_true rfl) (c_isBelow_t hk (by decide) _) ?_
            refine gd_if_eq_f 43 dX8_letter_6 (by decide) (by decide) ?_
            refine gd_ald0 dX8_letter_9 (by decide) ?_
            refine gd_ild2 dX8_letter_10 ?_
            refine gd_cV1i dX8_letter_11 ct_8_123 rc_0 ⟨Nat.le_of_ble_eq_true rfl, Nat.le_of_ble_eq_true rfl⟩ (Nat.le_of_ble_eq_true rfl) (Nat.le_of_ble_eq_true rfl) (c_isAbout_w i.w i.c hn ho hw) ?_
            refine gd_if_eq_t 43 dX8_letter_14 (by decide) (by decide) ?_
            refine gd_ald0 dX8_letter_43 (by decide) ?_
            refine gd_ldc dX8_letter_44 ld_8_52 ?_
            refine gd_cV1i dX8_letter_46 ct_8_53 rc_0 ⟨Nat.le_of_ble_eq_true rfl, Nat.le_of_ble_eq_true rfl⟩ (Nat.le_of_ble_eq_true rfl) (Nat.le_of_ble_eq_true rfl) (c_f0 _) ?_
            refine gd_iret dX8_letter_49 rfl rfl ?_
            rfl
          · refine gd_ild1 dX9_letter_0 ?_
            refine gd_ic0 dX9_letter_1 ?_
            refine gd_ic5 dX9_letter_2 ?_
            refine gd_cS3i dX9_letter_3 ct_9_79 ⟨Nat.le_of_ble_eq_true rfl, Nat.le_of_ble_eq_true rfl⟩ (Nat.le_of_ble_eq_true rfl) (Nat.le_of_ble_eq_true rfl) (m_in_t (m := 5) (by omega) (by decide) _) ?_
            refine gd_if_eq_f 52 dX9_letter_6 (by decide) (by decide) ?_
            refine gd_ild2 dX9_letter_9 ?_
            refine gd_if_lt_f 52 dX9_letter_10 (by decide) (by exact nI_pos (by omega)) ?_
            refine gd_ald0 dX9_letter_13 (by decide) ?_
            refine gd_ild2 dX9_letter_14 ?_
            refine gd_bipush (v := nI 100) dX9_letter_15 (by decide) ?_
            refine gd_idiv dX9_letter_17 (by decide) ?_
            rw [pk_div hn (by decide) (by decide)]
            refine gd_cV1i dX9_letter_18 ct_9_101 rc_72 ⟨Nat.le_of_ble_eq_true rfl, Nat.le_of_ble_eq_true rfl⟩ (Nat.le_of_ble_eq_true rfl) (Nat.le_of_ble_eq_true rfl) (m_isTown_t (h := hf h 0) (by exact i.w) ho) ?_
            refine gd_if_eq_f 52 dX9_letter_21 (by decide) (by decide) ?_
            refine gd_ild2 dX9_letter_24 ?_
            refine gd_bipush (v := nI 100) dX9_letter_25 (by decide) ?_
            refine gd_irem dX9_letter_27 (by decide) ?_
            rw [pk_rem hn (by decide) (by decide)]
            refine gd_bipush (v := nI 15) dX9_letter_28 (by decide) ?_
            refine gd_icmp_gt_t 52 dX9_letter_30 (by decide) (by exact nI_lt (by omega) (by omega)) ?_
            refine gd_ald0 dX9_letter_52 (by decide) ?_
            refine gd_ic1 dX9_letter_53 ?_
            refine gd_cV1i dX9_letter_54 ct_9_97 rc_72 ⟨Nat.le_of_ble_eq_true rfl, Nat.le_of_ble_eq_true rfl⟩ (Nat.le_of_ble_eq_true rfl) (Nat.le_of_ble_eq_true rfl) (m_f0 _) ?_
            refine gd_iret dX9_letter_57 rfl rfl ?_
            rfl
      · refine Pas.find (h1 := h) (h2 := hf (h) 0) (v := -1000000001) (w := (-1000000000 : Int32) - nI 1) 0 i (by decide) (by decide) (by decide) (Same.rf _) (Same.rf _) ?_ ?_
        · refine gd_ild1 dX8_letter_0 ?_
          refine gd_bipush (v := nI 6) dX8_letter_1 (by decide) ?_
          refine gd_cS2i dX8_letter_3 ct_8_48 ⟨Nat.le_of_ble_eq_true rfl, Nat.le_of_ble_eq_true rfl⟩ (Nat.le_of_ble_eq_true rfl) (Nat.le_of_ble_eq_true rfl) (c_isBelow_t hk (by decide) _) ?_
          refine gd_if_eq_f 43 dX8_letter_6 (by decide) (by decide) ?_
          refine gd_ald0 dX8_letter_9 (by decide) ?_
          refine gd_ild2 dX8_letter_10 ?_
          refine gd_cV1i dX8_letter_11 ct_8_123 rc_0 ⟨Nat.le_of_ble_eq_true rfl, Nat.le_of_ble_eq_true rfl⟩ (Nat.le_of_ble_eq_true rfl) (Nat.le_of_ble_eq_true rfl) (c_isAbout_o i.w i.c hn ho) ?_
          refine gd_if_eq_t 43 dX8_letter_14 (by decide) (by decide) ?_
          refine gd_ald0 dX8_letter_43 (by decide) ?_
          refine gd_ldc dX8_letter_44 ld_8_52 ?_
          refine gd_cV1i dX8_letter_46 ct_8_53 rc_0 ⟨Nat.le_of_ble_eq_true rfl, Nat.le_of_ble_eq_true rfl⟩ (Nat.le_of_ble_eq_true rfl) (Nat.le_of_ble_eq_true rfl) (c_f0 _) ?_
          refine gd_iret dX8_letter_49 rfl rfl ?_
          rfl
        · refine gd_ild1 dX9_letter_0 ?_
          refine gd_ic0 dX9_letter_1 ?_
          refine gd_ic5 dX9_letter_2 ?_
          refine gd_cS3i dX9_letter_3 ct_9_79 ⟨Nat.le_of_ble_eq_true rfl, Nat.le_of_ble_eq_true rfl⟩ (Nat.le_of_ble_eq_true rfl) (Nat.le_of_ble_eq_true rfl) (m_in_t (m := 5) (by omega) (by decide) _) ?_
          refine gd_if_eq_f 52 dX9_letter_6 (by decide) (by decide) ?_
          refine gd_ild2 dX9_letter_9 ?_
          refine gd_if_lt_f 52 dX9_letter_10 (by decide) (by exact nI_pos (by omega)) ?_
          refine gd_ald0 dX9_letter_13 (by decide) ?_
          refine gd_ild2 dX9_letter_14 ?_
          refine gd_bipush (v := nI 100) dX9_letter_15 (by decide) ?_
          refine gd_idiv dX9_letter_17 (by decide) ?_
          rw [pk_div hn (by decide) (by decide)]
          refine gd_cV1i dX9_letter_18 ct_9_101 rc_72 ⟨Nat.le_of_ble_eq_true rfl, Nat.le_of_ble_eq_true rfl⟩ (Nat.le_of_ble_eq_true rfl) (Nat.le_of_ble_eq_true rfl) (m_isTown_f (h := hf h 0) (by exact i.w) (rng_nI ho (by omega))) ?_
          refine gd_if_eq_t 52 dX9_letter_21 (by decide) (by decide) ?_
          refine gd_ald0 dX9_letter_52 (by decide) ?_
          refine gd_ic1 dX9_letter_53 ?_
          refine gd_cV1i dX9_letter_54 ct_9_97 rc_72 ⟨Nat.le_of_ble_eq_true rfl, Nat.le_of_ble_eq_true rfl⟩ (Nat.le_of_ble_eq_true rfl) (Nat.le_of_ble_eq_true rfl) (m_f0 _) ?_
          refine gd_iret dX9_letter_57 rfl rfl ?_
          rfl
  · refine Pas.find (h1 := h) (h2 := hf (h) 0) (v := -1000000001) (w := (-1000000000 : Int32) - nI 1) 0 i (by decide) (by decide) (by decide) (Same.rf _) (Same.rf _) ?_ ?_
    · refine gd_ild1 dX8_letter_0 ?_
      refine gd_bipush (v := nI 6) dX8_letter_1 (by decide) ?_
      refine gd_cS2i dX8_letter_3 ct_8_48 ⟨Nat.le_of_ble_eq_true rfl, Nat.le_of_ble_eq_true rfl⟩ (Nat.le_of_ble_eq_true rfl) (Nat.le_of_ble_eq_true rfl) (c_isBelow_f ha _) ?_
      refine gd_if_eq_t 43 dX8_letter_6 (by decide) (by decide) ?_
      refine gd_ald0 dX8_letter_43 (by decide) ?_
      refine gd_ldc dX8_letter_44 ld_8_52 ?_
      refine gd_cV1i dX8_letter_46 ct_8_53 rc_0 ⟨Nat.le_of_ble_eq_true rfl, Nat.le_of_ble_eq_true rfl⟩ (Nat.le_of_ble_eq_true rfl) (Nat.le_of_ble_eq_true rfl) (c_f0 _) ?_
      refine gd_iret dX8_letter_49 rfl rfl ?_
      rfl
    · refine gd_ild1 dX9_letter_0 ?_
      refine gd_ic0 dX9_letter_1 ?_
      refine gd_ic5 dX9_letter_2 ?_
      refine gd_cS3i dX9_letter_3 ct_9_79 ⟨Nat.le_of_ble_eq_true rfl, Nat.le_of_ble_eq_true rfl⟩ (Nat.le_of_ble_eq_true rfl) (Nat.le_of_ble_eq_true rfl) (m_in_f (n := 6) (by decide) (by decide) ha _) ?_
      refine gd_if_eq_t 52 dX9_letter_6 (by decide) (by decide) ?_
      refine gd_ald0 dX9_letter_52 (by decide) ?_
      refine gd_ic1 dX9_letter_53 ?_
      refine gd_cV1i dX9_letter_54 ct_9_97 rc_72 ⟨Nat.le_of_ble_eq_true rfl, Nat.le_of_ble_eq_true rfl⟩ (Nat.le_of_ble_eq_true rfl) (Nat.le_of_ble_eq_true rfl) (m_f0 _) ?_
      refine gd_iret dX9_letter_57 rfl rfl ?_
      rfl
