
/-! ===== pair, night ===== -/
def isS (x : Int64) : Prop := ∃ m, isSh m ∧ x = lN m
theorem shAll (f : Nat → Int64) : ∀ n, (∀ j, j < n → isS (f j)) ∨ ∃ k, k < n ∧ (∀ j, j < k → isS (f j)) ∧ ¬ isS (f k) := by
  intro n
  induction n with
  | zero => exact Or.inl (fun j hj => absurd hj (by omega))
  | succ n ih =>
    rcases ih with a | ⟨k, a, b, c⟩
    · rcases Classical.em (isS (f n)) with q | q
      · left; intro j hj
        by_cases e : j = n
        · rw [e]; exact q
        · exact a j (by omega)
      · exact Or.inr ⟨n, by omega, a, q⟩
    · exact Or.inr ⟨k, by omega, b, c⟩
def bp1 (f : Nat → Nat → Nat) (a : Nat) : Nat → Nat → Nat × Nat → Nat × Nat
  | 0, _, p => p
  | k + 1, b, p => bp1 f a k (b + 1) (if f a b < p.2 then (100 * a + b, f a b) else p)
def bp2 (f : Nat → Nat → Nat) (n : Nat) : Nat → Nat → Nat × Nat → Nat × Nat
  | 0, _, p => p
  | k + 1, a, p => bp2 f n k (a + 1) (bp1 f a (n - (a + 1)) (a + 1) p)
def bpP (f : Nat → Nat → Nat) (n : Nat) (p : Nat × Nat) : Prop := (∃ a b, a < n ∧ b < n ∧ p.1 = 100 * a + b) ∧ p.2 ≤ 192
theorem bp1_ok {f : Nat → Nat → Nat} (hf : ∀ a b, f a b ≤ 192) {n a : Nat} (ha : a < n) : ∀ k b p, b + k = n → bpP f n p → bpP f n (bp1 f a k b p) := by
  intro k
  induction k with
  | zero => exact fun b p _ h => h
  | succ k ih =>
    intro b p hb h
    refine ih (b + 1) _ (by omega) ?_
    split
    · exact ⟨⟨a, b, ha, by omega, rfl⟩, hf a b⟩
    · exact h
theorem bp2_ok {f : Nat → Nat → Nat} (hf : ∀ a b, f a b ≤ 192) {n : Nat} : ∀ k a p, a + k = n → bpP f n p → bpP f n (bp2 f n k a p) := by
  intro k
  induction k with
  | zero => exact fun a p _ h => h
  | succ k ih =>
    intro a p hb h
    exact ih (a + 1) _ (by omega) (bp1_ok hf (by omega) _ _ _ (by omega) h)
theorem bp1_f (f : Nat → Nat → Nat) {k : Nat} : bp1 f 0 (k + 1) 1 (1, f 0 1) = bp1 f 0 k 2 (1, f 0 1) := by
  show bp1 f 0 k 2 (if f 0 1 < f 0 1 then _ else _) = _
  rw [if_neg (Nat.lt_irrefl _)]
theorem tw_le {s : Nat → Nat → Int32} (w : WF s) (g : Int32) (n m : Nat) : twN s g n m ≤ 192 := by
  have h1 : twN s g n m ≤ nT s * 12 := sumN_le (fun t _ => Nat.le_trans (Nat.min_le_left _ _) (mi_le s g t _ _ _))
  have h2 := w.t.2
  omega

theorem c_flt_A {h : Hp} {a : Int32} (ha : ¬ (0 ≤ a ∧ a < nI 4)) : Gd mX8_faultOfShakes 0 [.ref 0, .int a, .null] [] h (some (.int (-1000000001)), h) := by
  refine gd_ild1 dX8_faultOfShakes_0 ?_
  refine gd_ic4 dX8_faultOfShakes_1 ?_
  refine gd_cS2i dX8_faultOfShakes_2 ct_8_48 ⟨Nat.le_of_ble_eq_true rfl, Nat.le_of_ble_eq_true rfl⟩ (Nat.le_of_ble_eq_true rfl) (Nat.le_of_ble_eq_true rfl) (c_isBelow_f ha _) ?_
  refine gd_if_ne_f 11 dX8_faultOfShakes_5 (by decide) (by decide) ?_
  refine gd_ldc dX8_faultOfShakes_8 ld_8_52 ?_
  refine gd_iret dX8_faultOfShakes_10 rfl rfl ?_
  rfl
theorem c_flt_B {h : Hp} {q : Nat} (hq : q < 4) (e58 : h.1 58 q = nI 0) : Gd mX8_faultOfShakes 0 [.ref 0, .int (nI q), .null] [] h (some (.int (-1000000006)), h) := by
  refine gd_ild1 dX8_faultOfShakes_0 ?_
  refine gd_ic4 dX8_faultOfShakes_1 ?_
  refine gd_cS2i dX8_faultOfShakes_2 ct_8_48 ⟨Nat.le_of_ble_eq_true rfl, Nat.le_of_ble_eq_true rfl⟩ (Nat.le_of_ble_eq_true rfl) (Nat.le_of_ble_eq_true rfl) (c_isBelow_t hq (by decide) _) ?_
  refine gd_if_ne_t 11 dX8_faultOfShakes_5 (by decide) (by decide) ?_
  refine gd_ald0 dX8_faultOfShakes_11 (by decide) ?_
  refine gd_getR (r := 56) dX8_faultOfShakes_12 fl_8_33 rfl rfl rfl (by decide) ?_
  refine gd_ild1 dX8_faultOfShakes_15 ?_
  refine gd_cV1i dX8_faultOfShakes_16 ct_8_82 rc_56 ⟨Nat.le_of_ble_eq_true rfl, Nat.le_of_ble_eq_true rfl⟩ (Nat.le_of_ble_eq_true rfl) (Nat.le_of_ble_eq_true rfl) (c_isMissing1 hq e58) ?_
  refine gd_if_eq_f 25 dX8_faultOfShakes_19 (by decide) (by decide) ?_
  refine gd_ldc dX8_faultOfShakes_22 ld_8_85 ?_
  refine gd_iret dX8_faultOfShakes_24 rfl rfl ?_
  rfl
theorem c_flt_C {h : Hp} {q n wd : Nat} (hq : q < 4) (e58 : h.1 58 q = nI wd) (w0 : 0 < wd) (w1 : wd < 100) (e59 : h.1 59 q = nI n) (n4 : n ≤ 40) (hz : n < 2 ∨ 12 < n) : Gd mX8_faultOfShakes 0 [.ref 0, .int (nI q), .null] [] h (some (.int (-1000000007)), h) := by
  by_cases z : n < 2
  · refine gd_ild1 dX8_faultOfShakes_0 ?_
    refine gd_ic4 dX8_faultOfShakes_1 ?_
    refine gd_cS2i dX8_faultOfShakes_2 ct_8_48 ⟨Nat.le_of_ble_eq_true rfl, Nat.le_of_ble_eq_true rfl⟩ (Nat.le_of_ble_eq_true rfl) (Nat.le_of_ble_eq_true rfl) (c_isBelow_t hq (by decide) _) ?_
    refine gd_if_ne_t 11 dX8_faultOfShakes_5 (by decide) (by decide) ?_
    refine gd_ald0 dX8_faultOfShakes_11 (by decide) ?_
    refine gd_getR (r := 56) dX8_faultOfShakes_12 fl_8_33 rfl rfl rfl (by decide) ?_
    refine gd_ild1 dX8_faultOfShakes_15 ?_
    refine gd_cV1i dX8_faultOfShakes_16 ct_8_82 rc_56 ⟨Nat.le_of_ble_eq_true rfl, Nat.le_of_ble_eq_true rfl⟩ (Nat.le_of_ble_eq_true rfl) (Nat.le_of_ble_eq_true rfl) (c_isMissing0 hq e58 w0 w1) ?_
    refine gd_if_eq_t 25 dX8_faultOfShakes_19 (by decide) (by decide) ?_
    refine gd_ald0 dX8_faultOfShakes_25 (by decide) ?_
    refine gd_getR (r := 56) dX8_faultOfShakes_26 fl_8_33 rfl rfl rfl (by decide) ?_
    refine gd_getR (r := 59) dX8_faultOfShakes_29 fl_8_86 rfl rfl rfl (by decide) ?_
    refine gd_ild1 dX8_faultOfShakes_32 ?_
    refine gd_iald (n := 4) dX8_faultOfShakes_33 rfl (by decide) (by repeat' (first | with_reducible rfl | apply ni_add | apply ni_mul)) (by omega) ?_
    rw [e59]
    refine gd_ic2 dX8_faultOfShakes_34 ?_
    refine gd_icmp_lt_t 52 dX8_faultOfShakes_35 (by decide) (by exact nI_lt (by omega) (by omega)) ?_
    refine gd_ldc dX8_faultOfShakes_52 ld_8_89 ?_
    refine gd_iret dX8_faultOfShakes_54 rfl rfl ?_
    rfl
  · refine gd_ild1 dX8_faultOfShakes_0 ?_
    refine gd_ic4 dX8_faultOfShakes_1 ?_
    refine gd_cS2i dX8_faultOfShakes_2 ct_8_48 ⟨Nat.le_of_ble_eq_true rfl, Nat.le_of_ble_eq_true rfl⟩ (Nat.le_of_ble_eq_true rfl) (Nat.le_of_ble_eq_true rfl) (c_isBelow_t hq (by decide) _) ?_
    refine gd_if_ne_t 11 dX8_faultOfShakes_5 (by decide) (by decide) ?_
    refine gd_ald0 dX8_faultOfShakes_11 (by decide) ?_
    refine gd_getR (r := 56) dX8_faultOfShakes_12 fl_8_33 rfl rfl rfl (by decide) ?_
    refine gd_ild1 dX8_faultOfShakes_15 ?_
    refine gd_cV1i dX8_faultOfShakes_16 ct_8_82 rc_56 ⟨Nat.le_of_ble_eq_true rfl, Nat.le_of_ble_eq_true rfl⟩ (Nat.le_of_ble_eq_true rfl) (Nat.le_of_ble_eq_true rfl) (c_isMissing0 hq e58 w0 w1) ?_
    refine gd_if_eq_t 25 dX8_faultOfShakes_19 (by decide) (by decide) ?_
    refine gd_ald0 dX8_faultOfShakes_25 (by decide) ?_
    refine gd_getR (r := 56) dX8_faultOfShakes_26 fl_8_33 rfl rfl rfl (by decide) ?_
    refine gd_getR (r := 59) dX8_faultOfShakes_29 fl_8_86 rfl rfl rfl (by decide) ?_
    refine gd_ild1 dX8_faultOfShakes_32 ?_
    refine gd_iald (n := 4) dX8_faultOfShakes_33 rfl (by decide) (by repeat' (first | with_reducible rfl | apply ni_add | apply ni_mul)) (by omega) ?_
    rw [e59]
    refine gd_ic2 dX8_faultOfShakes_34 ?_
    refine gd_icmp_lt_f 52 dX8_faultOfShakes_35 (by decide) (by exact nI_nlt (by omega) (by omega)) ?_
    refine gd_ald0 dX8_faultOfShakes_38 (by decide) ?_
    refine gd_getR (r := 56) dX8_faultOfShakes_39 fl_8_33 rfl rfl rfl (by decide) ?_
    refine gd_getR (r := 59) dX8_faultOfShakes_42 fl_8_86 rfl rfl rfl (by decide) ?_
    refine gd_ild1 dX8_faultOfShakes_45 ?_
    refine gd_iald (n := 4) dX8_faultOfShakes_46 rfl (by decide) (by repeat' (first | with_reducible rfl | apply ni_add | apply ni_mul)) (by omega) ?_
    rw [e59]
    refine gd_bipush (v := nI 12) dX8_faultOfShakes_47 (by decide) ?_
    refine gd_icmp_le_f 55 dX8_faultOfShakes_49 (by decide) (by exact nI_ge (by omega) (by omega)) ?_
    refine gd_ldc dX8_faultOfShakes_52 ld_8_89 ?_
    refine gd_iret dX8_faultOfShakes_54 rfl rfl ?_
    rfl
theorem c_flt_D {h : Hp} {q n wd : Nat} (hq : q < 4) (e58 : h.1 58 q = nI wd) (w0 : 0 < wd) (w1 : wd < 100) (e59 : h.1 59 q = nI n) (n4 : n ≤ 40) (n2 : 2 ≤ n) (n12 : n ≤ 12) {k : Nat} (hk : k < n) (ha : ∀ j, j < k → isS (h.2 57 (40 * q + j))) (hx : ¬ isS (h.2 57 (40 * q + k))) : Gd mX8_faultOfShakes 0 [.ref 0, .int (nI q), .null] [] h (some (.int (-1000000001)), h) := by
  have key := loopG (P := fun j => Gd mX8_faultOfShakes 57 [.ref 0, .int (nI q), .int (nI j)] [] h (some (.int (-1000000001)), h)) (n := k) ?_ ?_ 0 (by omega)
  · refine gd_ild1 dX8_faultOfShakes_0 ?_
    refine gd_ic4 dX8_faultOfShakes_1 ?_
    refine gd_cS2i dX8_faultOfShakes_2 ct_8_48 ⟨Nat.le_of_ble_eq_true rfl, Nat.le_of_ble_eq_true rfl⟩ (Nat.le_of_ble_eq_true rfl) (Nat.le_of_ble_eq_true rfl) (c_isBelow_t hq (by decide) _) ?_
    refine gd_if_ne_t 11 dX8_faultOfShakes_5 (by decide) (by decide) ?_
    refine gd_ald0 dX8_faultOfShakes_11 (by decide) ?_
    refine gd_getR (r := 56) dX8_faultOfShakes_12 fl_8_33 rfl rfl rfl (by decide) ?_
    refine gd_ild1 dX8_faultOfShakes_15 ?_
    refine gd_cV1i dX8_faultOfShakes_16 ct_8_82 rc_56 ⟨Nat.le_of_ble_eq_true rfl, Nat.le_of_ble_eq_true rfl⟩ (Nat.le_of_ble_eq_true rfl) (Nat.le_of_ble_eq_true rfl) (c_isMissing0 hq e58 w0 w1) ?_
    refine gd_if_eq_t 25 dX8_faultOfShakes_19 (by decide) (by decide) ?_
    refine gd_ald0 dX8_faultOfShakes_25 (by decide) ?_
    refine gd_getR (r := 56) dX8_faultOfShakes_26 fl_8_33 rfl rfl rfl (by decide) ?_
    refine gd_getR (r := 59) dX8_faultOfShakes_29 fl_8_86 rfl rfl rfl (by decide) ?_
    refine gd_ild1 dX8_faultOfShakes_32 ?_
    refine gd_iald (n := 4) dX8_faultOfShakes_33 rfl (by decide) (by repeat' (first | with_reducible rfl | apply ni_add | apply ni_mul)) (by omega) ?_
    rw [e59]
    refine gd_ic2 dX8_faultOfShakes_34 ?_
    refine gd_icmp_lt_f 52 dX8_faultOfShakes_35 (by decide) (by exact nI_nlt (by omega) (by omega)) ?_
    refine gd_ald0 dX8_faultOfShakes_38 (by decide) ?_
    refine gd_getR (r := 56) dX8_faultOfShakes_39 fl_8_33 rfl rfl rfl (by decide) ?_
    refine gd_getR (r := 59) dX8_faultOfShakes_42 fl_8_86 rfl rfl rfl (by decide) ?_
    refine gd_ild1 dX8_faultOfShakes_45 ?_
    refine gd_iald (n := 4) dX8_faultOfShakes_46 rfl (by decide) (by repeat' (first | with_reducible rfl | apply ni_add | apply ni_mul)) (by omega) ?_
    rw [e59]
    refine gd_bipush (v := nI 12) dX8_faultOfShakes_47 (by decide) ?_
    refine gd_icmp_le_t 55 dX8_faultOfShakes_49 (by decide) (by exact nI_le (by omega) (by omega)) ?_
    refine gd_ic0 dX8_faultOfShakes_55 ?_
    refine gd_ist2 dX8_faultOfShakes_56 rfl ?_
    exact key
  · refine gd_ild2 dX8_faultOfShakes_57 ?_
    refine gd_ald0 dX8_faultOfShakes_58 (by decide) ?_
    refine gd_getR (r := 56) dX8_faultOfShakes_59 fl_8_33 rfl rfl rfl (by decide) ?_
    refine gd_getR (r := 59) dX8_faultOfShakes_62 fl_8_86 rfl rfl rfl (by decide) ?_
    refine gd_ild1 dX8_faultOfShakes_65 ?_
    refine gd_iald (n := 4) dX8_faultOfShakes_66 rfl (by decide) (by repeat' (first | with_reducible rfl | apply ni_add | apply ni_mul)) (by omega) ?_
    refine gd_icmp_ge_f 94 dX8_faultOfShakes_67 (by decide) (by rw [e59]; exact nI_ge (by omega) (by omega)) ?_
    refine gd_ald0 dX8_faultOfShakes_70 (by decide) ?_
    refine gd_getR (r := 56) dX8_faultOfShakes_71 fl_8_33 rfl rfl rfl (by decide) ?_
    refine gd_ild1 dX8_faultOfShakes_74 ?_
    refine gd_ild2 dX8_faultOfShakes_75 ?_
    refine gd_cV2l dX8_faultOfShakes_76 ct_8_93 rc_56 ⟨Nat.le_of_ble_eq_true rfl, Nat.le_of_ble_eq_true rfl⟩ (Nat.le_of_ble_eq_true rfl) (Nat.le_of_ble_eq_true rfl) (c_at hq (by omega) _) ?_
    skip
    refine gd_cS1i dX8_faultOfShakes_79 ct_8_221 ⟨Nat.le_of_ble_eq_true rfl, Nat.le_of_ble_eq_true rfl⟩ (Nat.le_of_ble_eq_true rfl) (Nat.le_of_ble_eq_true rfl) (c_isShake_f hx _) ?_
    refine gd_if_ne_f 88 dX8_faultOfShakes_82 (by decide) (by decide) ?_
    refine gd_ldc dX8_faultOfShakes_85 ld_8_52 ?_
    refine gd_iret dX8_faultOfShakes_87 rfl rfl ?_
    rfl
  · intro j hj ih
    obtain ⟨m, hm, em⟩ := ha j hj
    refine gd_ild2 dX8_faultOfShakes_57 ?_
    refine gd_ald0 dX8_faultOfShakes_58 (by decide) ?_
    refine gd_getR (r := 56) dX8_faultOfShakes_59 fl_8_33 rfl rfl rfl (by decide) ?_
    refine gd_getR (r := 59) dX8_faultOfShakes_62 fl_8_86 rfl rfl rfl (by decide) ?_
    refine gd_ild1 dX8_faultOfShakes_65 ?_
    refine gd_iald (n := 4) dX8_faultOfShakes_66 rfl (by decide) (by repeat' (first | with_reducible rfl | apply ni_add | apply ni_mul)) (by omega) ?_
    refine gd_icmp_ge_f 94 dX8_faultOfShakes_67 (by decide) (by rw [e59]; exact nI_ge (by omega) (by omega)) ?_
    refine gd_ald0 dX8_faultOfShakes_70 (by decide) ?_
    refine gd_getR (r := 56) dX8_faultOfShakes_71 fl_8_33 rfl rfl rfl (by decide) ?_
    refine gd_ild1 dX8_faultOfShakes_74 ?_
    refine gd_ild2 dX8_faultOfShakes_75 ?_
    refine gd_cV2l dX8_faultOfShakes_76 ct_8_93 rc_56 ⟨Nat.le_of_ble_eq_true rfl, Nat.le_of_ble_eq_true rfl⟩ (Nat.le_of_ble_eq_true rfl) (Nat.le_of_ble_eq_true rfl) (c_at hq (by omega) _) ?_
    rw [em]
    refine gd_cS1i dX8_faultOfShakes_79 ct_8_221 ⟨Nat.le_of_ble_eq_true rfl, Nat.le_of_ble_eq_true rfl⟩ (Nat.le_of_ble_eq_true rfl) (Nat.le_of_ble_eq_true rfl) (c_isShake_t hm _) ?_
    refine gd_if_ne_t 88 dX8_faultOfShakes_82 (by decide) (by decide) ?_
    refine gd_iinc2 (b := nI 1) dX8_faultOfShakes_88 (by decide) rfl ?_
    rw [nI_add]
    refine gd_goto 57 dX8_faultOfShakes_91 (by decide) ?_
    exact ih
theorem c_flt_E {h : Hp} {q n wd : Nat} (hq : q < 4) (e58 : h.1 58 q = nI wd) (w0 : 0 < wd) (w1 : wd < 100) (e59 : h.1 59 q = nI n) (n4 : n ≤ 40) (n2 : 2 ≤ n) (n12 : n ≤ 12) (ha : ∀ j, j < n → isS (h.2 57 (40 * q + j))) : Gd mX8_faultOfShakes 0 [.ref 0, .int (nI q), .null] [] h (some (.int (nI 0)), h) := by
  have key := loopG (P := fun j => Gd mX8_faultOfShakes 57 [.ref 0, .int (nI q), .int (nI j)] [] h (some (.int (nI 0)), h)) (n := n) ?_ ?_ 0 (by omega)
  · refine gd_ild1 dX8_faultOfShakes_0 ?_
    refine gd_ic4 dX8_faultOfShakes_1 ?_
    refine gd_cS2i dX8_faultOfShakes_2 ct_8_48 ⟨Nat.le_of_ble_eq_true rfl, Nat.le_of_ble_eq_true rfl⟩ (Nat.le_of_ble_eq_true rfl) (Nat.le_of_ble_eq_true rfl) (c_isBelow_t hq (by decide) _) ?_
    refine gd_if_ne_t 11 dX8_faultOfShakes_5 (by decide) (by decide) ?_
    refine gd_ald0 dX8_faultOfShakes_11 (by decide) ?_
    refine gd_getR (r := 56) dX8_faultOfShakes_12 fl_8_33 rfl rfl rfl (by decide) ?_
    refine gd_ild1 dX8_faultOfShakes_15 ?_
    refine gd_cV1i dX8_faultOfShakes_16 ct_8_82 rc_56 ⟨Nat.le_of_ble_eq_true rfl, Nat.le_of_ble_eq_true rfl⟩ (Nat.le_of_ble_eq_true rfl) (Nat.le_of_ble_eq_true rfl) (c_isMissing0 hq e58 w0 w1) ?_
    refine gd_if_eq_t 25 dX8_faultOfShakes_19 (by decide) (by decide) ?_
    refine gd_ald0 dX8_faultOfShakes_25 (by decide) ?_
    refine gd_getR (r := 56) dX8_faultOfShakes_26 fl_8_33 rfl rfl rfl (by decide) ?_
    refine gd_getR (r := 59) dX8_faultOfShakes_29 fl_8_86 rfl rfl rfl (by decide) ?_
    refine gd_ild1 dX8_faultOfShakes_32 ?_
    refine gd_iald (n := 4) dX8_faultOfShakes_33 rfl (by decide) (by repeat' (first | with_reducible rfl | apply ni_add | apply ni_mul)) (by omega) ?_
    rw [e59]
    refine gd_ic2 dX8_faultOfShakes_34 ?_
    refine gd_icmp_lt_f 52 dX8_faultOfShakes_35 (by decide) (by exact nI_nlt (by omega) (by omega)) ?_
    refine gd_ald0 dX8_faultOfShakes_38 (by decide) ?_
    refine gd_getR (r := 56) dX8_faultOfShakes_39 fl_8_33 rfl rfl rfl (by decide) ?_
    refine gd_getR (r := 59) dX8_faultOfShakes_42 fl_8_86 rfl rfl rfl (by decide) ?_
    refine gd_ild1 dX8_faultOfShakes_45 ?_
    refine gd_iald (n := 4) dX8_faultOfShakes_46 rfl (by decide) (by repeat' (first | with_reducible rfl | apply ni_add | apply ni_mul)) (by omega) ?_
    rw [e59]
    refine gd_bipush (v := nI 12) dX8_faultOfShakes_47 (by decide) ?_
    refine gd_icmp_le_t 55 dX8_faultOfShakes_49 (by decide) (by exact nI_le (by omega) (by omega)) ?_
    refine gd_ic0 dX8_faultOfShakes_55 ?_
    refine gd_ist2 dX8_faultOfShakes_56 rfl ?_
    exact key
  · refine gd_ild2 dX8_faultOfShakes_57 ?_
    refine gd_ald0 dX8_faultOfShakes_58 (by decide) ?_
    refine gd_getR (r := 56) dX8_faultOfShakes_59 fl_8_33 rfl rfl rfl (by decide) ?_
    refine gd_getR (r := 59) dX8_faultOfShakes_62 fl_8_86 rfl rfl rfl (by decide) ?_
    refine gd_ild1 dX8_faultOfShakes_65 ?_
    refine gd_iald (n := 4) dX8_faultOfShakes_66 rfl (by decide) (by repeat' (first | with_reducible rfl | apply ni_add | apply ni_mul)) (by omega) ?_
    refine gd_icmp_ge_t 94 dX8_faultOfShakes_67 (by decide) (by rw [e59]; exact nI_le (by omega) (by omega)) ?_
    refine gd_ic0 dX8_faultOfShakes_94 ?_
    refine gd_iret dX8_faultOfShakes_95 rfl rfl ?_
    rfl
  · intro j hj ih
    obtain ⟨m, hm, em⟩ := ha j hj
    refine gd_ild2 dX8_faultOfShakes_57 ?_
    refine gd_ald0 dX8_faultOfShakes_58 (by decide) ?_
    refine gd_getR (r := 56) dX8_faultOfShakes_59 fl_8_33 rfl rfl rfl (by decide) ?_
    refine gd_getR (r := 59) dX8_faultOfShakes_62 fl_8_86 rfl rfl rfl (by decide) ?_
    refine gd_ild1 dX8_faultOfShakes_65 ?_
    refine gd_iald (n := 4) dX8_faultOfShakes_66 rfl (by decide) (by repeat' (first | with_reducible rfl | apply ni_add | apply ni_mul)) (by omega) ?_
    refine gd_icmp_ge_f 94 dX8_faultOfShakes_67 (by decide) (by rw [e59]; exact nI_ge (by omega) (by omega)) ?_
    refine gd_ald0 dX8_faultOfShakes_70 (by decide) ?_
    refine gd_getR (r := 56) dX8_faultOfShakes_71 fl_8_33 rfl rfl rfl (by decide) ?_
    refine gd_ild1 dX8_faultOfShakes_74 ?_
    refine gd_ild2 dX8_faultOfShakes_75 ?_
    refine gd_cV2l dX8_faultOfShakes_76 ct_8_93 rc_56 ⟨Nat.le_of_ble_eq_true rfl, Nat.le_of_ble_eq_true rfl⟩ (Nat.le_of_ble_eq_true rfl) (Nat.le_of_ble_eq_true rfl) (c_at hq (by omega) _) ?_
    rw [em]
    refine gd_cS1i dX8_faultOfShakes_79 ct_8_221 ⟨Nat.le_of_ble_eq_true rfl, Nat.le_of_ble_eq_true rfl⟩ (Nat.le_of_ble_eq_true rfl) (Nat.le_of_ble_eq_true rfl) (c_isShake_t hm _) ?_
    refine gd_if_ne_t 88 dX8_faultOfShakes_82 (by decide) (by decide) ?_
    refine gd_iinc2 (b := nI 1) dX8_faultOfShakes_88 (by decide) rfl ?_
    rw [nI_add]
    refine gd_goto 57 dX8_faultOfShakes_91 (by decide) ?_
    exact ih
theorem m_nop_A {h : Hp} {a : Int32} (ha : ¬ (0 ≤ a ∧ a < nI 4)) : Gd mX9_noPairs 0 [.ref 72, .int a, .null] [] h (some (.int (nI 1)), h) := by
  refine gd_ild1 dX9_noPairs_0 ?_
  refine gd_cS1i dX9_noPairs_1 ct_9_104 ⟨Nat.le_of_ble_eq_true rfl, Nat.le_of_ble_eq_true rfl⟩ (Nat.le_of_ble_eq_true rfl) (Nat.le_of_ble_eq_true rfl) (m_isSheet_f ha _) ?_
  refine gd_if_ne_f 9 dX9_noPairs_4 (by decide) (by decide) ?_
  refine gd_ic1 dX9_noPairs_7 ?_
  refine gd_iret dX9_noPairs_8 rfl rfl ?_
  rfl
theorem m_nop_B {h : Hp} {q : Nat} (hq : q < 4) (e90 : h.1 90 q = nI 0) : Gd mX9_noPairs 0 [.ref 72, .int (nI q), .null] [] h (some (.int (nI 6)), h) := by
  refine gd_ild1 dX9_noPairs_0 ?_
  refine gd_cS1i dX9_noPairs_1 ct_9_104 ⟨Nat.le_of_ble_eq_true rfl, Nat.le_of_ble_eq_true rfl⟩ (Nat.le_of_ble_eq_true rfl) (Nat.le_of_ble_eq_true rfl) (m_isSheet_t hq _) ?_
  refine gd_if_ne_t 9 dX9_noPairs_4 (by decide) (by decide) ?_
  refine gd_ald0 dX9_noPairs_9 (by decide) ?_
  refine gd_getR (r := 90) dX9_noPairs_10 fl_9_63 rfl rfl rfl (by decide) ?_
  refine gd_ild1 dX9_noPairs_13 ?_
  refine gd_iald (n := 4) dX9_noPairs_14 rfl (by decide) (by repeat' (first | with_reducible rfl | apply ni_add | apply ni_mul)) (by omega) ?_
  refine gd_if_ne_f 21 dX9_noPairs_15 (by decide) (by rw [e90]; decide) ?_
  refine gd_bipush (v := nI 6) dX9_noPairs_18 (by decide) ?_
  refine gd_iret dX9_noPairs_20 rfl rfl ?_
  rfl
theorem m_nop_C {h : Hp} {q n wd : Nat} (hq : q < 4) (e90 : h.1 90 q = nI wd) (w0 : 0 < wd) (w1 : wd < 100) (e91 : h.1 91 q = nI n) (n4 : n ≤ 40) (hz : n < 2 ∨ 12 < n) : Gd mX9_noPairs 0 [.ref 72, .int (nI q), .null] [] h (some (.int (nI 7)), h) := by
  have gi := m_in (nI n) (nI 2) (nI 12) h
  rw [decide_eq_false (fun z => by have a := (nI_leb (by decide) (by omega)).mp z.1; have b := (nI_leb (by omega) (by decide)).mp z.2; omega)] at gi
  refine gd_ild1 dX9_noPairs_0 ?_
  refine gd_cS1i dX9_noPairs_1 ct_9_104 ⟨Nat.le_of_ble_eq_true rfl, Nat.le_of_ble_eq_true rfl⟩ (Nat.le_of_ble_eq_true rfl) (Nat.le_of_ble_eq_true rfl) (m_isSheet_t hq _) ?_
  refine gd_if_ne_t 9 dX9_noPairs_4 (by decide) (by decide) ?_
  refine gd_ald0 dX9_noPairs_9 (by decide) ?_
  refine gd_getR (r := 90) dX9_noPairs_10 fl_9_63 rfl rfl rfl (by decide) ?_
  refine gd_ild1 dX9_noPairs_13 ?_
  refine gd_iald (n := 4) dX9_noPairs_14 rfl (by decide) (by repeat' (first | with_reducible rfl | apply ni_add | apply ni_mul)) (by omega) ?_
  refine gd_if_ne_t 21 dX9_noPairs_15 (by decide) (by rw [e90]; exact nI_ne0 w0 (by omega)) ?_
  refine gd_ald0 dX9_noPairs_21 (by decide) ?_
  refine gd_getR (r := 91) dX9_noPairs_22 fl_9_66 rfl rfl rfl (by decide) ?_
  refine gd_ild1 dX9_noPairs_25 ?_
  refine gd_iald (n := 4) dX9_noPairs_26 rfl (by decide) (by repeat' (first | with_reducible rfl | apply ni_add | apply ni_mul)) (by omega) ?_
  rw [e91]
  refine gd_ic2 dX9_noPairs_27 ?_
  refine gd_bipush (v := nI 12) dX9_noPairs_28 (by decide) ?_
  refine gd_cS3i dX9_noPairs_30 ct_9_79 ⟨Nat.le_of_ble_eq_true rfl, Nat.le_of_ble_eq_true rfl⟩ (Nat.le_of_ble_eq_true rfl) (Nat.le_of_ble_eq_true rfl) (gi) ?_
  refine gd_if_ne_f 39 dX9_noPairs_33 (by decide) (by decide) ?_
  refine gd_bipush (v := nI 7) dX9_noPairs_36 (by decide) ?_
  refine gd_iret dX9_noPairs_38 rfl rfl ?_
  rfl
theorem m_nop_D {h : Hp} {q n wd : Nat} (hq : q < 4) (e90 : h.1 90 q = nI wd) (w0 : 0 < wd) (w1 : wd < 100) (e91 : h.1 91 q = nI n) (n4 : n ≤ 40) (n2 : 2 ≤ n) (n12 : n ≤ 12) {k : Nat} (hk : k < n) (ha : ∀ j, j < k → isS (h.2 92 (40 * q + j))) (hx : ¬ isS (h.2 92 (40 * q + k))) : Gd mX9_noPairs 0 [.ref 72, .int (nI q), .null] [] h (some (.int (nI 1)), h) := by
  have gi := m_in (nI n) (nI 2) (nI 12) h
  rw [decide_eq_true ⟨nI_le n2 (by omega), nI_le n12 (by decide)⟩] at gi
  have key := loopG (P := fun j => Gd mX9_noPairs 41 [.ref 72, .int (nI q), .int (nI j)] [] h (some (.int (nI 1)), h)) (n := k) ?_ ?_ 0 (by omega)
  · refine gd_ild1 dX9_noPairs_0 ?_
    refine gd_cS1i dX9_noPairs_1 ct_9_104 ⟨Nat.le_of_ble_eq_true rfl, Nat.le_of_ble_eq_true rfl⟩ (Nat.le_of_ble_eq_true rfl) (Nat.le_of_ble_eq_true rfl) (m_isSheet_t hq _) ?_
    refine gd_if_ne_t 9 dX9_noPairs_4 (by decide) (by decide) ?_
    refine gd_ald0 dX9_noPairs_9 (by decide) ?_
    refine gd_getR (r := 90) dX9_noPairs_10 fl_9_63 rfl rfl rfl (by decide) ?_
    refine gd_ild1 dX9_noPairs_13 ?_
    refine gd_iald (n := 4) dX9_noPairs_14 rfl (by decide) (by repeat' (first | with_reducible rfl | apply ni_add | apply ni_mul)) (by omega) ?_
    refine gd_if_ne_t 21 dX9_noPairs_15 (by decide) (by rw [e90]; exact nI_ne0 w0 (by omega)) ?_
    refine gd_ald0 dX9_noPairs_21 (by decide) ?_
    refine gd_getR (r := 91) dX9_noPairs_22 fl_9_66 rfl rfl rfl (by decide) ?_
    refine gd_ild1 dX9_noPairs_25 ?_
    refine gd_iald (n := 4) dX9_noPairs_26 rfl (by decide) (by repeat' (first | with_reducible rfl | apply ni_add | apply ni_mul)) (by omega) ?_
    rw [e91]
    refine gd_ic2 dX9_noPairs_27 ?_
    refine gd_bipush (v := nI 12) dX9_noPairs_28 (by decide) ?_
    refine gd_cS3i dX9_noPairs_30 ct_9_79 ⟨Nat.le_of_ble_eq_true rfl, Nat.le_of_ble_eq_true rfl⟩ (Nat.le_of_ble_eq_true rfl) (Nat.le_of_ble_eq_true rfl) (gi) ?_
    refine gd_if_ne_t 39 dX9_noPairs_33 (by decide) (by decide) ?_
    refine gd_ic0 dX9_noPairs_39 ?_
    refine gd_ist2 dX9_noPairs_40 rfl ?_
    exact key
  · refine gd_ild2 dX9_noPairs_41 ?_
    refine gd_ald0 dX9_noPairs_42 (by decide) ?_
    refine gd_getR (r := 91) dX9_noPairs_43 fl_9_66 rfl rfl rfl (by decide) ?_
    refine gd_ild1 dX9_noPairs_46 ?_
    refine gd_iald (n := 4) dX9_noPairs_47 rfl (by decide) (by repeat' (first | with_reducible rfl | apply ni_add | apply ni_mul)) (by omega) ?_
    refine gd_icmp_ge_f 76 dX9_noPairs_48 (by decide) (by rw [e91]; exact nI_ge (by omega) (by omega)) ?_
    refine gd_ald0 dX9_noPairs_51 (by decide) ?_
    refine gd_getR (r := 92) dX9_noPairs_52 fl_9_69 rfl rfl rfl (by decide) ?_
    refine gd_bipush (v := nI 40) dX9_noPairs_55 (by decide) ?_
    refine gd_ild1 dX9_noPairs_57 ?_
    refine gd_imul dX9_noPairs_58 ?_
    refine gd_ild2 dX9_noPairs_59 ?_
    refine gd_iadd dX9_noPairs_60 ?_
    refine gd_lald (n := 160) dX9_noPairs_61 rfl (by decide) (by rw [pk_mul, nI_add]) (by omega) ?_
    skip
    refine gd_cS1i dX9_noPairs_62 ct_9_225 ⟨Nat.le_of_ble_eq_true rfl, Nat.le_of_ble_eq_true rfl⟩ (Nat.le_of_ble_eq_true rfl) (Nat.le_of_ble_eq_true rfl) (m_isShake_f hx _) ?_
    refine gd_if_ne_f 70 dX9_noPairs_65 (by decide) (by decide) ?_
    refine gd_ic1 dX9_noPairs_68 ?_
    refine gd_iret dX9_noPairs_69 rfl rfl ?_
    rfl
  · intro j hj ih
    obtain ⟨m, hm, em⟩ := ha j hj
    refine gd_ild2 dX9_noPairs_41 ?_
    refine gd_ald0 dX9_noPairs_42 (by decide) ?_
    refine gd_getR (r := 91) dX9_noPairs_43 fl_9_66 rfl rfl rfl (by decide) ?_
    refine gd_ild1 dX9_noPairs_46 ?_
    refine gd_iald (n := 4) dX9_noPairs_47 rfl (by decide) (by repeat' (first | with_reducible rfl | apply ni_add | apply ni_mul)) (by omega) ?_
    refine gd_icmp_ge_f 76 dX9_noPairs_48 (by decide) (by rw [e91]; exact nI_ge (by omega) (by omega)) ?_
    refine gd_ald0 dX9_noPairs_51 (by decide) ?_
    refine gd_getR (r := 92) dX9_noPairs_52 fl_9_69 rfl rfl rfl (by decide) ?_
    refine gd_bipush (v := nI 40) dX9_noPairs_55 (by decide) ?_
    refine gd_ild1 dX9_noPairs_57 ?_
    refine gd_imul dX9_noPairs_58 ?_
    refine gd_ild2 dX9_noPairs_59 ?_
    refine gd_iadd dX9_noPairs_60 ?_
    refine gd_lald (n := 160) dX9_noPairs_61 rfl (by decide) (by rw [pk_mul, nI_add]) (by omega) ?_
    rw [em]
    refine gd_cS1i dX9_noPairs_62 ct_9_225 ⟨Nat.le_of_ble_eq_true rfl, Nat.le_of_ble_eq_true rfl⟩ (Nat.le_of_ble_eq_true rfl) (Nat.le_of_ble_eq_true rfl) (m_isShake_t hm _) ?_
    refine gd_if_ne_t 70 dX9_noPairs_65 (by decide) (by decide) ?_
    refine gd_iinc2 (b := nI 1) dX9_noPairs_70 (by decide) rfl ?_
    rw [nI_add]
    refine gd_goto 41 dX9_noPairs_73 (by decide) ?_
    exact ih
theorem m_nop_E {h : Hp} {q n wd : Nat} (hq : q < 4) (e90 : h.1 90 q = nI wd) (w0 : 0 < wd) (w1 : wd < 100) (e91 : h.1 91 q = nI n) (n4 : n ≤ 40) (n2 : 2 ≤ n) (n12 : n ≤ 12) (ha : ∀ j, j < n → isS (h.2 92 (40 * q + j))) : Gd mX9_noPairs 0 [.ref 72, .int (nI q), .null] [] h (some (.int (nI 0)), h) := by
  have gi := m_in (nI n) (nI 2) (nI 12) h
  rw [decide_eq_true ⟨nI_le n2 (by omega), nI_le n12 (by decide)⟩] at gi
  have key := loopG (P := fun j => Gd mX9_noPairs 41 [.ref 72, .int (nI q), .int (nI j)] [] h (some (.int (nI 0)), h)) (n := n) ?_ ?_ 0 (by omega)
  · refine gd_ild1 dX9_noPairs_0 ?_
    refine gd_cS1i dX9_noPairs_1 ct_9_104 ⟨Nat.le_of_ble_eq_true rfl, Nat.le_of_ble_eq_true rfl⟩ (Nat.le_of_ble_eq_true rfl) (Nat.le_of_ble_eq_true rfl) (m_isSheet_t hq _) ?_
    refine gd_if_ne_t 9 dX9_noPairs_4 (by decide) (by decide) ?_
    refine gd_ald0 dX9_noPairs_9 (by decide) ?_
    refine gd_getR (r := 90) dX9_noPairs_10 fl_9_63 rfl rfl rfl (by decide) ?_
    refine gd_ild1 dX9_noPairs_13 ?_
    refine gd_iald (n := 4) dX9_noPairs_14 rfl (by decide) (by repeat' (first | with_reducible rfl | apply ni_add | apply ni_mul)) (by omega) ?_
    refine gd_if_ne_t 21 dX9_noPairs_15 (by decide) (by rw [e90]; exact nI_ne0 w0 (by omega)) ?_
    refine gd_ald0 dX9_noPairs_21 (by decide) ?_
    refine gd_getR (r := 91) dX9_noPairs_22 fl_9_66 rfl rfl rfl (by decide) ?_
    refine gd_ild1 dX9_noPairs_25 ?_
    refine gd_iald (n := 4) dX9_noPairs_26 rfl (by decide) (by repeat' (first | with_reducible rfl | apply ni_add | apply ni_mul)) (by omega) ?_
    rw [e91]
    refine gd_ic2 dX9_noPairs_27 ?_
    refine gd_bipush (v := nI 12) dX9_noPairs_28 (by decide) ?_
    refine gd_cS3i dX9_noPairs_30 ct_9_79 ⟨Nat.le_of_ble_eq_true rfl, Nat.le_of_ble_eq_true rfl⟩ (Nat.le_of_ble_eq_true rfl) (Nat.le_of_ble_eq_true rfl) (gi) ?_
    refine gd_if_ne_t 39 dX9_noPairs_33 (by decide) (by decide) ?_
    refine gd_ic0 dX9_noPairs_39 ?_
    refine gd_ist2 dX9_noPairs_40 rfl ?_
    exact key
  · refine gd_ild2 dX9_noPairs_41 ?_
    refine gd_ald0 dX9_noPairs_42 (by decide) ?_
    refine gd_getR (r := 91) dX9_noPairs_43 fl_9_66 rfl rfl rfl (by decide) ?_
    refine gd_ild1 dX9_noPairs_46 ?_
    refine gd_iald (n := 4) dX9_noPairs_47 rfl (by decide) (by repeat' (first | with_reducible rfl | apply ni_add | apply ni_mul)) (by omega) ?_
    refine gd_icmp_ge_t 76 dX9_noPairs_48 (by decide) (by rw [e91]; exact nI_le (by omega) (by omega)) ?_
    refine gd_ic0 dX9_noPairs_76 ?_
    refine gd_iret dX9_noPairs_77 rfl rfl ?_
    rfl
  · intro j hj ih
    obtain ⟨m, hm, em⟩ := ha j hj
    refine gd_ild2 dX9_noPairs_41 ?_
    refine gd_ald0 dX9_noPairs_42 (by decide) ?_
    refine gd_getR (r := 91) dX9_noPairs_43 fl_9_66 rfl rfl rfl (by decide) ?_
    refine gd_ild1 dX9_noPairs_46 ?_
    refine gd_iald (n := 4) dX9_noPairs_47 rfl (by decide) (by repeat' (first | with_reducible rfl | apply ni_add | apply ni_mul)) (by omega) ?_
    refine gd_icmp_ge_f 76 dX9_noPairs_48 (by decide) (by rw [e91]; exact nI_ge (by omega) (by omega)) ?_
    refine gd_ald0 dX9_noPairs_51 (by decide) ?_
    refine gd_getR (r := 92) dX9_noPairs_52 fl_9_69 rfl rfl rfl (by decide) ?_
    refine gd_bipush (v := nI 40) dX9_noPairs_55 (by decide) ?_
    refine gd_ild1 dX9_noPairs_57 ?_
    refine gd_imul dX9_noPairs_58 ?_
    refine gd_ild2 dX9_noPairs_59 ?_
    refine gd_iadd dX9_noPairs_60 ?_
    refine gd_lald (n := 160) dX9_noPairs_61 rfl (by decide) (by rw [pk_mul, nI_add]) (by omega) ?_
    rw [em]
    refine gd_cS1i dX9_noPairs_62 ct_9_225 ⟨Nat.le_of_ble_eq_true rfl, Nat.le_of_ble_eq_true rfl⟩ (Nat.le_of_ble_eq_true rfl) (Nat.le_of_ble_eq_true rfl) (m_isShake_t hm _) ?_
    refine gd_if_ne_t 70 dX9_noPairs_65 (by decide) (by decide) ?_
    refine gd_iinc2 (b := nI 1) dX9_noPairs_70 (by decide) rfl ?_
    rw [nI_add]
    refine gd_goto 41 dX9_noPairs_73 (by decide) ?_
    exact ih
theorem c_layShakes {h : Hp} {s : Nat → Nat → Int32} (w : WF s) (c : CR h 1 s) {q n : Nat} {sh : Nat → Nat} (hq : q < 4) (n12 : n ≤ 12) (e59 : h.1 59 q = nI n) (es : ∀ j, j < n → h.2 57 (40 * q + j) = lN (sh j) ∧ isSh (sh j)) : ∃ h2, Gd mX8_layShakes 0 [.ref 0, .int (nI q), .null] [] h (none, h2) ∧ FS h h2 ∧ SV h2 s (-1) ∧ (∀ u, u < n → ∀ t, t < nT s → h2.1 66 (u * 16 + t) = nI (miN s (-1) t (sh u / 1000) (sh u / 10 % 100) (sh u % 10))) := by
  have lT := w.t.2
  obtain ⟨h1, gt, f1, v1⟩ := c_take w c (-1)
  have key : ∀ h', FS h h' → SV h' s (-1) → (∀ u, u < 0 → ∀ t, t < nT s → h'.1 66 (u * 16 + t) = nI (miN s (-1) t (sh u / 1000) (sh u / 10 % 100) (sh u % 10))) → ∃ h2, Gd mX8_layShakes 14 [.ref 0, .int (nI q), .int (nI 0)] [] h' (none, h2) ∧ FS h h2 ∧ SV h2 s (-1) ∧ (∀ u, u < n → ∀ t, t < nT s → h2.1 66 (u * 16 + t) = nI (miN s (-1) t (sh u / 1000) (sh u / 10 % 100) (sh u % 10))) := by
    refine loopG (P := fun j => ∀ h', FS h h' → SV h' s (-1) → (∀ u, u < j → ∀ t, t < nT s → h'.1 66 (u * 16 + t) = nI (miN s (-1) t (sh u / 1000) (sh u / 10 % 100) (sh u % 10))) → ∃ h2, Gd mX8_layShakes 14 [.ref 0, .int (nI q), .int (nI j)] [] h' (none, h2) ∧ FS h h2 ∧ SV h2 s (-1) ∧ (∀ u, u < n → ∀ t, t < nT s → h2.1 66 (u * 16 + t) = nI (miN s (-1) t (sh u / 1000) (sh u / 10 % 100) (sh u % 10)))) (n := n) ?_ ?_ 0 (by omega)
    · intro h' q1 q2 q3
      refine ⟨h', ?_, q1, q2, q3⟩
      refine gd_ild2 dX8_layShakes_14 ?_
      refine gd_ald0 dX8_layShakes_15 (by decide) ?_
      refine gd_getR (r := 56) dX8_layShakes_16 fl_8_33 rfl rfl rfl (by decide) ?_
      refine gd_getR (r := 59) dX8_layShakes_19 fl_8_86 rfl rfl rfl (by decide) ?_
      refine gd_ild1 dX8_layShakes_22 ?_
      refine gd_iald (n := 4) dX8_layShakes_23 rfl (by decide) (by repeat' (first | with_reducible rfl | apply ni_add | apply ni_mul)) (by omega) ?_
      refine gd_icmp_ge_t 51 dX8_layShakes_24 (by decide) (by rw [show h'.1 59 q = nI n from (congrFun (q1.1 59 (by decide)) q).trans e59]; exact nI_le (by omega) (by omega)) ?_
      refine gd_vret dX8_layShakes_51 rfl ?_
      rfl
    · intro j hj ih h' q1 q2 q3
      have q4 : ∀ u, u < j + 1 → ∀ t, t < nT s → (sI h' 66 (hr3 (h'.1 66) (j * 16) (nT s) (fun t => nI (miN s (-1) t (sh j / 1000) (sh j / 10 % 100) (sh j % 10))))).1 66 (u * 16 + t) = nI (miN s (-1) t (sh u / 1000) (sh u / 10 % 100) (sh u % 10)) := by
        intro u hu t ht
        rw [sI_s]
        unfold hr3
        by_cases e : u = j
        · subst e; rw [if_pos (by omega), show u * 16 + t - u * 16 = t by omega]
        · rw [if_neg (by omega)]; exact q3 u (by omega) t ht
      obtain ⟨h2, gg, r⟩ := ih (sI h' 66 (hr3 (h'.1 66) (j * 16) (nT s) (fun t => nI (miN s (-1) t (sh j / 1000) (sh j / 10 % 100) (sh j % 10))))) (q1.si (by decide) (by decide)) q2 q4
      refine ⟨h2, ?_, r⟩
      refine gd_ild2 dX8_layShakes_14 ?_
      refine gd_ald0 dX8_layShakes_15 (by decide) ?_
      refine gd_getR (r := 56) dX8_layShakes_16 fl_8_33 rfl rfl rfl (by decide) ?_
      refine gd_getR (r := 59) dX8_layShakes_19 fl_8_86 rfl rfl rfl (by decide) ?_
      refine gd_ild1 dX8_layShakes_22 ?_
      refine gd_iald (n := 4) dX8_layShakes_23 rfl (by decide) (by repeat' (first | with_reducible rfl | apply ni_add | apply ni_mul)) (by omega) ?_
      refine gd_icmp_ge_f 51 dX8_layShakes_24 (by decide) (by rw [show h'.1 59 q = nI n from (congrFun (q1.1 59 (by decide)) q).trans e59]; exact nI_ge (by omega) (by omega)) ?_
      refine gd_ald0 dX8_layShakes_27 (by decide) ?_
      refine gd_getR (r := 60) dX8_layShakes_28 fl_8_40 rfl rfl rfl (by decide) ?_
      refine gd_ild2 dX8_layShakes_31 ?_
      refine gd_ald0 dX8_layShakes_32 (by decide) ?_
      refine gd_getR (r := 56) dX8_layShakes_33 fl_8_33 rfl rfl rfl (by decide) ?_
      refine gd_ild1 dX8_layShakes_36 ?_
      refine gd_ild2 dX8_layShakes_37 ?_
      refine gd_cV2l dX8_layShakes_38 ct_8_93 rc_56 ⟨Nat.le_of_ble_eq_true rfl, Nat.le_of_ble_eq_true rfl⟩ (Nat.le_of_ble_eq_true rfl) (Nat.le_of_ble_eq_true rfl) (c_at hq (by omega) _) ?_
      rw [show h'.2 57 (40 * q + j) = lN (sh j) from (congrFun (q1.2 57 (by decide)) _).trans (es j hj).1]
      refine gd_l2i dX8_layShakes_41 ?_
      rw [lN_i]
      refine gd_cV2v dX8_layShakes_42 ct_8_234 rc_60 ⟨Nat.le_of_ble_eq_true rfl, Nat.le_of_ble_eq_true rfl⟩ (Nat.le_of_ble_eq_true rfl) (Nat.le_of_ble_eq_true rfl) (c_layMisses w q2 (by omega) (es j hj).2) ?_
      refine gd_iinc2 (b := nI 1) dX8_layShakes_45 (by decide) rfl ?_
      rw [nI_add]
      refine gd_goto 14 dX8_layShakes_48 (by decide) ?_
      exact gg
  obtain ⟨h2, gg, r⟩ := key h1 f1 v1 (fun u hu => absurd hu (by omega))
  refine ⟨h2, ?_, r⟩
  refine gd_ald0 dX8_layShakes_0 (by decide) ?_
  refine gd_getR (r := 60) dX8_layShakes_1 fl_8_40 rfl rfl rfl (by decide) ?_
  refine gd_ald0 dX8_layShakes_4 (by decide) ?_
  refine gd_getR (r := 1) dX8_layShakes_5 fl_8_12 rfl rfl rfl (by decide) ?_
  refine gd_icm1 dX8_layShakes_8 ?_
  refine gd_cV2v dX8_layShakes_9 ct_8_211 rc_60 ⟨Nat.le_of_ble_eq_true rfl, Nat.le_of_ble_eq_true rfl⟩ (Nat.le_of_ble_eq_true rfl) (Nat.le_of_ble_eq_true rfl) (gt) ?_
  refine gd_ic0 dX8_layShakes_12 ?_
  refine gd_ist2 dX8_layShakes_13 rfl ?_
  exact gg
theorem c_mo2 {h : Hp} {s : Nat → Nat → Int32} (w : WF s) (v : SV h s (-1)) {n a b : Nat} {sh : Nat → Nat} (n12 : n ≤ 12) (r : ∀ u, u < n → ∀ t, t < nT s → h.1 66 (u * 16 + t) = nI (miN s (-1) t (sh u / 1000) (sh u / 10 % 100) (sh u % 10))) (ha : a < n) (hb : b < n) : Gd mX4_missOfTwo 0 [.ref 60, .int (nI a), .int (nI b), .null, .null] [] h (some (.int (nI (twN s (-1) (sh a) (sh b)))), h) :=
  c_missOfTwo w v (by omega) (by omega) (fun t ht => ⟨r a ha t ht, mi_le _ _ _ _ _ _⟩) (fun t ht => ⟨r b hb t ht, mi_le _ _ _ _ _ _⟩)
theorem c_bp1 {h : Hp} {s : Nat → Nat → Int32} (w : WF s) (v : SV h s (-1)) {n : Nat} {sh : Nat → Nat} (n12 : n ≤ 12) (r : ∀ u, u < n → ∀ t, t < nT s → h.1 66 (u * 16 + t) = nI (miN s (-1) t (sh u / 1000) (sh u / 10 % 100) (sh u % 10))) {a : Nat} (ha : a < n) {x : Option Value × Hp} : ∀ (k b : Nat) (p : Nat × Nat) (l6 : Value), b + k = n → p.2 ≤ 192 → (∀ l6, Gd mX4_bestPair 60 [.ref 60, .int (nI n), .int (nI (bp1 (fun a b => twN s (-1) (sh a) (sh b)) a k b p).1), .int (nI (bp1 (fun a b => twN s (-1) (sh a) (sh b)) a k b p).2), .int (nI a), .int (nI n), l6] [] h x) → Gd mX4_bestPair 20 [.ref 60, .int (nI n), .int (nI p.1), .int (nI p.2), .int (nI a), .int (nI b), l6] [] h x := by
  intro k
  induction k with
  | zero =>
    intro b p l6 hb hp g
    rw [show b = n by omega]
    refine gd_ild5 dX4_bestPair_20 ?_
    refine gd_ild1 dX4_bestPair_22 ?_
    refine gd_icmp_ge_t 60 dX4_bestPair_23 (by decide) (by exact nI_le (by omega) (by omega)) ?_
    exact g _
  | succ k ih =>
    intro b p l6 hb hp g
    have tl := tw_le w (-1) (sh a) (sh b)
    by_cases q : (twN s (-1) (sh a) (sh b)) < p.2
    · have g : ∀ l6, Gd mX4_bestPair 60 [.ref 60, .int (nI n), .int (nI (bp1 (fun a b => twN s (-1) (sh a) (sh b)) a k (b + 1) (100 * a + b, (twN s (-1) (sh a) (sh b)))).1), .int (nI (bp1 (fun a b => twN s (-1) (sh a) (sh b)) a k (b + 1) (100 * a + b, (twN s (-1) (sh a) (sh b)))).2), .int (nI a), .int (nI n), l6] [] h x := by
        intro l6
        have g := g l6
        rw [show bp1 (fun a b => twN s (-1) (sh a) (sh b)) a (k + 1) b p = bp1 (fun a b => twN s (-1) (sh a) (sh b)) a k (b + 1) (100 * a + b, (twN s (-1) (sh a) (sh b))) by show bp1 _ a k (b + 1) (if _ then _ else _) = _; rw [if_pos q]] at g
        exact g
      refine gd_ild5 dX4_bestPair_20 ?_
      refine gd_ild1 dX4_bestPair_22 ?_
      refine gd_icmp_ge_f 60 dX4_bestPair_23 (by decide) (by exact nI_ge (by omega) (by omega)) ?_
      refine gd_ald0 dX4_bestPair_26 (by decide) ?_
      refine gd_ild4 dX4_bestPair_27 ?_
      refine gd_ild5 dX4_bestPair_29 ?_
      refine gd_cV2i dX4_bestPair_31 ct_4_123 rc_60 ⟨Nat.le_of_ble_eq_true rfl, Nat.le_of_ble_eq_true rfl⟩ (Nat.le_of_ble_eq_true rfl) (Nat.le_of_ble_eq_true rfl) (c_mo2 w v n12 r ha (by omega)) ?_
      refine gd_ist6 dX4_bestPair_34 rfl ?_
      refine gd_ild6 dX4_bestPair_36 ?_
      refine gd_ild3 dX4_bestPair_38 ?_
      refine gd_icmp_ge_f 54 dX4_bestPair_39 (by decide) (by exact nI_ge (by omega) (by omega)) ?_
      refine gd_ild6 dX4_bestPair_42 ?_
      refine gd_ist3 dX4_bestPair_44 rfl ?_
      refine gd_bipush (v := nI 100) dX4_bestPair_45 (by decide) ?_
      refine gd_ild4 dX4_bestPair_47 ?_
      refine gd_imul dX4_bestPair_49 ?_
      refine gd_ild5 dX4_bestPair_50 ?_
      refine gd_iadd dX4_bestPair_52 ?_
      rw [pk_mul, nI_add]
      refine gd_ist2 dX4_bestPair_53 rfl ?_
      refine gd_iinc5 (b := nI 1) dX4_bestPair_54 (by decide) rfl ?_
      rw [nI_add]
      refine gd_goto 20 dX4_bestPair_57 (by decide) ?_
      exact ih (b + 1) (100 * a + b, (twN s (-1) (sh a) (sh b))) _ (by omega) tl g
    · have g : ∀ l6, Gd mX4_bestPair 60 [.ref 60, .int (nI n), .int (nI (bp1 (fun a b => twN s (-1) (sh a) (sh b)) a k (b + 1) p).1), .int (nI (bp1 (fun a b => twN s (-1) (sh a) (sh b)) a k (b + 1) p).2), .int (nI a), .int (nI n), l6] [] h x := by
        intro l6
        have g := g l6
        rw [show bp1 (fun a b => twN s (-1) (sh a) (sh b)) a (k + 1) b p = bp1 (fun a b => twN s (-1) (sh a) (sh b)) a k (b + 1) p by show bp1 _ a k (b + 1) (if _ then _ else _) = _; rw [if_neg q]] at g
        exact g
      refine gd_ild5 dX4_bestPair_20 ?_
      refine gd_ild1 dX4_bestPair_22 ?_
      refine gd_icmp_ge_f 60 dX4_bestPair_23 (by decide) (by exact nI_ge (by omega) (by omega)) ?_
      refine gd_ald0 dX4_bestPair_26 (by decide) ?_
      refine gd_ild4 dX4_bestPair_27 ?_
      refine gd_ild5 dX4_bestPair_29 ?_
      refine gd_cV2i dX4_bestPair_31 ct_4_123 rc_60 ⟨Nat.le_of_ble_eq_true rfl, Nat.le_of_ble_eq_true rfl⟩ (Nat.le_of_ble_eq_true rfl) (Nat.le_of_ble_eq_true rfl) (c_mo2 w v n12 r ha (by omega)) ?_
      refine gd_ist6 dX4_bestPair_34 rfl ?_
      refine gd_ild6 dX4_bestPair_36 ?_
      refine gd_ild3 dX4_bestPair_38 ?_
      refine gd_icmp_ge_t 54 dX4_bestPair_39 (by decide) (by exact nI_le (by omega) (by omega)) ?_
      refine gd_iinc5 (b := nI 1) dX4_bestPair_54 (by decide) rfl ?_
      rw [nI_add]
      refine gd_goto 20 dX4_bestPair_57 (by decide) ?_
      exact ih (b + 1) p _ (by omega) hp g
theorem c_bp2 {h : Hp} {s : Nat → Nat → Int32} (w : WF s) (v : SV h s (-1)) {n : Nat} {sh : Nat → Nat} (n12 : n ≤ 12) (r : ∀ u, u < n → ∀ t, t < nT s → h.1 66 (u * 16 + t) = nI (miN s (-1) t (sh u / 1000) (sh u / 10 % 100) (sh u % 10))) {y : Nat} : ∀ (k a : Nat) (p : Nat × Nat) (l5 l6 : Value), a + k = n → bpP (fun a b => twN s (-1) (sh a) (sh b)) n p → (bp2 (fun a b => twN s (-1) (sh a) (sh b)) n k a p).1 = y → Gd mX4_bestPair 8 [.ref 60, .int (nI n), .int (nI p.1), .int (nI p.2), .int (nI a), l5, l6] [] h (some (.int (nI y)), h) := by
  have hf : ∀ a b, (fun a b => twN s (-1) (sh a) (sh b)) a b ≤ 192 := fun a b => tw_le w (-1) _ _
  intro k
  induction k with
  | zero =>
    intro a p l5 l6 hb hp hy
    have hy : p.1 = y := hy
    rw [show a = n by omega, ← hy]
    refine gd_ild4 dX4_bestPair_8 ?_
    refine gd_ild1 dX4_bestPair_10 ?_
    refine gd_icmp_ge_t 66 dX4_bestPair_11 (by decide) (by exact nI_le (by omega) (by omega)) ?_
    refine gd_ild2 dX4_bestPair_66 ?_
    refine gd_iret dX4_bestPair_67 rfl rfl ?_
    rfl
  | succ k ih =>
    intro a p l5 l6 hb hp hy
    have ha : a < n := by omega
    have hp2 := bp1_ok hf ha (n - (a + 1)) (a + 1) p (by omega) hp
    refine gd_ild4 dX4_bestPair_8 ?_
    refine gd_ild1 dX4_bestPair_10 ?_
    refine gd_icmp_ge_f 66 dX4_bestPair_11 (by decide) (by exact nI_ge (by omega) (by omega)) ?_
    refine gd_ild4 dX4_bestPair_14 ?_
    refine gd_ic1 dX4_bestPair_16 ?_
    refine gd_iadd dX4_bestPair_17 ?_
    rw [nI_add]
    refine gd_ist5 dX4_bestPair_18 rfl ?_
    refine c_bp1 w v n12 r ha (n - (a + 1)) (a + 1) p _ (by omega) hp.2 (fun l6 => ?_)
    refine gd_iinc4 (b := nI 1) dX4_bestPair_60 (by decide) rfl ?_
    rw [nI_add]
    refine gd_goto 8 dX4_bestPair_63 (by decide) ?_
    exact ih (a + 1) _ _ _ (by omega) hp2 hy
theorem c_bestPair {h : Hp} {s : Nat → Nat → Int32} (w : WF s) (v : SV h s (-1)) {n : Nat} {sh : Nat → Nat} (n12 : n ≤ 12) (r : ∀ u, u < n → ∀ t, t < nT s → h.1 66 (u * 16 + t) = nI (miN s (-1) t (sh u / 1000) (sh u / 10 % 100) (sh u % 10))) (n2 : 2 ≤ n) : Gd mX4_bestPair 0 [.ref 60, .int (nI n), .null, .null, .null, .null, .null] [] h (some (.int (nI (bp2 (fun a b => twN s (-1) (sh a) (sh b)) n n 0 (1, (fun a b => twN s (-1) (sh a) (sh b)) 0 1)).1)), h) := by
  have hf : ∀ a b, (fun a b => twN s (-1) (sh a) (sh b)) a b ≤ 192 := fun a b => tw_le w (-1) _ _
  have tl := tw_le w (-1) (sh 0) (sh 1)
  have p0 : bpP (fun a b => twN s (-1) (sh a) (sh b)) n (1, (fun a b => twN s (-1) (sh a) (sh b)) 0 1) := ⟨⟨0, 1, by omega, by omega, rfl⟩, tl⟩
  obtain ⟨m, hm⟩ : ∃ m, n = m + 2 := ⟨n - 2, by omega⟩
  have hp2 := bp1_ok hf (n := n) (a := 0) (by omega) (n - 1) 1 (1, (fun a b => twN s (-1) (sh a) (sh b)) 0 1) (by omega) p0
  have b2 := c_bp2 w v n12 r (y := (bp2 (fun a b => twN s (-1) (sh a) (sh b)) n n 0 (1, (fun a b => twN s (-1) (sh a) (sh b)) 0 1)).1) (n - 1) 1 (bp1 (fun a b => twN s (-1) (sh a) (sh b)) 0 (n - 1) 1 (1, (fun a b => twN s (-1) (sh a) (sh b)) 0 1)) (.int (nI n)) 
  have ey : (bp2 (fun a b => twN s (-1) (sh a) (sh b)) n (n - 1) 1 (bp1 (fun a b => twN s (-1) (sh a) (sh b)) 0 (n - 1) 1 (1, (fun a b => twN s (-1) (sh a) (sh b)) 0 1))).1 = (bp2 (fun a b => twN s (-1) (sh a) (sh b)) n n 0 (1, (fun a b => twN s (-1) (sh a) (sh b)) 0 1)).1 := by
    rw [hm]; rfl
  have e1 : bp1 (fun a b => twN s (-1) (sh a) (sh b)) 0 (n - 1) 1 (1, (fun a b => twN s (-1) (sh a) (sh b)) 0 1) = bp1 (fun a b => twN s (-1) (sh a) (sh b)) 0 (n - 2) 2 (1, (fun a b => twN s (-1) (sh a) (sh b)) 0 1) := by
    rw [show n - 1 = (n - 2) + 1 by omega]; exact bp1_f (fun a b => twN s (-1) (sh a) (sh b))
  refine gd_ic1 dX4_bestPair_0 ?_
  refine gd_ist2 dX4_bestPair_1 rfl ?_
  refine gd_ldc dX4_bestPair_2 ld_4_122 ?_
  refine gd_ist3 dX4_bestPair_4 rfl ?_
  refine gd_ic0 dX4_bestPair_5 ?_
  refine gd_ist4 dX4_bestPair_6 rfl ?_
  refine gd_ild4 dX4_bestPair_8 ?_
  refine gd_ild1 dX4_bestPair_10 ?_
  refine gd_icmp_ge_f 66 dX4_bestPair_11 (by decide) (by exact nI_ge (by omega) (by omega)) ?_
  refine gd_ild4 dX4_bestPair_14 ?_
  refine gd_ic1 dX4_bestPair_16 ?_
  refine gd_iadd dX4_bestPair_17 ?_
  rw [nI_add]
  refine gd_ist5 dX4_bestPair_18 rfl ?_
  refine gd_ild5 dX4_bestPair_20 ?_
  refine gd_ild1 dX4_bestPair_22 ?_
  refine gd_icmp_ge_f 60 dX4_bestPair_23 (by decide) (by exact nI_ge (by omega) (by omega)) ?_
  refine gd_ald0 dX4_bestPair_26 (by decide) ?_
  refine gd_ild4 dX4_bestPair_27 ?_
  refine gd_ild5 dX4_bestPair_29 ?_
  refine gd_cV2i dX4_bestPair_31 ct_4_123 rc_60 ⟨Nat.le_of_ble_eq_true rfl, Nat.le_of_ble_eq_true rfl⟩ (Nat.le_of_ble_eq_true rfl) (Nat.le_of_ble_eq_true rfl) (c_mo2 w v n12 r (a := 0) (b := 1) (by omega) (by omega)) ?_
  refine gd_ist6 dX4_bestPair_34 rfl ?_
  refine gd_ild6 dX4_bestPair_36 ?_
  refine gd_ild3 dX4_bestPair_38 ?_
  refine gd_icmp_ge_f 54 dX4_bestPair_39 (by decide) (fun z => absurd (nI_lt (a := (twN s (-1) (sh 0) (sh 1))) (b := 1000000) (by omega) (by decide)) (Int32.not_lt.mpr z)) ?_
  refine gd_ild6 dX4_bestPair_42 ?_
  refine gd_ist3 dX4_bestPair_44 rfl ?_
  refine gd_bipush (v := nI 100) dX4_bestPair_45 (by decide) ?_
  refine gd_ild4 dX4_bestPair_47 ?_
  refine gd_imul dX4_bestPair_49 ?_
  refine gd_ild5 dX4_bestPair_50 ?_
  refine gd_iadd dX4_bestPair_52 ?_
  rw [pk_mul, nI_add]
  refine gd_ist2 dX4_bestPair_53 rfl ?_
  refine gd_iinc5 (b := nI 1) dX4_bestPair_54 (by decide) rfl ?_
  rw [nI_add]
  refine gd_goto 20 dX4_bestPair_57 (by decide) ?_
  refine c_bp1 w v n12 r (a := 0) (by omega) (n - 2) 2 (1, (fun a b => twN s (-1) (sh a) (sh b)) 0 1) _ (by omega) tl (fun l6 => ?_)
  rw [e1] at b2 hp2 ey
  refine gd_iinc4 (b := nI 1) dX4_bestPair_60 (by decide) rfl ?_
  rw [nI_add]
  refine gd_goto 8 dX4_bestPair_63 (by decide) ?_
  exact b2 _ (by omega) hp2 ey

def laN (f : Nat → Nat) : Nat → Nat
  | 0 => f 0
  | k + 1 => min (laN f k) (f (k + 1))
theorem la_le {f : Nat → Nat} (hf : ∀ a, f a ≤ 192) : ∀ k, laN f k ≤ 192 := by
  intro k
  induction k with
  | zero => exact hf 0
  | succ k ih => exact Nat.le_trans (Nat.min_le_left _ _) ih
theorem tw_self (s : Nat → Nat → Int32) (g : Int32) (n : Nat) : twN s g n n = msN s g (n / 1000) (n / 10 % 100) (n % 10) := sumN_congr (fun t _ => Nat.min_self _)
theorem c_leastAlone {h : Hp} {s : Nat → Nat → Int32} (w : WF s) (v : SV h s (-1)) {n : Nat} {sh : Nat → Nat} (n12 : n ≤ 12) (r : ∀ u, u < n → ∀ t, t < nT s → h.1 66 (u * 16 + t) = nI (miN s (-1) t (sh u / 1000) (sh u / 10 % 100) (sh u % 10))) (n2 : 2 ≤ n) : Gd mX4_leastAlone 0 [.ref 60, .int (nI n), .null, .null] [] h (some (.int (nI (laN (fun j => msN s (-1) (sh j / 1000) (sh j / 10 % 100) (sh j % 10)) (n - 1)))), h) := by
  have fl : ∀ j, (fun j => msN s (-1) (sh j / 1000) (sh j / 10 % 100) (sh j % 10)) j ≤ 192 := fun j => ms_le w _ _ _ _
  have key := loopG (P := fun k => Gd mX4_leastAlone 9 [.ref 60, .int (nI n), .int (nI (laN (fun j => msN s (-1) (sh j / 1000) (sh j / 10 % 100) (sh j % 10)) k)), .int (nI (k + 1))] [] h (some (.int (nI (laN (fun j => msN s (-1) (sh j / 1000) (sh j / 10 % 100) (sh j % 10)) (n - 1)))), h)) (n := n - 1) ?_ ?_ 0 (by omega)
  · refine gd_ald0 dX4_leastAlone_0 (by decide) ?_
    refine gd_ic0 dX4_leastAlone_1 ?_
    refine gd_ic0 dX4_leastAlone_2 ?_
    refine gd_cV2i dX4_leastAlone_3 ct_4_123 rc_60 ⟨Nat.le_of_ble_eq_true rfl, Nat.le_of_ble_eq_true rfl⟩ (Nat.le_of_ble_eq_true rfl) (Nat.le_of_ble_eq_true rfl) (c_mo2 w v n12 r (a := 0) (b := 0) (by omega) (by omega)) ?_
    rw [tw_self]
    refine gd_ist2 dX4_leastAlone_6 rfl ?_
    refine gd_ic1 dX4_leastAlone_7 ?_
    refine gd_ist3 dX4_leastAlone_8 rfl ?_
    exact key
  · refine gd_ild3 dX4_leastAlone_9 ?_
    refine gd_ild1 dX4_leastAlone_10 ?_
    refine gd_icmp_ge_t 31 dX4_leastAlone_11 (by decide) (by exact nI_le (by omega) (by omega)) ?_
    refine gd_ild2 dX4_leastAlone_31 ?_
    refine gd_iret dX4_leastAlone_32 rfl rfl ?_
    rfl
  · intro k hk ih
    have l1 := la_le fl k
    have l2 : msN s (-1) (sh (k + 1) / 1000) (sh (k + 1) / 10 % 100) (sh (k + 1) % 10) ≤ 192 := fl (k + 1)
    refine gd_ild3 dX4_leastAlone_9 ?_
    refine gd_ild1 dX4_leastAlone_10 ?_
    refine gd_icmp_ge_f 31 dX4_leastAlone_11 (by decide) (by exact nI_ge (by omega) (by omega)) ?_
    refine gd_ild2 dX4_leastAlone_14 ?_
    refine gd_ald0 dX4_leastAlone_15 (by decide) ?_
    refine gd_ild3 dX4_leastAlone_16 ?_
    refine gd_ild3 dX4_leastAlone_17 ?_
    refine gd_cV2i dX4_leastAlone_18 ct_4_123 rc_60 ⟨Nat.le_of_ble_eq_true rfl, Nat.le_of_ble_eq_true rfl⟩ (Nat.le_of_ble_eq_true rfl) (Nat.le_of_ble_eq_true rfl) (c_mo2 w v n12 r (a := k + 1) (b := k + 1) (by omega) (by omega)) ?_
    rw [tw_self]
    refine gd_mmin dX4_leastAlone_21 mm_4_106 (Nat.le_of_ble_eq_true rfl) (Nat.le_of_ble_eq_true rfl) (Nat.le_of_ble_eq_true rfl) ?_
    rw [mn_nI (by omega) (by omega)]
    refine gd_ist2 dX4_leastAlone_24 rfl ?_
    refine gd_iinc3 (b := nI 1) dX4_leastAlone_25 (by decide) rfl ?_
    rw [nI_add]
    refine gd_goto 9 dX4_leastAlone_28 (by decide) ?_
    exact ih
theorem m_shakeOn {h : Hp} {q n j : Nat} {sh : Nat → Nat} (hq : q < 4) (n12 : n ≤ 12) (es : ∀ j, j < n → h.2 92 (40 * q + j) = lN (sh j) ∧ isSh (sh j)) (hj : j < n) : Gd mX9_shakeOn 0 [.ref 72, .int (nI q), .int (nI j)] [] h (some (.int (nI (sh j))), h) := by
  refine gd_ald0 dX9_shakeOn_0 (by decide) ?_
  refine gd_getR (r := 92) dX9_shakeOn_1 fl_9_69 rfl rfl rfl (by decide) ?_
  refine gd_bipush (v := nI 40) dX9_shakeOn_4 (by decide) ?_
  refine gd_ild1 dX9_shakeOn_6 ?_
  refine gd_imul dX9_shakeOn_7 ?_
  refine gd_ild2 dX9_shakeOn_8 ?_
  refine gd_iadd dX9_shakeOn_9 ?_
  refine gd_lald (n := 160) dX9_shakeOn_10 rfl (by decide) (by rw [pk_mul, nI_add]) (by omega) ?_
  rw [(es j hj).1]
  refine gd_l2i dX9_shakeOn_11 ?_
  rw [lN_i]
  refine gd_iret dX9_shakeOn_12 rfl rfl ?_
  rfl
theorem m_bp1 {h : Hp} {s : Nat → Nat → Int32} (w : WF s) (v : PV h s (-1)) {q n : Nat} {sh : Nat → Nat} (hq : q < 4) (n12 : n ≤ 12) (e91 : h.1 91 q = nI n) (es : ∀ j, j < n → h.2 92 (40 * q + j) = lN (sh j) ∧ isSh (sh j)) {a : Nat} (ha : a < n) {x : Option Value × Hp} : ∀ (k b : Nat) (p : Nat × Nat) (l6 : Value), b + k = n → p.2 ≤ 192 → (∀ l6, Gd mX9_pairOf 94 [.ref 72, .int (nI q), .int (nI (bp1 (fun a b => twN s (-1) (sh a) (sh b)) a k b p).1), .int (nI (bp1 (fun a b => twN s (-1) (sh a) (sh b)) a k b p).2), .int (nI a), .int (nI n), l6] [] h x) → Gd mX9_pairOf 39 [.ref 72, .int (nI q), .int (nI p.1), .int (nI p.2), .int (nI a), .int (nI b), l6] [] h x := by
  intro k
  induction k with
  | zero =>
    intro b p l6 hb hp g
    rw [show b = n by omega]
    refine gd_ild5 dX9_pairOf_39 ?_
    refine gd_ald0 dX9_pairOf_41 (by decide) ?_
    refine gd_getR (r := 91) dX9_pairOf_42 fl_9_66 rfl rfl rfl (by decide) ?_
    refine gd_ild1 dX9_pairOf_45 ?_
    refine gd_iald (n := 4) dX9_pairOf_46 rfl (by decide) (by repeat' (first | with_reducible rfl | apply ni_add | apply ni_mul)) (by omega) ?_
    refine gd_icmp_ge_t 94 dX9_pairOf_47 (by decide) (by rw [e91]; exact nI_le (by omega) (by omega)) ?_
    exact g _
  | succ k ih =>
    intro b p l6 hb hp g
    have tl := tw_le w (-1) (sh a) (sh b)
    by_cases y : (twN s (-1) (sh a) (sh b)) < p.2
    · have g : ∀ l6, Gd mX9_pairOf 94 [.ref 72, .int (nI q), .int (nI (bp1 (fun a b => twN s (-1) (sh a) (sh b)) a k (b + 1) (100 * a + b, (twN s (-1) (sh a) (sh b)))).1), .int (nI (bp1 (fun a b => twN s (-1) (sh a) (sh b)) a k (b + 1) (100 * a + b, (twN s (-1) (sh a) (sh b)))).2), .int (nI a), .int (nI n), l6] [] h x := by
        intro l6
        have g := g l6
        rw [show bp1 (fun a b => twN s (-1) (sh a) (sh b)) a (k + 1) b p = bp1 (fun a b => twN s (-1) (sh a) (sh b)) a k (b + 1) (100 * a + b, (twN s (-1) (sh a) (sh b))) by show bp1 _ a k (b + 1) (if _ then _ else _) = _; rw [if_pos y]] at g
        exact g
      refine gd_ild5 dX9_pairOf_39 ?_
      refine gd_ald0 dX9_pairOf_41 (by decide) ?_
      refine gd_getR (r := 91) dX9_pairOf_42 fl_9_66 rfl rfl rfl (by decide) ?_
      refine gd_ild1 dX9_pairOf_45 ?_
      refine gd_iald (n := 4) dX9_pairOf_46 rfl (by decide) (by repeat' (first | with_reducible rfl | apply ni_add | apply ni_mul)) (by omega) ?_
      refine gd_icmp_ge_f 94 dX9_pairOf_47 (by decide) (by rw [e91]; exact nI_ge (by omega) (by omega)) ?_
      refine gd_ald0 dX9_pairOf_50 (by decide) ?_
      refine gd_ald0 dX9_pairOf_51 (by decide) ?_
      refine gd_ild1 dX9_pairOf_52 ?_
      refine gd_ild4 dX9_pairOf_53 ?_
      refine gd_cV2i dX9_pairOf_55 ct_9_234 rc_72 ⟨Nat.le_of_ble_eq_true rfl, Nat.le_of_ble_eq_true rfl⟩ (Nat.le_of_ble_eq_true rfl) (Nat.le_of_ble_eq_true rfl) (m_shakeOn hq n12 es (j := a) ha) ?_
      refine gd_ald0 dX9_pairOf_58 (by decide) ?_
      refine gd_ild1 dX9_pairOf_59 ?_
      refine gd_ild5 dX9_pairOf_60 ?_
      refine gd_cV2i dX9_pairOf_62 ct_9_234 rc_72 ⟨Nat.le_of_ble_eq_true rfl, Nat.le_of_ble_eq_true rfl⟩ (Nat.le_of_ble_eq_true rfl) (Nat.le_of_ble_eq_true rfl) (m_shakeOn hq n12 es (j := b) (by omega)) ?_
      refine gd_cV2i dX9_pairOf_65 ct_9_231 rc_72 ⟨Nat.le_of_ble_eq_true rfl, Nat.le_of_ble_eq_true rfl⟩ (Nat.le_of_ble_eq_true rfl) (Nat.le_of_ble_eq_true rfl) (m_twoOf w v (es a ha).2 (es b (by omega)).2) ?_
      refine gd_ist6 dX9_pairOf_68 rfl ?_
      refine gd_ild6 dX9_pairOf_70 ?_
      refine gd_ild3 dX9_pairOf_72 ?_
      refine gd_icmp_ge_f 88 dX9_pairOf_73 (by decide) (by exact nI_ge (by omega) (by omega)) ?_
      refine gd_ild6 dX9_pairOf_76 ?_
      refine gd_ist3 dX9_pairOf_78 rfl ?_
      refine gd_bipush (v := nI 100) dX9_pairOf_79 (by decide) ?_
      refine gd_ild4 dX9_pairOf_81 ?_
      refine gd_imul dX9_pairOf_83 ?_
      refine gd_ild5 dX9_pairOf_84 ?_
      refine gd_iadd dX9_pairOf_86 ?_
      rw [pk_mul, nI_add]
      refine gd_ist2 dX9_pairOf_87 rfl ?_
      refine gd_iinc5 (b := nI 1) dX9_pairOf_88 (by decide) rfl ?_
      rw [nI_add]
      refine gd_goto 39 dX9_pairOf_91 (by decide) ?_
      exact ih (b + 1) (100 * a + b, (twN s (-1) (sh a) (sh b))) _ (by omega) tl g
    · have g : ∀ l6, Gd mX9_pairOf 94 [.ref 72, .int (nI q), .int (nI (bp1 (fun a b => twN s (-1) (sh a) (sh b)) a k (b + 1) p).1), .int (nI (bp1 (fun a b => twN s (-1) (sh a) (sh b)) a k (b + 1) p).2), .int (nI a), .int (nI n), l6] [] h x := by
        intro l6
        have g := g l6
        rw [show bp1 (fun a b => twN s (-1) (sh a) (sh b)) a (k + 1) b p = bp1 (fun a b => twN s (-1) (sh a) (sh b)) a k (b + 1) p by show bp1 _ a k (b + 1) (if _ then _ else _) = _; rw [if_neg y]] at g
        exact g
      refine gd_ild5 dX9_pairOf_39 ?_
      refine gd_ald0 dX9_pairOf_41 (by decide) ?_
      refine gd_getR (r := 91) dX9_pairOf_42 fl_9_66 rfl rfl rfl (by decide) ?_
      refine gd_ild1 dX9_pairOf_45 ?_
      refine gd_iald (n := 4) dX9_pairOf_46 rfl (by decide) (by repeat' (first | with_reducible rfl | apply ni_add | apply ni_mul)) (by omega) ?_
      refine gd_icmp_ge_f 94 dX9_pairOf_47 (by decide) (by rw [e91]; exact nI_ge (by omega) (by omega)) ?_
      refine gd_ald0 dX9_pairOf_50 (by decide) ?_
      refine gd_ald0 dX9_pairOf_51 (by decide) ?_
      refine gd_ild1 dX9_pairOf_52 ?_
      refine gd_ild4 dX9_pairOf_53 ?_
      refine gd_cV2i dX9_pairOf_55 ct_9_234 rc_72 ⟨Nat.le_of_ble_eq_true rfl, Nat.le_of_ble_eq_true rfl⟩ (Nat.le_of_ble_eq_true rfl) (Nat.le_of_ble_eq_true rfl) (m_shakeOn hq n12 es (j := a) ha) ?_
      refine gd_ald0 dX9_pairOf_58 (by decide) ?_
      refine gd_ild1 dX9_pairOf_59 ?_
      refine gd_ild5 dX9_pairOf_60 ?_
      refine gd_cV2i dX9_pairOf_62 ct_9_234 rc_72 ⟨Nat.le_of_ble_eq_true rfl, Nat.le_of_ble_eq_true rfl⟩ (Nat.le_of_ble_eq_true rfl) (Nat.le_of_ble_eq_true rfl) (m_shakeOn hq n12 es (j := b) (by omega)) ?_
      refine gd_cV2i dX9_pairOf_65 ct_9_231 rc_72 ⟨Nat.le_of_ble_eq_true rfl, Nat.le_of_ble_eq_true rfl⟩ (Nat.le_of_ble_eq_true rfl) (Nat.le_of_ble_eq_true rfl) (m_twoOf w v (es a ha).2 (es b (by omega)).2) ?_
      refine gd_ist6 dX9_pairOf_68 rfl ?_
      refine gd_ild6 dX9_pairOf_70 ?_
      refine gd_ild3 dX9_pairOf_72 ?_
      refine gd_icmp_ge_t 88 dX9_pairOf_73 (by decide) (by exact nI_le (by omega) (by omega)) ?_
      refine gd_iinc5 (b := nI 1) dX9_pairOf_88 (by decide) rfl ?_
      rw [nI_add]
      refine gd_goto 39 dX9_pairOf_91 (by decide) ?_
      exact ih (b + 1) p _ (by omega) hp g
theorem m_bp2 {h : Hp} {s : Nat → Nat → Int32} (w : WF s) (v : PV h s (-1)) {q n : Nat} {sh : Nat → Nat} (hq : q < 4) (n12 : n ≤ 12) (e91 : h.1 91 q = nI n) (es : ∀ j, j < n → h.2 92 (40 * q + j) = lN (sh j) ∧ isSh (sh j)) {y : Nat} : ∀ (k a : Nat) (p : Nat × Nat) (l5 l6 : Value), a + k = n → bpP (fun a b => twN s (-1) (sh a) (sh b)) n p → (bp2 (fun a b => twN s (-1) (sh a) (sh b)) n k a p).1 = y → Gd mX9_pairOf 22 [.ref 72, .int (nI q), .int (nI p.1), .int (nI p.2), .int (nI a), l5, l6] [] h (some (.int (nI y)), h) := by
  have hf : ∀ a b, (fun a b => twN s (-1) (sh a) (sh b)) a b ≤ 192 := fun a b => tw_le w (-1) _ _
  intro k
  induction k with
  | zero =>
    intro a p l5 l6 hb hp hy
    have hy : p.1 = y := hy
    rw [show a = n by omega, ← hy]
    refine gd_ild4 dX9_pairOf_22 ?_
    refine gd_ald0 dX9_pairOf_24 (by decide) ?_
    refine gd_getR (r := 91) dX9_pairOf_25 fl_9_66 rfl rfl rfl (by decide) ?_
    refine gd_ild1 dX9_pairOf_28 ?_
    refine gd_iald (n := 4) dX9_pairOf_29 rfl (by decide) (by repeat' (first | with_reducible rfl | apply ni_add | apply ni_mul)) (by omega) ?_
    refine gd_icmp_ge_t 100 dX9_pairOf_30 (by decide) (by rw [e91]; exact nI_le (by omega) (by omega)) ?_
    refine gd_ild2 dX9_pairOf_100 ?_
    refine gd_iret dX9_pairOf_101 rfl rfl ?_
    rfl
  | succ k ih =>
    intro a p l5 l6 hb hp hy
    have ha : a < n := by omega
    have hp2 := bp1_ok hf ha (n - (a + 1)) (a + 1) p (by omega) hp
    refine gd_ild4 dX9_pairOf_22 ?_
    refine gd_ald0 dX9_pairOf_24 (by decide) ?_
    refine gd_getR (r := 91) dX9_pairOf_25 fl_9_66 rfl rfl rfl (by decide) ?_
    refine gd_ild1 dX9_pairOf_28 ?_
    refine gd_iald (n := 4) dX9_pairOf_29 rfl (by decide) (by repeat' (first | with_reducible rfl | apply ni_add | apply ni_mul)) (by omega) ?_
    refine gd_icmp_ge_f 100 dX9_pairOf_30 (by decide) (by rw [e91]; exact nI_ge (by omega) (by omega)) ?_
    refine gd_ild4 dX9_pairOf_33 ?_
    refine gd_ic1 dX9_pairOf_35 ?_
    refine gd_iadd dX9_pairOf_36 ?_
    rw [nI_add]
    refine gd_ist5 dX9_pairOf_37 rfl ?_
    refine m_bp1 w v hq n12 e91 es ha (n - (a + 1)) (a + 1) p _ (by omega) hp.2 (fun l6 => ?_)
    refine gd_iinc4 (b := nI 1) dX9_pairOf_94 (by decide) rfl ?_
    rw [nI_add]
    refine gd_goto 22 dX9_pairOf_97 (by decide) ?_
    exact ih (a + 1) _ _ _ (by omega) hp2 hy
theorem m_pairOf {h : Hp} {s : Nat → Nat → Int32} (w : WF s) (v : PV h s (-1)) {q n : Nat} {sh : Nat → Nat} (hq : q < 4) (n12 : n ≤ 12) (e91 : h.1 91 q = nI n) (es : ∀ j, j < n → h.2 92 (40 * q + j) = lN (sh j) ∧ isSh (sh j)) (n2 : 2 ≤ n) : Gd mX9_pairOf 0 [.ref 72, .int (nI q), .null, .null, .null, .null, .null] [] h (some (.int (nI (bp2 (fun a b => twN s (-1) (sh a) (sh b)) n n 0 (1, (fun a b => twN s (-1) (sh a) (sh b)) 0 1)).1)), h) := by
  have tl := tw_le w (-1) (sh 0) (sh 1)
  have p0 : bpP (fun a b => twN s (-1) (sh a) (sh b)) n (1, (fun a b => twN s (-1) (sh a) (sh b)) 0 1) := ⟨⟨0, 1, by omega, by omega, rfl⟩, tl⟩
  refine gd_ic1 dX9_pairOf_0 ?_
  refine gd_ist2 dX9_pairOf_1 rfl ?_
  refine gd_ald0 dX9_pairOf_2 (by decide) ?_
  refine gd_ald0 dX9_pairOf_3 (by decide) ?_
  refine gd_ild1 dX9_pairOf_4 ?_
  refine gd_ic0 dX9_pairOf_5 ?_
  refine gd_cV2i dX9_pairOf_6 ct_9_234 rc_72 ⟨Nat.le_of_ble_eq_true rfl, Nat.le_of_ble_eq_true rfl⟩ (Nat.le_of_ble_eq_true rfl) (Nat.le_of_ble_eq_true rfl) (m_shakeOn hq n12 es (j := 0) (by omega)) ?_
  refine gd_ald0 dX9_pairOf_9 (by decide) ?_
  refine gd_ild1 dX9_pairOf_10 ?_
  refine gd_ic1 dX9_pairOf_11 ?_
  refine gd_cV2i dX9_pairOf_12 ct_9_234 rc_72 ⟨Nat.le_of_ble_eq_true rfl, Nat.le_of_ble_eq_true rfl⟩ (Nat.le_of_ble_eq_true rfl) (Nat.le_of_ble_eq_true rfl) (m_shakeOn hq n12 es (j := 1) (by omega)) ?_
  refine gd_cV2i dX9_pairOf_15 ct_9_231 rc_72 ⟨Nat.le_of_ble_eq_true rfl, Nat.le_of_ble_eq_true rfl⟩ (Nat.le_of_ble_eq_true rfl) (Nat.le_of_ble_eq_true rfl) (m_twoOf w v (es 0 (by omega)).2 (es 1 (by omega)).2) ?_
  refine gd_ist3 dX9_pairOf_18 rfl ?_
  refine gd_ic0 dX9_pairOf_19 ?_
  refine gd_ist4 dX9_pairOf_20 rfl ?_
  exact m_bp2 w v hq n12 e91 es (y := (bp2 (fun a b => twN s (-1) (sh a) (sh b)) n n 0 (1, (fun a b => twN s (-1) (sh a) (sh b)) 0 1)).1) n 0 (1, (fun a b => twN s (-1) (sh a) (sh b)) 0 1) _ _ (by omega) p0 rfl
theorem m_alone {h : Hp} {s : Nat → Nat → Int32} (w : WF s) (v : PV h s (-1)) {q n : Nat} {sh : Nat → Nat} (hq : q < 4) (n12 : n ≤ 12) (e91 : h.1 91 q = nI n) (es : ∀ j, j < n → h.2 92 (40 * q + j) = lN (sh j) ∧ isSh (sh j)) (n2 : 2 ≤ n) {bb : Int32} {x : Option Value × Hp} (g : ∀ l6, Gd mX9_night 88 [.ref 72, .int (nI q), .int (nI 0), .int bb, .int (nI (laN (fun j => msN s (-1) (sh j / 1000) (sh j / 10 % 100) (sh j % 10)) (n - 1))), .int (nI n), l6] [] h x) : ∀ l6, Gd mX9_night 42 [.ref 72, .int (nI q), .int (nI 0), .int bb, .int (nI (laN (fun j => msN s (-1) (sh j / 1000) (sh j / 10 % 100) (sh j % 10)) 0)), .int (nI (0 + 1)), l6] [] h x := by
  have fl : ∀ j, (fun j => msN s (-1) (sh j / 1000) (sh j / 10 % 100) (sh j % 10)) j ≤ 192 := fun j => ms_le w _ _ _ _
  refine loopG (P := fun k => ∀ l6, Gd mX9_night 42 [.ref 72, .int (nI q), .int (nI 0), .int bb, .int (nI (laN (fun j => msN s (-1) (sh j / 1000) (sh j / 10 % 100) (sh j % 10)) k)), .int (nI (k + 1)), l6] [] h x) (n := n - 1) ?_ ?_ 0 (by omega)
  · intro l6
    rw [show n - 1 + 1 = n by omega]
    refine gd_ild5 dX9_night_42 ?_
    refine gd_ald0 dX9_night_44 (by decide) ?_
    refine gd_getR (r := 91) dX9_night_45 fl_9_66 rfl rfl rfl (by decide) ?_
    refine gd_ild1 dX9_night_48 ?_
    refine gd_iald (n := 4) dX9_night_49 rfl (by decide) (by repeat' (first | with_reducible rfl | apply ni_add | apply ni_mul)) (by omega) ?_
    refine gd_icmp_ge_t 88 dX9_night_50 (by decide) (by rw [e91]; exact nI_le (by omega) (by omega)) ?_
    exact g _
  · intro k hk ih l6
    have l1 := la_le fl k
    have l2 : (msN s (-1) (sh (k + 1) / 1000) (sh (k + 1) / 10 % 100) (sh (k + 1) % 10)) ≤ 192 := fl (k + 1)
    have em : laN (fun j => msN s (-1) (sh j / 1000) (sh j / 10 % 100) (sh j % 10)) (k + 1) = min (laN (fun j => msN s (-1) (sh j / 1000) (sh j / 10 % 100) (sh j % 10)) k) (msN s (-1) (sh (k + 1) / 1000) (sh (k + 1) / 10 % 100) (sh (k + 1) % 10)) := rfl
    by_cases y : (msN s (-1) (sh (k + 1) / 1000) (sh (k + 1) / 10 % 100) (sh (k + 1) % 10)) < laN (fun j => msN s (-1) (sh j / 1000) (sh j / 10 % 100) (sh j % 10)) k
    · rw [em, Nat.min_eq_right (by omega)] at ih
      refine gd_ild5 dX9_night_42 ?_
      refine gd_ald0 dX9_night_44 (by decide) ?_
      refine gd_getR (r := 91) dX9_night_45 fl_9_66 rfl rfl rfl (by decide) ?_
      refine gd_ild1 dX9_night_48 ?_
      refine gd_iald (n := 4) dX9_night_49 rfl (by decide) (by repeat' (first | with_reducible rfl | apply ni_add | apply ni_mul)) (by omega) ?_
      refine gd_icmp_ge_f 88 dX9_night_50 (by decide) (by rw [e91]; exact nI_ge (by omega) (by omega)) ?_
      refine gd_ald0 dX9_night_53 (by decide) ?_
      refine gd_ald0 dX9_night_54 (by decide) ?_
      refine gd_ild1 dX9_night_55 ?_
      refine gd_ild5 dX9_night_56 ?_
      refine gd_cV2i dX9_night_58 ct_9_234 rc_72 ⟨Nat.le_of_ble_eq_true rfl, Nat.le_of_ble_eq_true rfl⟩ (Nat.le_of_ble_eq_true rfl) (Nat.le_of_ble_eq_true rfl) (m_shakeOn hq n12 es (j := k + 1) (by omega)) ?_
      refine gd_cV1i dX9_night_61 ct_9_228 rc_72 ⟨Nat.le_of_ble_eq_true rfl, Nat.le_of_ble_eq_true rfl⟩ (Nat.le_of_ble_eq_true rfl) (Nat.le_of_ble_eq_true rfl) (m_missOf w v (es (k + 1) (by omega)).2) ?_
      refine gd_ist6 dX9_night_64 rfl ?_
      refine gd_ild6 dX9_night_66 ?_
      refine gd_ild4 dX9_night_68 ?_
      refine gd_icmp_ge_f 78 dX9_night_70 (by decide) (by exact nI_ge (by omega) (by omega)) ?_
      refine gd_ild6 dX9_night_73 ?_
      refine gd_goto 80 dX9_night_75 (by decide) ?_
      refine gd_ist4 dX9_night_80 rfl ?_
      refine gd_iinc5 (b := nI 1) dX9_night_82 (by decide) rfl ?_
      rw [nI_add]
      refine gd_goto 42 dX9_night_85 (by decide) ?_
      exact ih _
    · rw [em, Nat.min_eq_left (by omega)] at ih
      refine gd_ild5 dX9_night_42 ?_
      refine gd_ald0 dX9_night_44 (by decide) ?_
      refine gd_getR (r := 91) dX9_night_45 fl_9_66 rfl rfl rfl (by decide) ?_
      refine gd_ild1 dX9_night_48 ?_
      refine gd_iald (n := 4) dX9_night_49 rfl (by decide) (by repeat' (first | with_reducible rfl | apply ni_add | apply ni_mul)) (by omega) ?_
      refine gd_icmp_ge_f 88 dX9_night_50 (by decide) (by rw [e91]; exact nI_ge (by omega) (by omega)) ?_
      refine gd_ald0 dX9_night_53 (by decide) ?_
      refine gd_ald0 dX9_night_54 (by decide) ?_
      refine gd_ild1 dX9_night_55 ?_
      refine gd_ild5 dX9_night_56 ?_
      refine gd_cV2i dX9_night_58 ct_9_234 rc_72 ⟨Nat.le_of_ble_eq_true rfl, Nat.le_of_ble_eq_true rfl⟩ (Nat.le_of_ble_eq_true rfl) (Nat.le_of_ble_eq_true rfl) (m_shakeOn hq n12 es (j := k + 1) (by omega)) ?_
      refine gd_cV1i dX9_night_61 ct_9_228 rc_72 ⟨Nat.le_of_ble_eq_true rfl, Nat.le_of_ble_eq_true rfl⟩ (Nat.le_of_ble_eq_true rfl) (Nat.le_of_ble_eq_true rfl) (m_missOf w v (es (k + 1) (by omega)).2) ?_
      refine gd_ist6 dX9_night_64 rfl ?_
      refine gd_ild6 dX9_night_66 ?_
      refine gd_ild4 dX9_night_68 ?_
      refine gd_icmp_ge_t 78 dX9_night_70 (by decide) (by exact nI_le (by omega) (by omega)) ?_
      refine gd_ild4 dX9_night_78 ?_
      refine gd_ist4 dX9_night_80 rfl ?_
      refine gd_iinc5 (b := nI 1) dX9_night_82 (by decide) rfl ?_
      rw [nI_add]
      refine gd_goto 42 dX9_night_85 (by decide) ?_
      exact ih _
set_option maxHeartbeats 2000000 in
theorem p_pair {h : Hp} (i : Inv h) (a : Int32) : Pas mX8_pair mX9_pair [.ref 0, .int a, .null] [.ref 72, .int a, .null] h := by
  rcases rng a (4) (by decide) with ⟨q, hq, rfl⟩ | ha
  · have e91 := (i.s.n q hq).1
    have l91 := (i.s.n q hq).2
    have e59 : h.1 59 q = nI (tn (h.1 91 q)) := (i.s.z q hq).trans e91
    rcases wid_ok i hq with e90 | ⟨wd, w0, w1, e90⟩
    · have e58 : h.1 58 q = nI 0 := (i.s.w q hq).trans e90
      refine Pas.find (h1 := h) (h2 := hf (h) 5) (v := -1000000006) (w := (-1000000000 : Int32) - nI 6) 5 i (by decide) (by decide) (by decide) (Same.rf _) (Same.rf _) ?_ ?_
      · refine gd_ald0 dX8_pair_0 (by decide) ?_
        refine gd_ild1 dX8_pair_1 ?_
        refine gd_cV1i dX8_pair_2 ct_8_240 rc_0 ⟨Nat.le_of_ble_eq_true rfl, Nat.le_of_ble_eq_true rfl⟩ (Nat.le_of_ble_eq_true rfl) (Nat.le_of_ble_eq_true rfl) (c_flt_B hq e58) ?_
        refine gd_ist2 dX8_pair_5 rfl ?_
        refine gd_ild2 dX8_pair_6 ?_
        refine gd_if_eq_f 16 dX8_pair_7 (by decide) (by decide) ?_
        refine gd_ald0 dX8_pair_10 (by decide) ?_
        refine gd_ild2 dX8_pair_11 ?_
        refine gd_cV1i dX8_pair_12 ct_8_53 rc_0 ⟨Nat.le_of_ble_eq_true rfl, Nat.le_of_ble_eq_true rfl⟩ (Nat.le_of_ble_eq_true rfl) (Nat.le_of_ble_eq_true rfl) (c_f5 _) ?_
        refine gd_iret dX8_pair_15 rfl rfl ?_
        rfl
      · refine gd_ald0 dX9_pair_0 (by decide) ?_
        refine gd_ild1 dX9_pair_1 ?_
        refine gd_cV1i dX9_pair_2 ct_9_237 rc_72 ⟨Nat.le_of_ble_eq_true rfl, Nat.le_of_ble_eq_true rfl⟩ (Nat.le_of_ble_eq_true rfl) (Nat.le_of_ble_eq_true rfl) (m_nop_B (h := hf h 5) hq e90) ?_
        refine gd_ist2 dX9_pair_5 rfl ?_
        refine gd_ild2 dX9_pair_6 ?_
        refine gd_if_eq_f 16 dX9_pair_7 (by decide) (by decide) ?_
        refine gd_ald0 dX9_pair_10 (by decide) ?_
        refine gd_ild2 dX9_pair_11 ?_
        refine gd_cV1i dX9_pair_12 ct_9_97 rc_72 ⟨Nat.le_of_ble_eq_true rfl, Nat.le_of_ble_eq_true rfl⟩ (Nat.le_of_ble_eq_true rfl) (Nat.le_of_ble_eq_true rfl) (m_f5 _) ?_
        refine gd_iret dX9_pair_15 rfl rfl ?_
        rfl
    · have e58 : h.1 58 q = nI wd := (i.s.w q hq).trans e90
      by_cases nn : 2 ≤ (tn (h.1 91 q)) ∧ (tn (h.1 91 q)) ≤ 12
      · obtain ⟨n2, n12⟩ := nn
        rcases shAll (fun j => h.2 92 (40 * q + j)) (tn (h.1 91 q)) with ha2 | ⟨k, hk, ha2, hx⟩
        · have ec : ∀ k, k < (tn (h.1 91 q)) → h.2 92 (40 * q + k) = lN ((fun k => tn (h.2 92 (40 * q + k)).toInt32) k) ∧ isSh ((fun k => tn (h.2 92 (40 * q + k)).toInt32) k) := by
            intro k hk
            obtain ⟨m, hm, e⟩ := ha2 k hk
            have ml := sh_lt hm
            show _ = lN (tn (h.2 92 (40 * q + k)).toInt32) ∧ isSh (tn (h.2 92 (40 * q + k)).toInt32)
            rw [e, lN_i, tn_nI (by omega)]
            exact ⟨rfl, hm⟩
          obtain ⟨h1, gt, f1, v1, r1⟩ := c_layShakes i.w i.c (sh := (fun k => tn (h.2 92 (40 * q + k)).toInt32)) hq n12 e59 (fun j hj => ⟨(i.s.x _ (by omega)).trans (ec j hj).1, (ec j hj).2⟩)
          have e1 : ms h1 = ms h := f1.same.msE
          obtain ⟨h2, gp, f2, v2⟩ := m_prepare (h := h1) (by rw [e1]; exact i.w) (-1)
          rw [e1] at v2
          have z59 : h1.1 59 q = nI (tn (h.1 91 q)) := (congrFun (f1.1 59 (by decide)) q).trans e59
          have z90 : h1.1 90 q = nI wd := (congrFun (f1.1 90 (by decide)) q).trans e90
          have z91 : h1.1 91 q = nI (tn (h.1 91 q)) := (congrFun (f1.1 91 (by decide)) q).trans e91
          have zs : ∀ j, j < (tn (h.1 91 q)) → isS (h1.2 92 (40 * q + j)) := fun j hj => by rw [f1.2 92 (by decide)]; exact ha2 j hj
          have y91 : h2.1 91 q = nI (tn (h.1 91 q)) := (congrFun (f2.1 91 (by decide) (by decide) (by decide) (by decide) (by decide)) q).trans z91
          have ys : ∀ j, j < (tn (h.1 91 q)) → h2.2 92 (40 * q + j) = lN ((fun k => tn (h.2 92 (40 * q + k)).toInt32) j) ∧ isSh ((fun k => tn (h.2 92 (40 * q + k)).toInt32) j) := fun j hj => ⟨(congrFun (f2.2.2 92 (by decide) (by decide)) _).trans ((congrFun (f1.2 92 (by decide)) _).trans (ec j hj).1), (ec j hj).2⟩
          have gfE := c_flt_E (h := h) hq e58 w0 w1 e59 l91 n2 n12 (fun j hj => by rw [i.s.x _ (by omega)]; exact ha2 j hj)
          have gnE := m_nop_E (h := h1) hq z90 w0 w1 z91 l91 n2 n12 zs
        
          refine Pas.read (h1 := h1) (h2 := h2) (r := .int (nI (bp2 (fun a b => twN (ms h) (-1) ((fun k => tn (h.2 92 (40 * q + k)).toInt32) a) ((fun k => tn (h.2 92 (40 * q + k)).toInt32) b)) (tn (h.1 91 q)) (tn (h.1 91 q)) 0 (1, (fun a b => twN (ms h) (-1) ((fun k => tn (h.2 92 (40 * q + k)).toInt32) a) ((fun k => tn (h.2 92 (40 * q + k)).toInt32) b)) 0 1)).1)) i rfl (f1).same (f2).same ?_ ?_
          · refine gd_ald0 dX8_pair_0 (by decide) ?_
            refine gd_ild1 dX8_pair_1 ?_
            refine gd_cV1i dX8_pair_2 ct_8_240 rc_0 ⟨Nat.le_of_ble_eq_true rfl, Nat.le_of_ble_eq_true rfl⟩ (Nat.le_of_ble_eq_true rfl) (Nat.le_of_ble_eq_true rfl) (gfE) ?_
            refine gd_ist2 dX8_pair_5 rfl ?_
            refine gd_ild2 dX8_pair_6 ?_
            refine gd_if_eq_t 16 dX8_pair_7 (by decide) (by decide) ?_
            refine gd_ald0 dX8_pair_16 (by decide) ?_
            refine gd_ild1 dX8_pair_17 ?_
            refine gd_cV1v dX8_pair_18 ct_8_243 rc_0 ⟨Nat.le_of_ble_eq_true rfl, Nat.le_of_ble_eq_true rfl⟩ (Nat.le_of_ble_eq_true rfl) (Nat.le_of_ble_eq_true rfl) (gt) ?_
            refine gd_ald0 dX8_pair_21 (by decide) ?_
            refine gd_getR (r := 60) dX8_pair_22 fl_8_40 rfl rfl rfl (by decide) ?_
            refine gd_ald0 dX8_pair_25 (by decide) ?_
            refine gd_getR (r := 56) dX8_pair_26 fl_8_33 rfl rfl rfl (by decide) ?_
            refine gd_getR (r := 59) dX8_pair_29 fl_8_86 rfl rfl rfl (by decide) ?_
            refine gd_ild1 dX8_pair_32 ?_
            refine gd_iald (n := 4) dX8_pair_33 rfl (by decide) (by repeat' (first | with_reducible rfl | apply ni_add | apply ni_mul)) (by omega) ?_
            rw [z59]
            refine gd_cV1i dX8_pair_34 ct_8_247 rc_60 ⟨Nat.le_of_ble_eq_true rfl, Nat.le_of_ble_eq_true rfl⟩ (Nat.le_of_ble_eq_true rfl) (Nat.le_of_ble_eq_true rfl) (c_bestPair i.w v1 n12 r1 n2) ?_
            refine gd_iret dX8_pair_37 rfl rfl ?_
            rfl
          · refine gd_ald0 dX9_pair_0 (by decide) ?_
            refine gd_ild1 dX9_pair_1 ?_
            refine gd_cV1i dX9_pair_2 ct_9_237 rc_72 ⟨Nat.le_of_ble_eq_true rfl, Nat.le_of_ble_eq_true rfl⟩ (Nat.le_of_ble_eq_true rfl) (Nat.le_of_ble_eq_true rfl) (gnE) ?_
            refine gd_ist2 dX9_pair_5 rfl ?_
            refine gd_ild2 dX9_pair_6 ?_
            refine gd_if_eq_t 16 dX9_pair_7 (by decide) (by decide) ?_
            refine gd_ald0 dX9_pair_16 (by decide) ?_
            refine gd_icm1 dX9_pair_17 ?_
            refine gd_cV1v dX9_pair_18 ct_9_216 rc_72 ⟨Nat.le_of_ble_eq_true rfl, Nat.le_of_ble_eq_true rfl⟩ (Nat.le_of_ble_eq_true rfl) (Nat.le_of_ble_eq_true rfl) (gp) ?_
            refine gd_ald0 dX9_pair_21 (by decide) ?_
            refine gd_ild1 dX9_pair_22 ?_
            refine gd_cV1i dX9_pair_23 ct_9_240 rc_72 ⟨Nat.le_of_ble_eq_true rfl, Nat.le_of_ble_eq_true rfl⟩ (Nat.le_of_ble_eq_true rfl) (Nat.le_of_ble_eq_true rfl) (m_pairOf i.w v2 hq n12 y91 ys n2) ?_
            refine gd_iret dX9_pair_26 rfl rfl ?_
            rfl
        · refine Pas.find (h1 := h) (h2 := hf (h) 0) (v := -1000000001) (w := (-1000000000 : Int32) - nI 1) 0 i (by decide) (by decide) (by decide) (Same.rf _) (Same.rf _) ?_ ?_
          · refine gd_ald0 dX8_pair_0 (by decide) ?_
            refine gd_ild1 dX8_pair_1 ?_
            refine gd_cV1i dX8_pair_2 ct_8_240 rc_0 ⟨Nat.le_of_ble_eq_true rfl, Nat.le_of_ble_eq_true rfl⟩ (Nat.le_of_ble_eq_true rfl) (Nat.le_of_ble_eq_true rfl) (c_flt_D hq e58 w0 w1 e59 l91 n2 n12 hk (fun j hj => by rw [i.s.x _ (by omega)]; exact ha2 j hj) (by rw [i.s.x _ (by omega)]; exact hx)) ?_
            refine gd_ist2 dX8_pair_5 rfl ?_
            refine gd_ild2 dX8_pair_6 ?_
            refine gd_if_eq_f 16 dX8_pair_7 (by decide) (by decide) ?_
            refine gd_ald0 dX8_pair_10 (by decide) ?_
            refine gd_ild2 dX8_pair_11 ?_
            refine gd_cV1i dX8_pair_12 ct_8_53 rc_0 ⟨Nat.le_of_ble_eq_true rfl, Nat.le_of_ble_eq_true rfl⟩ (Nat.le_of_ble_eq_true rfl) (Nat.le_of_ble_eq_true rfl) (c_f0 _) ?_
            refine gd_iret dX8_pair_15 rfl rfl ?_
            rfl
          · refine gd_ald0 dX9_pair_0 (by decide) ?_
            refine gd_ild1 dX9_pair_1 ?_
            refine gd_cV1i dX9_pair_2 ct_9_237 rc_72 ⟨Nat.le_of_ble_eq_true rfl, Nat.le_of_ble_eq_true rfl⟩ (Nat.le_of_ble_eq_true rfl) (Nat.le_of_ble_eq_true rfl) (m_nop_D (h := hf h 0) hq e90 w0 w1 e91 l91 n2 n12 hk ha2 hx) ?_
            refine gd_ist2 dX9_pair_5 rfl ?_
            refine gd_ild2 dX9_pair_6 ?_
            refine gd_if_eq_f 16 dX9_pair_7 (by decide) (by decide) ?_
            refine gd_ald0 dX9_pair_10 (by decide) ?_
            refine gd_ild2 dX9_pair_11 ?_
            refine gd_cV1i dX9_pair_12 ct_9_97 rc_72 ⟨Nat.le_of_ble_eq_true rfl, Nat.le_of_ble_eq_true rfl⟩ (Nat.le_of_ble_eq_true rfl) (Nat.le_of_ble_eq_true rfl) (m_f0 _) ?_
            refine gd_iret dX9_pair_15 rfl rfl ?_
            rfl
      · refine Pas.find (h1 := h) (h2 := hf (h) 6) (v := -1000000007) (w := (-1000000000 : Int32) - nI 7) 6 i (by decide) (by decide) (by decide) (Same.rf _) (Same.rf _) ?_ ?_
        · refine gd_ald0 dX8_pair_0 (by decide) ?_
          refine gd_ild1 dX8_pair_1 ?_
          refine gd_cV1i dX8_pair_2 ct_8_240 rc_0 ⟨Nat.le_of_ble_eq_true rfl, Nat.le_of_ble_eq_true rfl⟩ (Nat.le_of_ble_eq_true rfl) (Nat.le_of_ble_eq_true rfl) (c_flt_C hq e58 w0 w1 e59 l91 (by omega)) ?_
          refine gd_ist2 dX8_pair_5 rfl ?_
          refine gd_ild2 dX8_pair_6 ?_
          refine gd_if_eq_f 16 dX8_pair_7 (by decide) (by decide) ?_
          refine gd_ald0 dX8_pair_10 (by decide) ?_
          refine gd_ild2 dX8_pair_11 ?_
          refine gd_cV1i dX8_pair_12 ct_8_53 rc_0 ⟨Nat.le_of_ble_eq_true rfl, Nat.le_of_ble_eq_true rfl⟩ (Nat.le_of_ble_eq_true rfl) (Nat.le_of_ble_eq_true rfl) (c_f6 _) ?_
          refine gd_iret dX8_pair_15 rfl rfl ?_
          rfl
        · refine gd_ald0 dX9_pair_0 (by decide) ?_
          refine gd_ild1 dX9_pair_1 ?_
          refine gd_cV1i dX9_pair_2 ct_9_237 rc_72 ⟨Nat.le_of_ble_eq_true rfl, Nat.le_of_ble_eq_true rfl⟩ (Nat.le_of_ble_eq_true rfl) (Nat.le_of_ble_eq_true rfl) (m_nop_C (h := hf h 6) hq e90 w0 w1 e91 l91 (by omega)) ?_
          refine gd_ist2 dX9_pair_5 rfl ?_
          refine gd_ild2 dX9_pair_6 ?_
          refine gd_if_eq_f 16 dX9_pair_7 (by decide) (by decide) ?_
          refine gd_ald0 dX9_pair_10 (by decide) ?_
          refine gd_ild2 dX9_pair_11 ?_
          refine gd_cV1i dX9_pair_12 ct_9_97 rc_72 ⟨Nat.le_of_ble_eq_true rfl, Nat.le_of_ble_eq_true rfl⟩ (Nat.le_of_ble_eq_true rfl) (Nat.le_of_ble_eq_true rfl) (m_f6 _) ?_
          refine gd_iret dX9_pair_15 rfl rfl ?_
          rfl
  · refine Pas.find (h1 := h) (h2 := hf (h) 0) (v := -1000000001) (w := (-1000000000 : Int32) - nI 1) 0 i (by decide) (by decide) (by decide) (Same.rf _) (Same.rf _) ?_ ?_
    · refine gd_ald0 dX8_pair_0 (by decide) ?_
      refine gd_ild1 dX8_pair_1 ?_
      refine gd_cV1i dX8_pair_2 ct_8_240 rc_0 ⟨Nat.le_of_ble_eq_true rfl, Nat.le_of_ble_eq_true rfl⟩ (Nat.le_of_ble_eq_true rfl) (Nat.le_of_ble_eq_true rfl) (c_flt_A ha) ?_
      refine gd_ist2 dX8_pair_5 rfl ?_
      refine gd_ild2 dX8_pair_6 ?_
      refine gd_if_eq_f 16 dX8_pair_7 (by decide) (by decide) ?_
      refine gd_ald0 dX8_pair_10 (by decide) ?_
      refine gd_ild2 dX8_pair_11 ?_
      refine gd_cV1i dX8_pair_12 ct_8_53 rc_0 ⟨Nat.le_of_ble_eq_true rfl, Nat.le_of_ble_eq_true rfl⟩ (Nat.le_of_ble_eq_true rfl) (Nat.le_of_ble_eq_true rfl) (c_f0 _) ?_
      refine gd_iret dX8_pair_15 rfl rfl ?_
      rfl
    · refine gd_ald0 dX9_pair_0 (by decide) ?_
      refine gd_ild1 dX9_pair_1 ?_
      refine gd_cV1i dX9_pair_2 ct_9_237 rc_72 ⟨Nat.le_of_ble_eq_true rfl, Nat.le_of_ble_eq_true rfl⟩ (Nat.le_of_ble_eq_true rfl) (Nat.le_of_ble_eq_true rfl) (m_nop_A ha) ?_
      refine gd_ist2 dX9_pair_5 rfl ?_
      refine gd_ild2 dX9_pair_6 ?_
      refine gd_if_eq_f 16 dX9_pair_7 (by decide) (by decide) ?_
      refine gd_ald0 dX9_pair_10 (by decide) ?_
      refine gd_ild2 dX9_pair_11 ?_
      refine gd_cV1i dX9_pair_12 ct_9_97 rc_72 ⟨Nat.le_of_ble_eq_true rfl, Nat.le_of_ble_eq_true rfl⟩ (Nat.le_of_ble_eq_true rfl) (Nat.le_of_ble_eq_true rfl) (m_f0 _) ?_
      refine gd_iret dX9_pair_15 rfl rfl ?_
      rfl
set_option maxHeartbeats 2000000 in
theorem p_night {h : Hp} (i : Inv h) (a : Int32) : Pas mX8_night mX9_night [.ref 0, .int a, .null, .null, .null] [.ref 72, .int a, .null, .null, .null, .null, .null] h := by
  rcases rng a (4) (by decide) with ⟨q, hq, rfl⟩ | ha
  · have e91 := (i.s.n q hq).1
    have l91 := (i.s.n q hq).2
    have e59 : h.1 59 q = nI (tn (h.1 91 q)) := (i.s.z q hq).trans e91
    rcases wid_ok i hq with e90 | ⟨wd, w0, w1, e90⟩
    · have e58 : h.1 58 q = nI 0 := (i.s.w q hq).trans e90
      refine Pas.find (h1 := h) (h2 := hf (h) 5) (v := -1000000006) (w := (-1000000000 : Int32) - nI 6) 5 i (by decide) (by decide) (by decide) (Same.rf _) (Same.rf _) ?_ ?_
      · refine gd_ald0 dX8_night_0 (by decide) ?_
        refine gd_ild1 dX8_night_1 ?_
        refine gd_cV1i dX8_night_2 ct_8_240 rc_0 ⟨Nat.le_of_ble_eq_true rfl, Nat.le_of_ble_eq_true rfl⟩ (Nat.le_of_ble_eq_true rfl) (Nat.le_of_ble_eq_true rfl) (c_flt_B hq e58) ?_
        refine gd_ist2 dX8_night_5 rfl ?_
        refine gd_ild2 dX8_night_6 ?_
        refine gd_if_eq_f 16 dX8_night_7 (by decide) (by decide) ?_
        refine gd_ald0 dX8_night_10 (by decide) ?_
        refine gd_ild2 dX8_night_11 ?_
        refine gd_cV1i dX8_night_12 ct_8_53 rc_0 ⟨Nat.le_of_ble_eq_true rfl, Nat.le_of_ble_eq_true rfl⟩ (Nat.le_of_ble_eq_true rfl) (Nat.le_of_ble_eq_true rfl) (c_f5 _) ?_
        refine gd_iret dX8_night_15 rfl rfl ?_
        rfl
      · refine gd_ald0 dX9_night_0 (by decide) ?_
        refine gd_ild1 dX9_night_1 ?_
        refine gd_cV1i dX9_night_2 ct_9_237 rc_72 ⟨Nat.le_of_ble_eq_true rfl, Nat.le_of_ble_eq_true rfl⟩ (Nat.le_of_ble_eq_true rfl) (Nat.le_of_ble_eq_true rfl) (m_nop_B (h := hf h 5) hq e90) ?_
        refine gd_ist2 dX9_night_5 rfl ?_
        refine gd_ild2 dX9_night_6 ?_
        refine gd_if_eq_f 16 dX9_night_7 (by decide) (by decide) ?_
        refine gd_ald0 dX9_night_10 (by decide) ?_
        refine gd_ild2 dX9_night_11 ?_
        refine gd_cV1i dX9_night_12 ct_9_97 rc_72 ⟨Nat.le_of_ble_eq_true rfl, Nat.le_of_ble_eq_true rfl⟩ (Nat.le_of_ble_eq_true rfl) (Nat.le_of_ble_eq_true rfl) (m_f5 _) ?_
        refine gd_iret dX9_night_15 rfl rfl ?_
        rfl
    · have e58 : h.1 58 q = nI wd := (i.s.w q hq).trans e90
      by_cases nn : 2 ≤ (tn (h.1 91 q)) ∧ (tn (h.1 91 q)) ≤ 12
      · obtain ⟨n2, n12⟩ := nn
        rcases shAll (fun j => h.2 92 (40 * q + j)) (tn (h.1 91 q)) with ha2 | ⟨k, hk, ha2, hx⟩
        · have ec : ∀ k, k < (tn (h.1 91 q)) → h.2 92 (40 * q + k) = lN ((fun k => tn (h.2 92 (40 * q + k)).toInt32) k) ∧ isSh ((fun k => tn (h.2 92 (40 * q + k)).toInt32) k) := by
            intro k hk
            obtain ⟨m, hm, e⟩ := ha2 k hk
            have ml := sh_lt hm
            show _ = lN (tn (h.2 92 (40 * q + k)).toInt32) ∧ isSh (tn (h.2 92 (40 * q + k)).toInt32)
            rw [e, lN_i, tn_nI (by omega)]
            exact ⟨rfl, hm⟩
          obtain ⟨h1, gt, f1, v1, r1⟩ := c_layShakes i.w i.c (sh := (fun k => tn (h.2 92 (40 * q + k)).toInt32)) hq n12 e59 (fun j hj => ⟨(i.s.x _ (by omega)).trans (ec j hj).1, (ec j hj).2⟩)
          have e1 : ms h1 = ms h := f1.same.msE
          obtain ⟨h2, gp, f2, v2⟩ := m_prepare (h := h1) (by rw [e1]; exact i.w) (-1)
          rw [e1] at v2
          have z59 : h1.1 59 q = nI (tn (h.1 91 q)) := (congrFun (f1.1 59 (by decide)) q).trans e59
          have z90 : h1.1 90 q = nI wd := (congrFun (f1.1 90 (by decide)) q).trans e90
          have z91 : h1.1 91 q = nI (tn (h.1 91 q)) := (congrFun (f1.1 91 (by decide)) q).trans e91
          have zs : ∀ j, j < (tn (h.1 91 q)) → isS (h1.2 92 (40 * q + j)) := fun j hj => by rw [f1.2 92 (by decide)]; exact ha2 j hj
          have y91 : h2.1 91 q = nI (tn (h.1 91 q)) := (congrFun (f2.1 91 (by decide) (by decide) (by decide) (by decide) (by decide)) q).trans z91
          have ys : ∀ j, j < (tn (h.1 91 q)) → h2.2 92 (40 * q + j) = lN ((fun k => tn (h.2 92 (40 * q + k)).toInt32) j) ∧ isSh ((fun k => tn (h.2 92 (40 * q + k)).toInt32) j) := fun j hj => ⟨(congrFun (f2.2.2 92 (by decide) (by decide)) _).trans ((congrFun (f1.2 92 (by decide)) _).trans (ec j hj).1), (ec j hj).2⟩
          have gfE := c_flt_E (h := h) hq e58 w0 w1 e59 l91 n2 n12 (fun j hj => by rw [i.s.x _ (by omega)]; exact ha2 j hj)
          have gnE := m_nop_E (h := h1) hq z90 w0 w1 z91 l91 n2 n12 zs
          obtain ⟨⟨pa, pb, pa1, pb1, pe⟩, _⟩ := bp2_ok (f := (fun a b => twN (ms h) (-1) ((fun k => tn (h.2 92 (40 * q + k)).toInt32) a) ((fun k => tn (h.2 92 (40 * q + k)).toInt32) b))) (fun a b => tw_le i.w (-1) _ _) (n := (tn (h.1 91 q))) (tn (h.1 91 q)) 0 (1, (fun a b => twN (ms h) (-1) ((fun k => tn (h.2 92 (40 * q + k)).toInt32) a) ((fun k => tn (h.2 92 (40 * q + k)).toInt32) b)) 0 1) (by omega) ⟨⟨0, 1, by omega, by omega, rfl⟩, tw_le i.w (-1) _ _⟩
          have gb8 := c_bestPair i.w v1 n12 r1 n2
          have gb9 := m_pairOf i.w v2 hq n12 y91 ys n2
          rw [pe] at gb8 gb9
          have d1 : (100 * pa + pb) / 100 = pa := by omega
          have d2 : (100 * pa + pb) % 100 = pb := by omega
          refine Pas.read (h1 := h1) (h2 := h2) (r := .int (nI (laN (fun j => msN (ms h) (-1) ((fun k => tn (h.2 92 (40 * q + k)).toInt32) j / 1000) ((fun k => tn (h.2 92 (40 * q + k)).toInt32) j / 10 % 100) ((fun k => tn (h.2 92 (40 * q + k)).toInt32) j % 10)) ((tn (h.1 91 q)) - 1)) - nI (twN (ms h) (-1) ((fun k => tn (h.2 92 (40 * q + k)).toInt32) pa) ((fun k => tn (h.2 92 (40 * q + k)).toInt32) pb)))) i rfl (f1).same (f2).same ?_ ?_
          · refine gd_ald0 dX8_night_0 (by decide) ?_
            refine gd_ild1 dX8_night_1 ?_
            refine gd_cV1i dX8_night_2 ct_8_240 rc_0 ⟨Nat.le_of_ble_eq_true rfl, Nat.le_of_ble_eq_true rfl⟩ (Nat.le_of_ble_eq_true rfl) (Nat.le_of_ble_eq_true rfl) (gfE) ?_
            refine gd_ist2 dX8_night_5 rfl ?_
            refine gd_ild2 dX8_night_6 ?_
            refine gd_if_eq_t 16 dX8_night_7 (by decide) (by decide) ?_
            refine gd_ald0 dX8_night_16 (by decide) ?_
            refine gd_ild1 dX8_night_17 ?_
            refine gd_cV1v dX8_night_18 ct_8_243 rc_0 ⟨Nat.le_of_ble_eq_true rfl, Nat.le_of_ble_eq_true rfl⟩ (Nat.le_of_ble_eq_true rfl) (Nat.le_of_ble_eq_true rfl) (gt) ?_
            refine gd_ald0 dX8_night_21 (by decide) ?_
            refine gd_getR (r := 60) dX8_night_22 fl_8_40 rfl rfl rfl (by decide) ?_
            refine gd_ald0 dX8_night_25 (by decide) ?_
            refine gd_getR (r := 56) dX8_night_26 fl_8_33 rfl rfl rfl (by decide) ?_
            refine gd_getR (r := 59) dX8_night_29 fl_8_86 rfl rfl rfl (by decide) ?_
            refine gd_ild1 dX8_night_32 ?_
            refine gd_iald (n := 4) dX8_night_33 rfl (by decide) (by repeat' (first | with_reducible rfl | apply ni_add | apply ni_mul)) (by omega) ?_
            rw [z59]
            refine gd_cV1i dX8_night_34 ct_8_247 rc_60 ⟨Nat.le_of_ble_eq_true rfl, Nat.le_of_ble_eq_true rfl⟩ (Nat.le_of_ble_eq_true rfl) (Nat.le_of_ble_eq_true rfl) (gb8) ?_
            refine gd_ist3 dX8_night_37 rfl ?_
            refine gd_ald0 dX8_night_38 (by decide) ?_
            refine gd_getR (r := 60) dX8_night_39 fl_8_40 rfl rfl rfl (by decide) ?_
            refine gd_ald0 dX8_night_42 (by decide) ?_
            refine gd_getR (r := 56) dX8_night_43 fl_8_33 rfl rfl rfl (by decide) ?_
            refine gd_getR (r := 59) dX8_night_46 fl_8_86 rfl rfl rfl (by decide) ?_
            refine gd_ild1 dX8_night_49 ?_
            refine gd_iald (n := 4) dX8_night_50 rfl (by decide) (by repeat' (first | with_reducible rfl | apply ni_add | apply ni_mul)) (by omega) ?_
            rw [z59]
            refine gd_cV1i dX8_night_51 ct_8_250 rc_60 ⟨Nat.le_of_ble_eq_true rfl, Nat.le_of_ble_eq_true rfl⟩ (Nat.le_of_ble_eq_true rfl) (Nat.le_of_ble_eq_true rfl) (c_leastAlone i.w v1 n12 r1 n2) ?_
            refine gd_ist4 dX8_night_54 rfl ?_
            refine gd_ild4 dX8_night_56 ?_
            refine gd_ald0 dX8_night_58 (by decide) ?_
            refine gd_getR (r := 60) dX8_night_59 fl_8_40 rfl rfl rfl (by decide) ?_
            refine gd_ild3 dX8_night_62 ?_
            refine gd_bipush (v := nI 100) dX8_night_63 (by decide) ?_
            refine gd_idiv dX8_night_65 (by decide) ?_
            rw [pk_div (by omega) (by decide) (by decide), d1]
            refine gd_ild3 dX8_night_66 ?_
            refine gd_bipush (v := nI 100) dX8_night_67 (by decide) ?_
            refine gd_irem dX8_night_69 (by decide) ?_
            rw [pk_rem (by omega) (by decide) (by decide), d2]
            refine gd_cV2i dX8_night_70 ct_8_237 rc_60 ⟨Nat.le_of_ble_eq_true rfl, Nat.le_of_ble_eq_true rfl⟩ (Nat.le_of_ble_eq_true rfl) (Nat.le_of_ble_eq_true rfl) (c_mo2 i.w v1 n12 r1 pa1 pb1) ?_
            refine gd_isub dX8_night_73 ?_
            refine gd_iret dX8_night_74 rfl rfl ?_
            rfl
          · refine gd_ald0 dX9_night_0 (by decide) ?_
            refine gd_ild1 dX9_night_1 ?_
            refine gd_cV1i dX9_night_2 ct_9_237 rc_72 ⟨Nat.le_of_ble_eq_true rfl, Nat.le_of_ble_eq_true rfl⟩ (Nat.le_of_ble_eq_true rfl) (Nat.le_of_ble_eq_true rfl) (gnE) ?_
            refine gd_ist2 dX9_night_5 rfl ?_
            refine gd_ild2 dX9_night_6 ?_
            refine gd_if_eq_t 16 dX9_night_7 (by decide) (by decide) ?_
            refine gd_ald0 dX9_night_16 (by decide) ?_
            refine gd_icm1 dX9_night_17 ?_
            refine gd_cV1v dX9_night_18 ct_9_216 rc_72 ⟨Nat.le_of_ble_eq_true rfl, Nat.le_of_ble_eq_true rfl⟩ (Nat.le_of_ble_eq_true rfl) (Nat.le_of_ble_eq_true rfl) (gp) ?_
            refine gd_ald0 dX9_night_21 (by decide) ?_
            refine gd_ild1 dX9_night_22 ?_
            refine gd_cV1i dX9_night_23 ct_9_240 rc_72 ⟨Nat.le_of_ble_eq_true rfl, Nat.le_of_ble_eq_true rfl⟩ (Nat.le_of_ble_eq_true rfl) (Nat.le_of_ble_eq_true rfl) (gb9) ?_
            refine gd_ist3 dX9_night_26 rfl ?_
            refine gd_ald0 dX9_night_27 (by decide) ?_
            refine gd_ald0 dX9_night_28 (by decide) ?_
            refine gd_ild1 dX9_night_29 ?_
            refine gd_ic0 dX9_night_30 ?_
            refine gd_cV2i dX9_night_31 ct_9_234 rc_72 ⟨Nat.le_of_ble_eq_true rfl, Nat.le_of_ble_eq_true rfl⟩ (Nat.le_of_ble_eq_true rfl) (Nat.le_of_ble_eq_true rfl) (m_shakeOn hq n12 ys (j := 0) (by omega)) ?_
            refine gd_cV1i dX9_night_34 ct_9_228 rc_72 ⟨Nat.le_of_ble_eq_true rfl, Nat.le_of_ble_eq_true rfl⟩ (Nat.le_of_ble_eq_true rfl) (Nat.le_of_ble_eq_true rfl) (m_missOf i.w v2 (ys 0 (by omega)).2) ?_
            refine gd_ist4 dX9_night_37 rfl ?_
            refine gd_ic1 dX9_night_39 ?_
            refine gd_ist5 dX9_night_40 rfl ?_
            refine m_alone i.w v2 hq n12 y91 ys n2 (fun l6 => ?_) _
            refine gd_ild4 dX9_night_88 ?_
            refine gd_ald0 dX9_night_90 (by decide) ?_
            refine gd_ald0 dX9_night_91 (by decide) ?_
            refine gd_ild1 dX9_night_92 ?_
            refine gd_ild3 dX9_night_93 ?_
            refine gd_bipush (v := nI 100) dX9_night_94 (by decide) ?_
            refine gd_idiv dX9_night_96 (by decide) ?_
            rw [pk_div (by omega) (by decide) (by decide), d1]
            refine gd_cV2i dX9_night_97 ct_9_234 rc_72 ⟨Nat.le_of_ble_eq_true rfl, Nat.le_of_ble_eq_true rfl⟩ (Nat.le_of_ble_eq_true rfl) (Nat.le_of_ble_eq_true rfl) (m_shakeOn hq n12 ys (j := pa) pa1) ?_
            refine gd_ald0 dX9_night_100 (by decide) ?_
            refine gd_ild1 dX9_night_101 ?_
            refine gd_ild3 dX9_night_102 ?_
            refine gd_bipush (v := nI 100) dX9_night_103 (by decide) ?_
            refine gd_irem dX9_night_105 (by decide) ?_
            rw [pk_rem (by omega) (by decide) (by decide), d2]
            refine gd_cV2i dX9_night_106 ct_9_234 rc_72 ⟨Nat.le_of_ble_eq_true rfl, Nat.le_of_ble_eq_true rfl⟩ (Nat.le_of_ble_eq_true rfl) (Nat.le_of_ble_eq_true rfl) (m_shakeOn hq n12 ys (j := pb) pb1) ?_
            refine gd_cV2i dX9_night_109 ct_9_231 rc_72 ⟨Nat.le_of_ble_eq_true rfl, Nat.le_of_ble_eq_true rfl⟩ (Nat.le_of_ble_eq_true rfl) (Nat.le_of_ble_eq_true rfl) (m_twoOf i.w v2 (ys pa pa1).2 (ys pb pb1).2) ?_
            refine gd_isub dX9_night_112 ?_
            refine gd_iret dX9_night_113 rfl rfl ?_
            rfl
        · refine Pas.find (h1 := h) (h2 := hf (h) 0) (v := -1000000001) (w := (-1000000000 : Int32) - nI 1) 0 i (by decide) (by decide) (by decide) (Same.rf _) (Same.rf _) ?_ ?_
          · refine gd_ald0 dX8_night_0 (by decide) ?_
            refine gd_ild1 dX8_night_1 ?_
            refine gd_cV1i dX8_night_2 ct_8_240 rc_0 ⟨Nat.le_of_ble_eq_true rfl, Nat.le_of_ble_eq_true rfl⟩ (Nat.le_of_ble_eq_true rfl) (Nat.le_of_ble_eq_true rfl) (c_flt_D hq e58 w0 w1 e59 l91 n2 n12 hk (fun j hj => by rw [i.s.x _ (by omega)]; exact ha2 j hj) (by rw [i.s.x _ (by omega)]; exact hx)) ?_
            refine gd_ist2 dX8_night_5 rfl ?_
            refine gd_ild2 dX8_night_6 ?_
            refine gd_if_eq_f 16 dX8_night_7 (by decide) (by decide) ?_
            refine gd_ald0 dX8_night_10 (by decide) ?_
            refine gd_ild2 dX8_night_11 ?_
            refine gd_cV1i dX8_night_12 ct_8_53 rc_0 ⟨Nat.le_of_ble_eq_true rfl, Nat.le_of_ble_eq_true rfl⟩ (Nat.le_of_ble_eq_true rfl) (Nat.le_of_ble_eq_true rfl) (c_f0 _) ?_
            refine gd_iret dX8_night_15 rfl rfl ?_
            rfl
          · refine gd_ald0 dX9_night_0 (by decide) ?_
            refine gd_ild1 dX9_night_1 ?_
            refine gd_cV1i dX9_night_2 ct_9_237 rc_72 ⟨Nat.le_of_ble_eq_true rfl, Nat.le_of_ble_eq_true rfl⟩ (Nat.le_of_ble_eq_true rfl) (Nat.le_of_ble_eq_true rfl) (m_nop_D (h := hf h 0) hq e90 w0 w1 e91 l91 n2 n12 hk ha2 hx) ?_
            refine gd_ist2 dX9_night_5 rfl ?_
            refine gd_ild2 dX9_night_6 ?_
            refine gd_if_eq_f 16 dX9_night_7 (by decide) (by decide) ?_
            refine gd_ald0 dX9_night_10 (by decide) ?_
            refine gd_ild2 dX9_night_11 ?_
            refine gd_cV1i dX9_night_12 ct_9_97 rc_72 ⟨Nat.le_of_ble_eq_true rfl, Nat.le_of_ble_eq_true rfl⟩ (Nat.le_of_ble_eq_true rfl) (Nat.le_of_ble_eq_true rfl) (m_f0 _) ?_
            refine gd_iret dX9_night_15 rfl rfl ?_
            rfl
      · refine Pas.find (h1 := h) (h2 := hf (h) 6) (v := -1000000007) (w := (-1000000000 : Int32) - nI 7) 6 i (by decide) (by decide) (by decide) (Same.rf _) (Same.rf _) ?_ ?_
        · refine gd_ald0 dX8_night_0 (by decide) ?_
          refine gd_ild1 dX8_night_1 ?_
          refine gd_cV1i dX8_night_2 ct_8_240 rc_0 ⟨Nat.le_of_ble_eq_true rfl, Nat.le_of_ble_eq_true rfl⟩ (Nat.le_of_ble_eq_true rfl) (Nat.le_of_ble_eq_true rfl) (c_flt_C hq e58 w0 w1 e59 l91 (by omega)) ?_
          refine gd_ist2 dX8_night_5 rfl ?_
          refine gd_ild2 dX8_night_6 ?_
          refine gd_if_eq_f 16 dX8_night_7 (by decide) (by decide) ?_
          refine gd_ald0 dX8_night_10 (by decide) ?_
          refine gd_ild2 dX8_night_11 ?_
          refine gd_cV1i dX8_night_12 ct_8_53 rc_0 ⟨Nat.le_of_ble_eq_true rfl, Nat.le_of_ble_eq_true rfl⟩ (Nat.le_of_ble_eq_true rfl) (Nat.le_of_ble_eq_true rfl) (c_f6 _) ?_
          refine gd_iret dX8_night_15 rfl rfl ?_
          rfl
        · refine gd_ald0 dX9_night_0 (by decide) ?_
          refine gd_ild1 dX9_night_1 ?_
          refine gd_cV1i dX9_night_2 ct_9_237 rc_72 ⟨Nat.le_of_ble_eq_true rfl, Nat.le_of_ble_eq_true rfl⟩ (Nat.le_of_ble_eq_true rfl) (Nat.le_of_ble_eq_true rfl) (m_nop_C (h := hf h 6) hq e90 w0 w1 e91 l91 (by omega)) ?_
          refine gd_ist2 dX9_night_5 rfl ?_
          refine gd_ild2 dX9_night_6 ?_
          refine gd_if_eq_f 16 dX9_night_7 (by decide) (by decide) ?_
          refine gd_ald0 dX9_night_10 (by decide) ?_
          refine gd_ild2 dX9_night_11 ?_
          refine gd_cV1i dX9_night_12 ct_9_97 rc_72 ⟨Nat.le_of_ble_eq_true rfl, Nat.le_of_ble_eq_true rfl⟩ (Nat.le_of_ble_eq_true rfl) (Nat.le_of_ble_eq_true rfl) (m_f6 _) ?_
          refine gd_iret dX9_night_15 rfl rfl ?_
          rfl
  · refine Pas.find (h1 := h) (h2 := hf (h) 0) (v := -1000000001) (w := (-1000000000 : Int32) - nI 1) 0 i (by decide) (by decide) (by decide) (Same.rf _) (Same.rf _) ?_ ?_
    · refine gd_ald0 dX8_night_0 (by decide) ?_
      refine gd_ild1 dX8_night_1 ?_
      refine gd_cV1i dX8_night_2 ct_8_240 rc_0 ⟨Nat.le_of_ble_eq_true rfl, Nat.le_of_ble_eq_true rfl⟩ (Nat.le_of_ble_eq_true rfl) (Nat.le_of_ble_eq_true rfl) (c_flt_A ha) ?_
      refine gd_ist2 dX8_night_5 rfl ?_
      refine gd_ild2 dX8_night_6 ?_
      refine gd_if_eq_f 16 dX8_night_7 (by decide) (by decide) ?_
      refine gd_ald0 dX8_night_10 (by decide) ?_
      refine gd_ild2 dX8_night_11 ?_
      refine gd_cV1i dX8_night_12 ct_8_53 rc_0 ⟨Nat.le_of_ble_eq_true rfl, Nat.le_of_ble_eq_true rfl⟩ (Nat.le_of_ble_eq_true rfl) (Nat.le_of_ble_eq_true rfl) (c_f0 _) ?_
      refine gd_iret dX8_night_15 rfl rfl ?_
      rfl
    · refine gd_ald0 dX9_night_0 (by decide) ?_
      refine gd_ild1 dX9_night_1 ?_
      refine gd_cV1i dX9_night_2 ct_9_237 rc_72 ⟨Nat.le_of_ble_eq_true rfl, Nat.le_of_ble_eq_true rfl⟩ (Nat.le_of_ble_eq_true rfl) (Nat.le_of_ble_eq_true rfl) (m_nop_A ha) ?_
      refine gd_ist2 dX9_night_5 rfl ?_
      refine gd_ild2 dX9_night_6 ?_
      refine gd_if_eq_f 16 dX9_night_7 (by decide) (by decide) ?_
      refine gd_ald0 dX9_night_10 (by decide) ?_
      refine gd_ild2 dX9_night_11 ?_
      refine gd_cV1i dX9_night_12 ct_9_97 rc_72 ⟨Nat.le_of_ble_eq_true rfl, Nat.le_of_ble_eq_true rfl⟩ (Nat.le_of_ble_eq_true rfl) (Nat.le_of_ble_eq_true rfl) (m_f0 _) ?_
      refine gd_iret dX9_night_15 rfl rfl ?_
      rfl
