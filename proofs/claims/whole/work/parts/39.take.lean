
/-! ===== a name is taken ===== -/
def CT (h : Hp) (b : Nat → Nat) (N e : Nat) : Prop := TPB h b N ∧ e ≤ N ∧ h.1 51 6 = nI (tkS b N e) ∧ h.1 51 7 = nI (tkX b N e) ∧ h.1 51 8 = nI (tkK b N e) ∧ h.1 51 9 = nI (tkV b N e)
def hTk (h : Hp) (b : Nat → Nat) (N e : Nat) : Hp := hT h (nI (tkS b N e)) (nI (tkX b N e)) (nI (tkK b N e)) (nI (tkV b N e))
theorem hTk_ct {h : Hp} {b : Nat → Nat} {N e : Nat} (t : TPB h b N) (he : e ≤ N) : CT (hTk h b N e) b N e := ⟨⟨t.1, t.2.1, t.2.2⟩, he, rfl, rfl, rfl, rfl⟩
theorem c_adv {h : Hp} {b : Nat → Nat} {N e : Nat} (t : CT h b N e) : Gd mX5_advance 0 [.ref 51, .null, .null] [] h (none, hTk h b N (tkX b N e)) :=
  c_advance t.1 (tkX_ok t.1.2.1 t.2.1).2.1 t.2.2.2.1
def isNm (b : Nat → Nat) (N e : Nat) (c : Nat → Nat) (n : Nat) : Prop := tkK b N e = 1 ∧ tkX b N e - tkS b N e = n ∧ ∀ i, i < n → b (tkS b N e + i) = c i
theorem frst (f g : Nat → Nat) : ∀ n, (∀ i, i < n → f i = g i) ∨ ∃ k, k < n ∧ (∀ i, i < k → f i = g i) ∧ ¬ f k = g k := by
  intro n
  induction n with
  | zero => exact Or.inl (fun i hi => absurd hi (by omega))
  | succ n ih =>
    rcases ih with a | ⟨k, a, b, c⟩
    · by_cases q : f n = g n
      · left; intro i hi
        by_cases z : i = n
        · rw [z]; exact q
        · exact a i (by omega)
      · exact Or.inr ⟨n, by omega, a, q⟩
    · exact Or.inr ⟨k, by omega, b, c⟩
theorem ch0_lt (i : Nat) : ch0 i < 256 := by
  by_cases q : i < 4
  · rcases (show i = 0 ∨ i = 1 ∨ i = 2 ∨ i = 3 by omega) with rfl | rfl | rfl | rfl <;> decide
  · obtain ⟨z, rfl⟩ : ∃ z, i = z + 4 := ⟨i - 4, by omega⟩
    exact (by decide : (0 : Nat) < 256)
theorem c_takeName0_t {h : Hp} {b : Nat → Nat} {N e : Nat} (t : CT h b N e) (m : isNm b N e ch0 4) : Gd mX5_takeName 0 [.ref 51, .ref 100, .null] [] h (some (.int (nI 1)), hTk h b N (tkX b N e)) := by
  have hN := t.1.2.1
  have sx := tkX_ok (b := b) t.1.2.1 t.2.1
  obtain ⟨m1, m2, m3⟩ := m
  have key := loopG (P := fun i => Gd mX5_takeName 28 [.ref 51, .ref 100, .int (nI i)] [] h (some (.int (nI 1)), hTk h b N (tkX b N e))) (n := 4) ?_ ?_ 0 (by omega)
  · refine gd_ald0 dX5_takeName_0 (by decide) ?_
    refine gd_getI dX5_takeName_1 fl_5_48 rfl rfl ?_
    rw [t.2.2.2.2.1]
    refine gd_ic1 dX5_takeName_4 ?_
    refine gd_icmp_ne_f 24 dX5_takeName_5 (by decide) (by rw [m1]) ?_
    refine gd_ald0 dX5_takeName_8 (by decide) ?_
    refine gd_getI dX5_takeName_9 fl_5_31 rfl rfl ?_
    rw [t.2.2.2.1]
    refine gd_ald0 dX5_takeName_12 (by decide) ?_
    refine gd_getI dX5_takeName_13 fl_5_41 rfl rfl ?_
    rw [t.2.2.1]
    refine gd_isub dX5_takeName_16 ?_
    rw [pk_sub (by omega)]
    refine gd_ald1 dX5_takeName_17 (by decide) ?_
    refine gd_cV0i dX5_takeName_18 ct_5_84 rc_100 ⟨Nat.le_of_ble_eq_true rfl, Nat.le_of_ble_eq_true rfl⟩ (Nat.le_of_ble_eq_true rfl) (Nat.le_of_ble_eq_true rfl) (j_len0 _) ?_
    refine gd_icmp_eq_t 26 dX5_takeName_21 (by decide) (by exact (nI_eq (by omega) (by omega)).mpr (by omega)) ?_
    refine gd_ic0 dX5_takeName_26 ?_
    refine gd_ist2 dX5_takeName_27 rfl ?_
    exact key
  · refine gd_ild2 dX5_takeName_28 ?_
    refine gd_ald1 dX5_takeName_29 (by decide) ?_
    refine gd_cV0i dX5_takeName_30 ct_5_84 rc_100 ⟨Nat.le_of_ble_eq_true rfl, Nat.le_of_ble_eq_true rfl⟩ (Nat.le_of_ble_eq_true rfl) (Nat.le_of_ble_eq_true rfl) (j_len0 _) ?_
    refine gd_icmp_ge_t 63 dX5_takeName_33 (by decide) (by exact nI_le (by omega) (by omega)) ?_
    refine gd_ald0 dX5_takeName_63 (by decide) ?_
    refine gd_cV0v dX5_takeName_64 ct_5_34 rc_51 ⟨Nat.le_of_ble_eq_true rfl, Nat.le_of_ble_eq_true rfl⟩ (Nat.le_of_ble_eq_true rfl) (Nat.le_of_ble_eq_true rfl) (c_adv t) ?_
    refine gd_ic1 dX5_takeName_67 ?_
    refine gd_iret dX5_takeName_68 rfl (by first | rfl | decide | exact nar_bi _ | assumption) ?_
    rfl
  · intro i hi ih
    have c1 := ch0_lt i
    refine gd_ild2 dX5_takeName_28 ?_
    refine gd_ald1 dX5_takeName_29 (by decide) ?_
    refine gd_cV0i dX5_takeName_30 ct_5_84 rc_100 ⟨Nat.le_of_ble_eq_true rfl, Nat.le_of_ble_eq_true rfl⟩ (Nat.le_of_ble_eq_true rfl) (Nat.le_of_ble_eq_true rfl) (j_len0 _) ?_
    refine gd_icmp_ge_f 63 dX5_takeName_33 (by decide) (by exact nI_ge (by omega) (by omega)) ?_
    refine gd_ald0 dX5_takeName_36 (by decide) ?_
    refine gd_getR (r := 52) dX5_takeName_37 fl_5_9 rfl rfl rfl (by decide) ?_
    refine gd_ald0 dX5_takeName_40 (by decide) ?_
    refine gd_getI dX5_takeName_41 fl_5_41 rfl rfl ?_
    rw [t.2.2.1]
    refine gd_ild2 dX5_takeName_44 ?_
    refine gd_iadd dX5_takeName_45 ?_
    refine gd_iald (n := 120) dX5_takeName_46 rfl (by decide) (by rw [nI_add]) (by omega) ?_
    rw [(t.1.2.2 _ (by omega)).1]
    refine gd_ald1 dX5_takeName_47 (by decide) ?_
    refine gd_ild2 dX5_takeName_48 ?_
    refine gd_cV1i dX5_takeName_49 ct_5_89 rc_100 ⟨Nat.le_of_ble_eq_true rfl, Nat.le_of_ble_eq_true rfl⟩ (Nat.le_of_ble_eq_true rfl) (Nat.le_of_ble_eq_true rfl) (j_at0 (by omega) _) ?_
    refine gd_icmp_eq_t 57 dX5_takeName_52 (by decide) (by rw [m3 i hi]) ?_
    refine gd_iinc2 (b := nI 1) dX5_takeName_57 (by decide) rfl ?_
    rw [nI_add]
    refine gd_goto 28 dX5_takeName_60 (by decide) ?_
    exact ih
theorem c_takeName0_f {h : Hp} {b : Nat → Nat} {N e : Nat} (t : CT h b N e) (m : ¬ isNm b N e ch0 4) : Gd mX5_takeName 0 [.ref 51, .ref 100, .null] [] h (some (.int (nI 0)), h) := by
  have hN := t.1.2.1
  have sx := tkX_ok (b := b) t.1.2.1 t.2.1
  have kl := tkK_lt (b := b) (N := N) (e := e)
  by_cases m1 : tkK b N e = 1
  · by_cases m2 : tkX b N e - tkS b N e = 4
    · rcases frst (fun i => b (tkS b N e + i)) ch0 4 with a | ⟨k, hk, a, ne⟩
      · exact absurd ⟨m1, m2, a⟩ m
      · have key := loopG (P := fun i => Gd mX5_takeName 28 [.ref 51, .ref 100, .int (nI i)] [] h (some (.int (nI 0)), h)) (n := k) ?_ ?_ 0 (by omega)
        · refine gd_ald0 dX5_takeName_0 (by decide) ?_
          refine gd_getI dX5_takeName_1 fl_5_48 rfl rfl ?_
          rw [t.2.2.2.2.1]
          refine gd_ic1 dX5_takeName_4 ?_
          refine gd_icmp_ne_f 24 dX5_takeName_5 (by decide) (by rw [m1]) ?_
          refine gd_ald0 dX5_takeName_8 (by decide) ?_
          refine gd_getI dX5_takeName_9 fl_5_31 rfl rfl ?_
          rw [t.2.2.2.1]
          refine gd_ald0 dX5_takeName_12 (by decide) ?_
          refine gd_getI dX5_takeName_13 fl_5_41 rfl rfl ?_
          rw [t.2.2.1]
          refine gd_isub dX5_takeName_16 ?_
          rw [pk_sub (by omega)]
          refine gd_ald1 dX5_takeName_17 (by decide) ?_
          refine gd_cV0i dX5_takeName_18 ct_5_84 rc_100 ⟨Nat.le_of_ble_eq_true rfl, Nat.le_of_ble_eq_true rfl⟩ (Nat.le_of_ble_eq_true rfl) (Nat.le_of_ble_eq_true rfl) (j_len0 _) ?_
          refine gd_icmp_eq_t 26 dX5_takeName_21 (by decide) (by exact (nI_eq (by omega) (by omega)).mpr (by omega)) ?_
          refine gd_ic0 dX5_takeName_26 ?_
          refine gd_ist2 dX5_takeName_27 rfl ?_
          exact key
        · have c1 := ch0_lt k
          have c2 := (t.1.2.2 (tkS b N e + k) (by omega)).2
          refine gd_ild2 dX5_takeName_28 ?_
          refine gd_ald1 dX5_takeName_29 (by decide) ?_
          refine gd_cV0i dX5_takeName_30 ct_5_84 rc_100 ⟨Nat.le_of_ble_eq_true rfl, Nat.le_of_ble_eq_true rfl⟩ (Nat.le_of_ble_eq_true rfl) (Nat.le_of_ble_eq_true rfl) (j_len0 _) ?_
          refine gd_icmp_ge_f 63 dX5_takeName_33 (by decide) (by exact nI_ge (by omega) (by omega)) ?_
          refine gd_ald0 dX5_takeName_36 (by decide) ?_
          refine gd_getR (r := 52) dX5_takeName_37 fl_5_9 rfl rfl rfl (by decide) ?_
          refine gd_ald0 dX5_takeName_40 (by decide) ?_
          refine gd_getI dX5_takeName_41 fl_5_41 rfl rfl ?_
          rw [t.2.2.1]
          refine gd_ild2 dX5_takeName_44 ?_
          refine gd_iadd dX5_takeName_45 ?_
          refine gd_iald (n := 120) dX5_takeName_46 rfl (by decide) (by rw [nI_add]) (by omega) ?_
          rw [(t.1.2.2 _ (by omega)).1]
          refine gd_ald1 dX5_takeName_47 (by decide) ?_
          refine gd_ild2 dX5_takeName_48 ?_
          refine gd_cV1i dX5_takeName_49 ct_5_89 rc_100 ⟨Nat.le_of_ble_eq_true rfl, Nat.le_of_ble_eq_true rfl⟩ (Nat.le_of_ble_eq_true rfl) (Nat.le_of_ble_eq_true rfl) (j_at0 (by omega) _) ?_
          refine gd_icmp_eq_f 57 dX5_takeName_52 (by decide) (fun z => ne ((nI_eq (by omega) (by omega)).mp z)) ?_
          refine gd_ic0 dX5_takeName_55 ?_
          refine gd_iret dX5_takeName_56 rfl (by first | rfl | decide | exact nar_bi _ | assumption) ?_
          rfl
        · intro i hi ih
          have c1 := ch0_lt i
          have ai : b (tkS b N e + i) = ch0 i := a i hi
          refine gd_ild2 dX5_takeName_28 ?_
          refine gd_ald1 dX5_takeName_29 (by decide) ?_
          refine gd_cV0i dX5_takeName_30 ct_5_84 rc_100 ⟨Nat.le_of_ble_eq_true rfl, Nat.le_of_ble_eq_true rfl⟩ (Nat.le_of_ble_eq_true rfl) (Nat.le_of_ble_eq_true rfl) (j_len0 _) ?_
          refine gd_icmp_ge_f 63 dX5_takeName_33 (by decide) (by exact nI_ge (by omega) (by omega)) ?_
          refine gd_ald0 dX5_takeName_36 (by decide) ?_
          refine gd_getR (r := 52) dX5_takeName_37 fl_5_9 rfl rfl rfl (by decide) ?_
          refine gd_ald0 dX5_takeName_40 (by decide) ?_
          refine gd_getI dX5_takeName_41 fl_5_41 rfl rfl ?_
          rw [t.2.2.1]
          refine gd_ild2 dX5_takeName_44 ?_
          refine gd_iadd dX5_takeName_45 ?_
          refine gd_iald (n := 120) dX5_takeName_46 rfl (by decide) (by rw [nI_add]) (by omega) ?_
          rw [(t.1.2.2 _ (by omega)).1]
          refine gd_ald1 dX5_takeName_47 (by decide) ?_
          refine gd_ild2 dX5_takeName_48 ?_
          refine gd_cV1i dX5_takeName_49 ct_5_89 rc_100 ⟨Nat.le_of_ble_eq_true rfl, Nat.le_of_ble_eq_true rfl⟩ (Nat.le_of_ble_eq_true rfl) (Nat.le_of_ble_eq_true rfl) (j_at0 (by omega) _) ?_
          refine gd_icmp_eq_t 57 dX5_takeName_52 (by decide) (by rw [ai]) ?_
          refine gd_iinc2 (b := nI 1) dX5_takeName_57 (by decide) rfl ?_
          rw [nI_add]
          refine gd_goto 28 dX5_takeName_60 (by decide) ?_
          exact ih
    · refine gd_ald0 dX5_takeName_0 (by decide) ?_
      refine gd_getI dX5_takeName_1 fl_5_48 rfl rfl ?_
      rw [t.2.2.2.2.1]
      refine gd_ic1 dX5_takeName_4 ?_
      refine gd_icmp_ne_f 24 dX5_takeName_5 (by decide) (by rw [m1]) ?_
      refine gd_ald0 dX5_takeName_8 (by decide) ?_
      refine gd_getI dX5_takeName_9 fl_5_31 rfl rfl ?_
      rw [t.2.2.2.1]
      refine gd_ald0 dX5_takeName_12 (by decide) ?_
      refine gd_getI dX5_takeName_13 fl_5_41 rfl rfl ?_
      rw [t.2.2.1]
      refine gd_isub dX5_takeName_16 ?_
      rw [pk_sub (by omega)]
      refine gd_ald1 dX5_takeName_17 (by decide) ?_
      refine gd_cV0i dX5_takeName_18 ct_5_84 rc_100 ⟨Nat.le_of_ble_eq_true rfl, Nat.le_of_ble_eq_true rfl⟩ (Nat.le_of_ble_eq_true rfl) (Nat.le_of_ble_eq_true rfl) (j_len0 _) ?_
      refine gd_icmp_eq_f 26 dX5_takeName_21 (by decide) (by exact fun z => absurd ((nI_eq (by omega) (by omega)).mp z) (by omega)) ?_
      refine gd_ic0 dX5_takeName_24 ?_
      refine gd_iret dX5_takeName_25 rfl (by first | rfl | decide | exact nar_bi _ | assumption) ?_
      rfl
  · refine gd_ald0 dX5_takeName_0 (by decide) ?_
    refine gd_getI dX5_takeName_1 fl_5_48 rfl rfl ?_
    rw [t.2.2.2.2.1]
    refine gd_ic1 dX5_takeName_4 ?_
    refine gd_icmp_ne_t 24 dX5_takeName_5 (by decide) (by exact fun z => absurd ((nI_eq (by omega) (by omega)).mp z) (by omega)) ?_
    refine gd_ic0 dX5_takeName_24 ?_
    refine gd_iret dX5_takeName_25 rfl (by first | rfl | decide | exact nar_bi _ | assumption) ?_
    rfl
theorem ch1_lt (i : Nat) : ch1 i < 256 := by
  by_cases q : i < 2
  · rcases (show i = 0 ∨ i = 1 by omega) with rfl | rfl <;> decide
  · obtain ⟨z, rfl⟩ : ∃ z, i = z + 2 := ⟨i - 2, by omega⟩
    exact (by decide : (0 : Nat) < 256)
theorem c_takeName1_t {h : Hp} {b : Nat → Nat} {N e : Nat} (t : CT h b N e) (m : isNm b N e ch1 2) : Gd mX5_takeName 0 [.ref 51, .ref 101, .null] [] h (some (.int (nI 1)), hTk h b N (tkX b N e)) := by
  have hN := t.1.2.1
  have sx := tkX_ok (b := b) t.1.2.1 t.2.1
  obtain ⟨m1, m2, m3⟩ := m
  have key := loopG (P := fun i => Gd mX5_takeName 28 [.ref 51, .ref 101, .int (nI i)] [] h (some (.int (nI 1)), hTk h b N (tkX b N e))) (n := 2) ?_ ?_ 0 (by omega)
  · refine gd_ald0 dX5_takeName_0 (by decide) ?_
    refine gd_getI dX5_takeName_1 fl_5_48 rfl rfl ?_
    rw [t.2.2.2.2.1]
    refine gd_ic1 dX5_takeName_4 ?_
    refine gd_icmp_ne_f 24 dX5_takeName_5 (by decide) (by rw [m1]) ?_
    refine gd_ald0 dX5_takeName_8 (by decide) ?_
    refine gd_getI dX5_takeName_9 fl_5_31 rfl rfl ?_
    rw [t.2.2.2.1]
    refine gd_ald0 dX5_takeName_12 (by decide) ?_
    refine gd_getI dX5_takeName_13 fl_5_41 rfl rfl ?_
    rw [t.2.2.1]
    refine gd_isub dX5_takeName_16 ?_
    rw [pk_sub (by omega)]
    refine gd_ald1 dX5_takeName_17 (by decide) ?_
    refine gd_cV0i dX5_takeName_18 ct_5_84 rc_101 ⟨Nat.le_of_ble_eq_true rfl, Nat.le_of_ble_eq_true rfl⟩ (Nat.le_of_ble_eq_true rfl) (Nat.le_of_ble_eq_true rfl) (j_len1 _) ?_
    refine gd_icmp_eq_t 26 dX5_takeName_21 (by decide) (by exact (nI_eq (by omega) (by omega)).mpr (by omega)) ?_
    refine gd_ic0 dX5_takeName_26 ?_
    refine gd_ist2 dX5_takeName_27 rfl ?_
    exact key
  · refine gd_ild2 dX5_takeName_28 ?_
    refine gd_ald1 dX5_takeName_29 (by decide) ?_
    refine gd_cV0i dX5_takeName_30 ct_5_84 rc_101 ⟨Nat.le_of_ble_eq_true rfl, Nat.le_of_ble_eq_true rfl⟩ (Nat.le_of_ble_eq_true rfl) (Nat.le_of_ble_eq_true rfl) (j_len1 _) ?_
    refine gd_icmp_ge_t 63 dX5_takeName_33 (by decide) (by exact nI_le (by omega) (by omega)) ?_
    refine gd_ald0 dX5_takeName_63 (by decide) ?_
    refine gd_cV0v dX5_takeName_64 ct_5_34 rc_51 ⟨Nat.le_of_ble_eq_true rfl, Nat.le_of_ble_eq_true rfl⟩ (Nat.le_of_ble_eq_true rfl) (Nat.le_of_ble_eq_true rfl) (c_adv t) ?_
    refine gd_ic1 dX5_takeName_67 ?_
    refine gd_iret dX5_takeName_68 rfl (by first | rfl | decide | exact nar_bi _ | assumption) ?_
    rfl
  · intro i hi ih
    have c1 := ch1_lt i
    refine gd_ild2 dX5_takeName_28 ?_
    refine gd_ald1 dX5_takeName_29 (by decide) ?_
    refine gd_cV0i dX5_takeName_30 ct_5_84 rc_101 ⟨Nat.le_of_ble_eq_true rfl, Nat.le_of_ble_eq_true rfl⟩ (Nat.le_of_ble_eq_true rfl) (Nat.le_of_ble_eq_true rfl) (j_len1 _) ?_
    refine gd_icmp_ge_f 63 dX5_takeName_33 (by decide) (by exact nI_ge (by omega) (by omega)) ?_
    refine gd_ald0 dX5_takeName_36 (by decide) ?_
    refine gd_getR (r := 52) dX5_takeName_37 fl_5_9 rfl rfl rfl (by decide) ?_
    refine gd_ald0 dX5_takeName_40 (by decide) ?_
    refine gd_getI dX5_takeName_41 fl_5_41 rfl rfl ?_
    rw [t.2.2.1]
    refine gd_ild2 dX5_takeName_44 ?_
    refine gd_iadd dX5_takeName_45 ?_
    refine gd_iald (n := 120) dX5_takeName_46 rfl (by decide) (by rw [nI_add]) (by omega) ?_
    rw [(t.1.2.2 _ (by omega)).1]
    refine gd_ald1 dX5_takeName_47 (by decide) ?_
    refine gd_ild2 dX5_takeName_48 ?_
    refine gd_cV1i dX5_takeName_49 ct_5_89 rc_101 ⟨Nat.le_of_ble_eq_true rfl, Nat.le_of_ble_eq_true rfl⟩ (Nat.le_of_ble_eq_true rfl) (Nat.le_of_ble_eq_true rfl) (j_at1 (by omega) _) ?_
    refine gd_icmp_eq_t 57 dX5_takeName_52 (by decide) (by rw [m3 i hi]) ?_
    refine gd_iinc2 (b := nI 1) dX5_takeName_57 (by decide) rfl ?_
    rw [nI_add]
    refine gd_goto 28 dX5_takeName_60 (by decide) ?_
    exact ih
theorem c_takeName1_f {h : Hp} {b : Nat → Nat} {N e : Nat} (t : CT h b N e) (m : ¬ isNm b N e ch1 2) : Gd mX5_takeName 0 [.ref 51, .ref 101, .null] [] h (some (.int (nI 0)), h) := by
  have hN := t.1.2.1
  have sx := tkX_ok (b := b) t.1.2.1 t.2.1
  have kl := tkK_lt (b := b) (N := N) (e := e)
  by_cases m1 : tkK b N e = 1
  · by_cases m2 : tkX b N e - tkS b N e = 2
    · rcases frst (fun i => b (tkS b N e + i)) ch1 2 with a | ⟨k, hk, a, ne⟩
      · exact absurd ⟨m1, m2, a⟩ m
      · have key := loopG (P := fun i => Gd mX5_takeName 28 [.ref 51, .ref 101, .int (nI i)] [] h (some (.int (nI 0)), h)) (n := k) ?_ ?_ 0 (by omega)
        · refine gd_ald0 dX5_takeName_0 (by decide) ?_
          refine gd_getI dX5_takeName_1 fl_5_48 rfl rfl ?_
          rw [t.2.2.2.2.1]
          refine gd_ic1 dX5_takeName_4 ?_
          refine gd_icmp_ne_f 24 dX5_takeName_5 (by decide) (by rw [m1]) ?_
          refine gd_ald0 dX5_takeName_8 (by decide) ?_
          refine gd_getI dX5_takeName_9 fl_5_31 rfl rfl ?_
          rw [t.2.2.2.1]
          refine gd_ald0 dX5_takeName_12 (by decide) ?_
          refine gd_getI dX5_takeName_13 fl_5_41 rfl rfl ?_
          rw [t.2.2.1]
          refine gd_isub dX5_takeName_16 ?_
          rw [pk_sub (by omega)]
          refine gd_ald1 dX5_takeName_17 (by decide) ?_
          refine gd_cV0i dX5_takeName_18 ct_5_84 rc_101 ⟨Nat.le_of_ble_eq_true rfl, Nat.le_of_ble_eq_true rfl⟩ (Nat.le_of_ble_eq_true rfl) (Nat.le_of_ble_eq_true rfl) (j_len1 _) ?_
          refine gd_icmp_eq_t 26 dX5_takeName_21 (by decide) (by exact (nI_eq (by omega) (by omega)).mpr (by omega)) ?_
          refine gd_ic0 dX5_takeName_26 ?_
          refine gd_ist2 dX5_takeName_27 rfl ?_
          exact key
        · have c1 := ch1_lt k
          have c2 := (t.1.2.2 (tkS b N e + k) (by omega)).2
          refine gd_ild2 dX5_takeName_28 ?_
          refine gd_ald1 dX5_takeName_29 (by decide) ?_
          refine gd_cV0i dX5_takeName_30 ct_5_84 rc_101 ⟨Nat.le_of_ble_eq_true rfl, Nat.le_of_ble_eq_true rfl⟩ (Nat.le_of_ble_eq_true rfl) (Nat.le_of_ble_eq_true rfl) (j_len1 _) ?_
          refine gd_icmp_ge_f 63 dX5_takeName_33 (by decide) (by exact nI_ge (by omega) (by omega)) ?_
          refine gd_ald0 dX5_takeName_36 (by decide) ?_
          refine gd_getR (r := 52) dX5_takeName_37 fl_5_9 rfl rfl rfl (by decide) ?_
          refine gd_ald0 dX5_takeName_40 (by decide) ?_
          refine gd_getI dX5_takeName_41 fl_5_41 rfl rfl ?_
          rw [t.2.2.1]
          refine gd_ild2 dX5_takeName_44 ?_
          refine gd_iadd dX5_takeName_45 ?_
          refine gd_iald (n := 120) dX5_takeName_46 rfl (by decide) (by rw [nI_add]) (by omega) ?_
          rw [(t.1.2.2 _ (by omega)).1]
          refine gd_ald1 dX5_takeName_47 (by decide) ?_
          refine gd_ild2 dX5_takeName_48 ?_
          refine gd_cV1i dX5_takeName_49 ct_5_89 rc_101 ⟨Nat.le_of_ble_eq_true rfl, Nat.le_of_ble_eq_true rfl⟩ (Nat.le_of_ble_eq_true rfl) (Nat.le_of_ble_eq_true rfl) (j_at1 (by omega) _) ?_
          refine gd_icmp_eq_f 57 dX5_takeName_52 (by decide) (fun z => ne ((nI_eq (by omega) (by omega)).mp z)) ?_
          refine gd_ic0 dX5_takeName_55 ?_
          refine gd_iret dX5_takeName_56 rfl (by first | rfl | decide | exact nar_bi _ | assumption) ?_
          rfl
        · intro i hi ih
          have c1 := ch1_lt i
          have ai : b (tkS b N e + i) = ch1 i := a i hi
          refine gd_ild2 dX5_takeName_28 ?_
          refine gd_ald1 dX5_takeName_29 (by decide) ?_
          refine gd_cV0i dX5_takeName_30 ct_5_84 rc_101 ⟨Nat.le_of_ble_eq_true rfl, Nat.le_of_ble_eq_true rfl⟩ (Nat.le_of_ble_eq_true rfl) (Nat.le_of_ble_eq_true rfl) (j_len1 _) ?_
          refine gd_icmp_ge_f 63 dX5_takeName_33 (by decide) (by exact nI_ge (by omega) (by omega)) ?_
          refine gd_ald0 dX5_takeName_36 (by decide) ?_
          refine gd_getR (r := 52) dX5_takeName_37 fl_5_9 rfl rfl rfl (by decide) ?_
          refine gd_ald0 dX5_takeName_40 (by decide) ?_
          refine gd_getI dX5_takeName_41 fl_5_41 rfl rfl ?_
          rw [t.2.2.1]
          refine gd_ild2 dX5_takeName_44 ?_
          refine gd_iadd dX5_takeName_45 ?_
          refine gd_iald (n := 120) dX5_takeName_46 rfl (by decide) (by rw [nI_add]) (by omega) ?_
          rw [(t.1.2.2 _ (by omega)).1]
          refine gd_ald1 dX5_takeName_47 (by decide) ?_
          refine gd_ild2 dX5_takeName_48 ?_
          refine gd_cV1i dX5_takeName_49 ct_5_89 rc_101 ⟨Nat.le_of_ble_eq_true rfl, Nat.le_of_ble_eq_true rfl⟩ (Nat.le_of_ble_eq_true rfl) (Nat.le_of_ble_eq_true rfl) (j_at1 (by omega) _) ?_
          refine gd_icmp_eq_t 57 dX5_takeName_52 (by decide) (by rw [ai]) ?_
          refine gd_iinc2 (b := nI 1) dX5_takeName_57 (by decide) rfl ?_
          rw [nI_add]
          refine gd_goto 28 dX5_takeName_60 (by decide) ?_
          exact ih
    · refine gd_ald0 dX5_takeName_0 (by decide) ?_
      refine gd_getI dX5_takeName_1 fl_5_48 rfl rfl ?_
      rw [t.2.2.2.2.1]
      refine gd_ic1 dX5_takeName_4 ?_
      refine gd_icmp_ne_f 24 dX5_takeName_5 (by decide) (by rw [m1]) ?_
      refine gd_ald0 dX5_takeName_8 (by decide) ?_
      refine gd_getI dX5_takeName_9 fl_5_31 rfl rfl ?_
      rw [t.2.2.2.1]
      refine gd_ald0 dX5_takeName_12 (by decide) ?_
      refine gd_getI dX5_takeName_13 fl_5_41 rfl rfl ?_
      rw [t.2.2.1]
      refine gd_isub dX5_takeName_16 ?_
      rw [pk_sub (by omega)]
      refine gd_ald1 dX5_takeName_17 (by decide) ?_
      refine gd_cV0i dX5_takeName_18 ct_5_84 rc_101 ⟨Nat.le_of_ble_eq_true rfl, Nat.le_of_ble_eq_true rfl⟩ (Nat.le_of_ble_eq_true rfl) (Nat.le_of_ble_eq_true rfl) (j_len1 _) ?_
      refine gd_icmp_eq_f 26 dX5_takeName_21 (by decide) (by exact fun z => absurd ((nI_eq (by omega) (by omega)).mp z) (by omega)) ?_
      refine gd_ic0 dX5_takeName_24 ?_
      refine gd_iret dX5_takeName_25 rfl (by first | rfl | decide | exact nar_bi _ | assumption) ?_
      rfl
  · refine gd_ald0 dX5_takeName_0 (by decide) ?_
    refine gd_getI dX5_takeName_1 fl_5_48 rfl rfl ?_
    rw [t.2.2.2.2.1]
    refine gd_ic1 dX5_takeName_4 ?_
    refine gd_icmp_ne_t 24 dX5_takeName_5 (by decide) (by exact fun z => absurd ((nI_eq (by omega) (by omega)).mp z) (by omega)) ?_
    refine gd_ic0 dX5_takeName_24 ?_
    refine gd_iret dX5_takeName_25 rfl (by first | rfl | decide | exact nar_bi _ | assumption) ?_
    rfl
theorem ch2_lt (i : Nat) : ch2 i < 256 := by
  by_cases q : i < 6
  · rcases (show i = 0 ∨ i = 1 ∨ i = 2 ∨ i = 3 ∨ i = 4 ∨ i = 5 by omega) with rfl | rfl | rfl | rfl | rfl | rfl <;> decide
  · obtain ⟨z, rfl⟩ : ∃ z, i = z + 6 := ⟨i - 6, by omega⟩
    exact (by decide : (0 : Nat) < 256)
theorem c_takeName2_t {h : Hp} {b : Nat → Nat} {N e : Nat} (t : CT h b N e) (m : isNm b N e ch2 6) : Gd mX5_takeName 0 [.ref 51, .ref 102, .null] [] h (some (.int (nI 1)), hTk h b N (tkX b N e)) := by
  have hN := t.1.2.1
  have sx := tkX_ok (b := b) t.1.2.1 t.2.1
  obtain ⟨m1, m2, m3⟩ := m
  have key := loopG (P := fun i => Gd mX5_takeName 28 [.ref 51, .ref 102, .int (nI i)] [] h (some (.int (nI 1)), hTk h b N (tkX b N e))) (n := 6) ?_ ?_ 0 (by omega)
  · refine gd_ald0 dX5_takeName_0 (by decide) ?_
    refine gd_getI dX5_takeName_1 fl_5_48 rfl rfl ?_
    rw [t.2.2.2.2.1]
    refine gd_ic1 dX5_takeName_4 ?_
    refine gd_icmp_ne_f 24 dX5_takeName_5 (by decide) (by rw [m1]) ?_
    refine gd_ald0 dX5_takeName_8 (by decide) ?_
    refine gd_getI dX5_takeName_9 fl_5_31 rfl rfl ?_
    rw [t.2.2.2.1]
    refine gd_ald0 dX5_takeName_12 (by decide) ?_
    refine gd_getI dX5_takeName_13 fl_5_41 rfl rfl ?_
    rw [t.2.2.1]
    refine gd_isub dX5_takeName_16 ?_
    rw [pk_sub (by omega)]
    refine gd_ald1 dX5_takeName_17 (by decide) ?_
    refine gd_cV0i dX5_takeName_18 ct_5_84 rc_102 ⟨Nat.le_of_ble_eq_true rfl, Nat.le_of_ble_eq_true rfl⟩ (Nat.le_of_ble_eq_true rfl) (Nat.le_of_ble_eq_true rfl) (j_len2 _) ?_
    refine gd_icmp_eq_t 26 dX5_takeName_21 (by decide) (by exact (nI_eq (by omega) (by omega)).mpr (by omega)) ?_
    refine gd_ic0 dX5_takeName_26 ?_
    refine gd_ist2 dX5_takeName_27 rfl ?_
    exact key
  · refine gd_ild2 dX5_takeName_28 ?_
    refine gd_ald1 dX5_takeName_29 (by decide) ?_
    refine gd_cV0i dX5_takeName_30 ct_5_84 rc_102 ⟨Nat.le_of_ble_eq_true rfl, Nat.le_of_ble_eq_true rfl⟩ (Nat.le_of_ble_eq_true rfl) (Nat.le_of_ble_eq_true rfl) (j_len2 _) ?_
    refine gd_icmp_ge_t 63 dX5_takeName_33 (by decide) (by exact nI_le (by omega) (by omega)) ?_
    refine gd_ald0 dX5_takeName_63 (by decide) ?_
    refine gd_cV0v dX5_takeName_64 ct_5_34 rc_51 ⟨Nat.le_of_ble_eq_true rfl, Nat.le_of_ble_eq_true rfl⟩ (Nat.le_of_ble_eq_true rfl) (Nat.le_of_ble_eq_true rfl) (c_adv t) ?_
    refine gd_ic1 dX5_takeName_67 ?_
    refine gd_iret dX5_takeName_68 rfl (by first | rfl | decide | exact nar_bi _ | assumption) ?_
    rfl
  · intro i hi ih
    have c1 := ch2_lt i
    refine gd_ild2 dX5_takeName_28 ?_
    refine gd_ald1 dX5_takeName_29 (by decide) ?_
    refine gd_cV0i dX5_takeName_30 ct_5_84 rc_102 ⟨Nat.le_of_ble_eq_true rfl, Nat.le_of_ble_eq_true rfl⟩ (Nat.le_of_ble_eq_true rfl) (Nat.le_of_ble_eq_true rfl) (j_len2 _) ?_
    refine gd_icmp_ge_f 63 dX5_takeName_33 (by decide) (by exact nI_ge (by omega) (by omega)) ?_
    refine gd_ald0 dX5_takeName_36 (by decide) ?_
    refine gd_getR (r := 52) dX5_takeName_37 fl_5_9 rfl rfl rfl (by decide) ?_
    refine gd_ald0 dX5_takeName_40 (by decide) ?_
    refine gd_getI dX5_takeName_41 fl_5_41 rfl rfl ?_
    rw [t.2.2.1]
    refine gd_ild2 dX5_takeName_44 ?_
    refine gd_iadd dX5_takeName_45 ?_
    refine gd_iald (n := 120) dX5_takeName_46 rfl (by decide) (by rw [nI_add]) (by omega) ?_
    rw [(t.1.2.2 _ (by omega)).1]
    refine gd_ald1 dX5_takeName_47 (by decide) ?_
    refine gd_ild2 dX5_takeName_48 ?_
    refine gd_cV1i dX5_takeName_49 ct_5_89 rc_102 ⟨Nat.le_of_ble_eq_true rfl, Nat.le_of_ble_eq_true rfl⟩ (Nat.le_of_ble_eq_true rfl) (Nat.le_of_ble_eq_true rfl) (j_at2 (by omega) _) ?_
    refine gd_icmp_eq_t 57 dX5_takeName_52 (by decide) (by rw [m3 i hi]) ?_
    refine gd_iinc2 (b := nI 1) dX5_takeName_57 (by decide) rfl ?_
    rw [nI_add]
    refine gd_goto 28 dX5_takeName_60 (by decide) ?_
    exact ih
theorem c_takeName2_f {h : Hp} {b : Nat → Nat} {N e : Nat} (t : CT h b N e) (m : ¬ isNm b N e ch2 6) : Gd mX5_takeName 0 [.ref 51, .ref 102, .null] [] h (some (.int (nI 0)), h) := by
  have hN := t.1.2.1
  have sx := tkX_ok (b := b) t.1.2.1 t.2.1
  have kl := tkK_lt (b := b) (N := N) (e := e)
  by_cases m1 : tkK b N e = 1
  · by_cases m2 : tkX b N e - tkS b N e = 6
    · rcases frst (fun i => b (tkS b N e + i)) ch2 6 with a | ⟨k, hk, a, ne⟩
      · exact absurd ⟨m1, m2, a⟩ m
      · have key := loopG (P := fun i => Gd mX5_takeName 28 [.ref 51, .ref 102, .int (nI i)] [] h (some (.int (nI 0)), h)) (n := k) ?_ ?_ 0 (by omega)
        · refine gd_ald0 dX5_takeName_0 (by decide) ?_
          refine gd_getI dX5_takeName_1 fl_5_48 rfl rfl ?_
          rw [t.2.2.2.2.1]
          refine gd_ic1 dX5_takeName_4 ?_
          refine gd_icmp_ne_f 24 dX5_takeName_5 (by decide) (by rw [m1]) ?_
          refine gd_ald0 dX5_takeName_8 (by decide) ?_
          refine gd_getI dX5_takeName_9 fl_5_31 rfl rfl ?_
          rw [t.2.2.2.1]
          refine gd_ald0 dX5_takeName_12 (by decide) ?_
          refine gd_getI dX5_takeName_13 fl_5_41 rfl rfl ?_
          rw [t.2.2.1]
          refine gd_isub dX5_takeName_16 ?_
          rw [pk_sub (by omega)]
          refine gd_ald1 dX5_takeName_17 (by decide) ?_
          refine gd_cV0i dX5_takeName_18 ct_5_84 rc_102 ⟨Nat.le_of_ble_eq_true rfl, Nat.le_of_ble_eq_true rfl⟩ (Nat.le_of_ble_eq_true rfl) (Nat.le_of_ble_eq_true rfl) (j_len2 _) ?_
          refine gd_icmp_eq_t 26 dX5_takeName_21 (by decide) (by exact (nI_eq (by omega) (by omega)).mpr (by omega)) ?_
          refine gd_ic0 dX5_takeName_26 ?_
          refine gd_ist2 dX5_takeName_27 rfl ?_
          exact key
        · have c1 := ch2_lt k
          have c2 := (t.1.2.2 (tkS b N e + k) (by omega)).2
          refine gd_ild2 dX5_takeName_28 ?_
          refine gd_ald1 dX5_takeName_29 (by decide) ?_
          refine gd_cV0i dX5_takeName_30 ct_5_84 rc_102 ⟨Nat.le_of_ble_eq_true rfl, Nat.le_of_ble_eq_true rfl⟩ (Nat.le_of_ble_eq_true rfl) (Nat.le_of_ble_eq_true rfl) (j_len2 _) ?_
          refine gd_icmp_ge_f 63 dX5_takeName_33 (by decide) (by exact nI_ge (by omega) (by omega)) ?_
          refine gd_ald0 dX5_takeName_36 (by decide) ?_
          refine gd_getR (r := 52) dX5_takeName_37 fl_5_9 rfl rfl rfl (by decide) ?_
          refine gd_ald0 dX5_takeName_40 (by decide) ?_
          refine gd_getI dX5_takeName_41 fl_5_41 rfl rfl ?_
          rw [t.2.2.1]
          refine gd_ild2 dX5_takeName_44 ?_
          refine gd_iadd dX5_takeName_45 ?_
          refine gd_iald (n := 120) dX5_takeName_46 rfl (by decide) (by rw [nI_add]) (by omega) ?_
          rw [(t.1.2.2 _ (by omega)).1]
          refine gd_ald1 dX5_takeName_47 (by decide) ?_
          refine gd_ild2 dX5_takeName_48 ?_
          refine gd_cV1i dX5_takeName_49 ct_5_89 rc_102 ⟨Nat.le_of_ble_eq_true rfl, Nat.le_of_ble_eq_true rfl⟩ (Nat.le_of_ble_eq_true rfl) (Nat.le_of_ble_eq_true rfl) (j_at2 (by omega) _) ?_
          refine gd_icmp_eq_f 57 dX5_takeName_52 (by decide) (fun z => ne ((nI_eq (by omega) (by omega)).mp z)) ?_
          refine gd_ic0 dX5_takeName_55 ?_
          refine gd_iret dX5_takeName_56 rfl (by first | rfl | decide | exact nar_bi _ | assumption) ?_
          rfl
        · intro i hi ih
          have c1 := ch2_lt i
          have ai : b (tkS b N e + i) = ch2 i := a i hi
          refine gd_ild2 dX5_takeName_28 ?_
          refine gd_ald1 dX5_takeName_29 (by decide) ?_
          refine gd_cV0i dX5_takeName_30 ct_5_84 rc_102 ⟨Nat.le_of_ble_eq_true rfl, Nat.le_of_ble_eq_true rfl⟩ (Nat.le_of_ble_eq_true rfl) (Nat.le_of_ble_eq_true rfl) (j_len2 _) ?_
          refine gd_icmp_ge_f 63 dX5_takeName_33 (by decide) (by exact nI_ge (by omega) (by omega)) ?_
          refine gd_ald0 dX5_takeName_36 (by decide) ?_
          refine gd_getR (r := 52) dX5_takeName_37 fl_5_9 rfl rfl rfl (by decide) ?_
          refine gd_ald0 dX5_takeName_40 (by decide) ?_
          refine gd_getI dX5_takeName_41 fl_5_41 rfl rfl ?_
          rw [t.2.2.1]
          refine gd_ild2 dX5_takeName_44 ?_
          refine gd_iadd dX5_takeName_45 ?_
          refine gd_iald (n := 120) dX5_takeName_46 rfl (by decide) (by rw [nI_add]) (by omega) ?_
          rw [(t.1.2.2 _ (by omega)).1]
          refine gd_ald1 dX5_takeName_47 (by decide) ?_
          refine gd_ild2 dX5_takeName_48 ?_
          refine gd_cV1i dX5_takeName_49 ct_5_89 rc_102 ⟨Nat.le_of_ble_eq_true rfl, Nat.le_of_ble_eq_true rfl⟩ (Nat.le_of_ble_eq_true rfl) (Nat.le_of_ble_eq_true rfl) (j_at2 (by omega) _) ?_
          refine gd_icmp_eq_t 57 dX5_takeName_52 (by decide) (by rw [ai]) ?_
          refine gd_iinc2 (b := nI 1) dX5_takeName_57 (by decide) rfl ?_
          rw [nI_add]
          refine gd_goto 28 dX5_takeName_60 (by decide) ?_
          exact ih
    · refine gd_ald0 dX5_takeName_0 (by decide) ?_
      refine gd_getI dX5_takeName_1 fl_5_48 rfl rfl ?_
      rw [t.2.2.2.2.1]
      refine gd_ic1 dX5_takeName_4 ?_
      refine gd_icmp_ne_f 24 dX5_takeName_5 (by decide) (by rw [m1]) ?_
      refine gd_ald0 dX5_takeName_8 (by decide) ?_
      refine gd_getI dX5_takeName_9 fl_5_31 rfl rfl ?_
      rw [t.2.2.2.1]
      refine gd_ald0 dX5_takeName_12 (by decide) ?_
      refine gd_getI dX5_takeName_13 fl_5_41 rfl rfl ?_
      rw [t.2.2.1]
      refine gd_isub dX5_takeName_16 ?_
      rw [pk_sub (by omega)]
      refine gd_ald1 dX5_takeName_17 (by decide) ?_
      refine gd_cV0i dX5_takeName_18 ct_5_84 rc_102 ⟨Nat.le_of_ble_eq_true rfl, Nat.le_of_ble_eq_true rfl⟩ (Nat.le_of_ble_eq_true rfl) (Nat.le_of_ble_eq_true rfl) (j_len2 _) ?_
      refine gd_icmp_eq_f 26 dX5_takeName_21 (by decide) (by exact fun z => absurd ((nI_eq (by omega) (by omega)).mp z) (by omega)) ?_
      refine gd_ic0 dX5_takeName_24 ?_
      refine gd_iret dX5_takeName_25 rfl (by first | rfl | decide | exact nar_bi _ | assumption) ?_
      rfl
  · refine gd_ald0 dX5_takeName_0 (by decide) ?_
    refine gd_getI dX5_takeName_1 fl_5_48 rfl rfl ?_
    rw [t.2.2.2.2.1]
    refine gd_ic1 dX5_takeName_4 ?_
    refine gd_icmp_ne_t 24 dX5_takeName_5 (by decide) (by exact fun z => absurd ((nI_eq (by omega) (by omega)).mp z) (by omega)) ?_
    refine gd_ic0 dX5_takeName_24 ?_
    refine gd_iret dX5_takeName_25 rfl (by first | rfl | decide | exact nar_bi _ | assumption) ?_
    rfl
theorem ch3_lt (i : Nat) : ch3 i < 256 := by
  by_cases q : i < 4
  · rcases (show i = 0 ∨ i = 1 ∨ i = 2 ∨ i = 3 by omega) with rfl | rfl | rfl | rfl <;> decide
  · obtain ⟨z, rfl⟩ : ∃ z, i = z + 4 := ⟨i - 4, by omega⟩
    exact (by decide : (0 : Nat) < 256)
theorem c_takeName3_t {h : Hp} {b : Nat → Nat} {N e : Nat} (t : CT h b N e) (m : isNm b N e ch3 4) : Gd mX5_takeName 0 [.ref 51, .ref 103, .null] [] h (some (.int (nI 1)), hTk h b N (tkX b N e)) := by
  have hN := t.1.2.1
  have sx := tkX_ok (b := b) t.1.2.1 t.2.1
  obtain ⟨m1, m2, m3⟩ := m
  have key := loopG (P := fun i => Gd mX5_takeName 28 [.ref 51, .ref 103, .int (nI i)] [] h (some (.int (nI 1)), hTk h b N (tkX b N e))) (n := 4) ?_ ?_ 0 (by omega)
  · refine gd_ald0 dX5_takeName_0 (by decide) ?_
    refine gd_getI dX5_takeName_1 fl_5_48 rfl rfl ?_
    rw [t.2.2.2.2.1]
    refine gd_ic1 dX5_takeName_4 ?_
    refine gd_icmp_ne_f 24 dX5_takeName_5 (by decide) (by rw [m1]) ?_
    refine gd_ald0 dX5_takeName_8 (by decide) ?_
    refine gd_getI dX5_takeName_9 fl_5_31 rfl rfl ?_
    rw [t.2.2.2.1]
    refine gd_ald0 dX5_takeName_12 (by decide) ?_
    refine gd_getI dX5_takeName_13 fl_5_41 rfl rfl ?_
    rw [t.2.2.1]
    refine gd_isub dX5_takeName_16 ?_
    rw [pk_sub (by omega)]
    refine gd_ald1 dX5_takeName_17 (by decide) ?_
    refine gd_cV0i dX5_takeName_18 ct_5_84 rc_103 ⟨Nat.le_of_ble_eq_true rfl, Nat.le_of_ble_eq_true rfl⟩ (Nat.le_of_ble_eq_true rfl) (Nat.le_of_ble_eq_true rfl) (j_len3 _) ?_
    refine gd_icmp_eq_t 26 dX5_takeName_21 (by decide) (by exact (nI_eq (by omega) (by omega)).mpr (by omega)) ?_
    refine gd_ic0 dX5_takeName_26 ?_
    refine gd_ist2 dX5_takeName_27 rfl ?_
    exact key
  · refine gd_ild2 dX5_takeName_28 ?_
    refine gd_ald1 dX5_takeName_29 (by decide) ?_
    refine gd_cV0i dX5_takeName_30 ct_5_84 rc_103 ⟨Nat.le_of_ble_eq_true rfl, Nat.le_of_ble_eq_true rfl⟩ (Nat.le_of_ble_eq_true rfl) (Nat.le_of_ble_eq_true rfl) (j_len3 _) ?_
    refine gd_icmp_ge_t 63 dX5_takeName_33 (by decide) (by exact nI_le (by omega) (by omega)) ?_
    refine gd_ald0 dX5_takeName_63 (by decide) ?_
    refine gd_cV0v dX5_takeName_64 ct_5_34 rc_51 ⟨Nat.le_of_ble_eq_true rfl, Nat.le_of_ble_eq_true rfl⟩ (Nat.le_of_ble_eq_true rfl) (Nat.le_of_ble_eq_true rfl) (c_adv t) ?_
    refine gd_ic1 dX5_takeName_67 ?_
    refine gd_iret dX5_takeName_68 rfl (by first | rfl | decide | exact nar_bi _ | assumption) ?_
    rfl
  · intro i hi ih
    have c1 := ch3_lt i
    refine gd_ild2 dX5_takeName_28 ?_
    refine gd_ald1 dX5_takeName_29 (by decide) ?_
    refine gd_cV0i dX5_takeName_30 ct_5_84 rc_103 ⟨Nat.le_of_ble_eq_true rfl, Nat.le_of_ble_eq_true rfl⟩ (Nat.le_of_ble_eq_true rfl) (Nat.le_of_ble_eq_true rfl) (j_len3 _) ?_
    refine gd_icmp_ge_f 63 dX5_takeName_33 (by decide) (by exact nI_ge (by omega) (by omega)) ?_
    refine gd_ald0 dX5_takeName_36 (by decide) ?_
    refine gd_getR (r := 52) dX5_takeName_37 fl_5_9 rfl rfl rfl (by decide) ?_
    refine gd_ald0 dX5_takeName_40 (by decide) ?_
    refine gd_getI dX5_takeName_41 fl_5_41 rfl rfl ?_
    rw [t.2.2.1]
    refine gd_ild2 dX5_takeName_44 ?_
    refine gd_iadd dX5_takeName_45 ?_
    refine gd_iald (n := 120) dX5_takeName_46 rfl (by decide) (by rw [nI_add]) (by omega) ?_
    rw [(t.1.2.2 _ (by omega)).1]
    refine gd_ald1 dX5_takeName_47 (by decide) ?_
    refine gd_ild2 dX5_takeName_48 ?_
    refine gd_cV1i dX5_takeName_49 ct_5_89 rc_103 ⟨Nat.le_of_ble_eq_true rfl, Nat.le_of_ble_eq_true rfl⟩ (Nat.le_of_ble_eq_true rfl) (Nat.le_of_ble_eq_true rfl) (j_at3 (by omega) _) ?_
    refine gd_icmp_eq_t 57 dX5_takeName_52 (by decide) (by rw [m3 i hi]) ?_
    refine gd_iinc2 (b := nI 1) dX5_takeName_57 (by decide) rfl ?_
    rw [nI_add]
    refine gd_goto 28 dX5_takeName_60 (by decide) ?_
    exact ih
theorem c_takeName3_f {h : Hp} {b : Nat → Nat} {N e : Nat} (t : CT h b N e) (m : ¬ isNm b N e ch3 4) : Gd mX5_takeName 0 [.ref 51, .ref 103, .null] [] h (some (.int (nI 0)), h) := by
  have hN := t.1.2.1
  have sx := tkX_ok (b := b) t.1.2.1 t.2.1
  have kl := tkK_lt (b := b) (N := N) (e := e)
  by_cases m1 : tkK b N e = 1
  · by_cases m2 : tkX b N e - tkS b N e = 4
    · rcases frst (fun i => b (tkS b N e + i)) ch3 4 with a | ⟨k, hk, a, ne⟩
      · exact absurd ⟨m1, m2, a⟩ m
      · have key := loopG (P := fun i => Gd mX5_takeName 28 [.ref 51, .ref 103, .int (nI i)] [] h (some (.int (nI 0)), h)) (n := k) ?_ ?_ 0 (by omega)
        · refine gd_ald0 dX5_takeName_0 (by decide) ?_
          refine gd_getI dX5_takeName_1 fl_5_48 rfl rfl ?_
          rw [t.2.2.2.2.1]
          refine gd_ic1 dX5_takeName_4 ?_
          refine gd_icmp_ne_f 24 dX5_takeName_5 (by decide) (by rw [m1]) ?_
          refine gd_ald0 dX5_takeName_8 (by decide) ?_
          refine gd_getI dX5_takeName_9 fl_5_31 rfl rfl ?_
          rw [t.2.2.2.1]
          refine gd_ald0 dX5_takeName_12 (by decide) ?_
          refine gd_getI dX5_takeName_13 fl_5_41 rfl rfl ?_
          rw [t.2.2.1]
          refine gd_isub dX5_takeName_16 ?_
          rw [pk_sub (by omega)]
          refine gd_ald1 dX5_takeName_17 (by decide) ?_
          refine gd_cV0i dX5_takeName_18 ct_5_84 rc_103 ⟨Nat.le_of_ble_eq_true rfl, Nat.le_of_ble_eq_true rfl⟩ (Nat.le_of_ble_eq_true rfl) (Nat.le_of_ble_eq_true rfl) (j_len3 _) ?_
          refine gd_icmp_eq_t 26 dX5_takeName_21 (by decide) (by exact (nI_eq (by omega) (by omega)).mpr (by omega)) ?_
          refine gd_ic0 dX5_takeName_26 ?_
          refine gd_ist2 dX5_takeName_27 rfl ?_
          exact key
        · have c1 := ch3_lt k
          have c2 := (t.1.2.2 (tkS b N e + k) (by omega)).2
          refine gd_ild2 dX5_takeName_28 ?_
          refine gd_ald1 dX5_takeName_29 (by decide) ?_
          refine gd_cV0i dX5_takeName_30 ct_5_84 rc_103 ⟨Nat.le_of_ble_eq_true rfl, Nat.le_of_ble_eq_true rfl⟩ (Nat.le_of_ble_eq_true rfl) (Nat.le_of_ble_eq_true rfl) (j_len3 _) ?_
          refine gd_icmp_ge_f 63 dX5_takeName_33 (by decide) (by exact nI_ge (by omega) (by omega)) ?_
          refine gd_ald0 dX5_takeName_36 (by decide) ?_
          refine gd_getR (r := 52) dX5_takeName_37 fl_5_9 rfl rfl rfl (by decide) ?_
          refine gd_ald0 dX5_takeName_40 (by decide) ?_
          refine gd_getI dX5_takeName_41 fl_5_41 rfl rfl ?_
          rw [t.2.2.1]
          refine gd_ild2 dX5_takeName_44 ?_
          refine gd_iadd dX5_takeName_45 ?_
          refine gd_iald (n := 120) dX5_takeName_46 rfl (by decide) (by rw [nI_add]) (by omega) ?_
          rw [(t.1.2.2 _ (by omega)).1]
          refine gd_ald1 dX5_takeName_47 (by decide) ?_
          refine gd_ild2 dX5_takeName_48 ?_
          refine gd_cV1i dX5_takeName_49 ct_5_89 rc_103 ⟨Nat.le_of_ble_eq_true rfl, Nat.le_of_ble_eq_true rfl⟩ (Nat.le_of_ble_eq_true rfl) (Nat.le_of_ble_eq_true rfl) (j_at3 (by omega) _) ?_
          refine gd_icmp_eq_f 57 dX5_takeName_52 (by decide) (fun z => ne ((nI_eq (by omega) (by omega)).mp z)) ?_
          refine gd_ic0 dX5_takeName_55 ?_
          refine gd_iret dX5_takeName_56 rfl (by first | rfl | decide | exact nar_bi _ | assumption) ?_
          rfl
        · intro i hi ih
          have c1 := ch3_lt i
          have ai : b (tkS b N e + i) = ch3 i := a i hi
          refine gd_ild2 dX5_takeName_28 ?_
          refine gd_ald1 dX5_takeName_29 (by decide) ?_
          refine gd_cV0i dX5_takeName_30 ct_5_84 rc_103 ⟨Nat.le_of_ble_eq_true rfl, Nat.le_of_ble_eq_true rfl⟩ (Nat.le_of_ble_eq_true rfl) (Nat.le_of_ble_eq_true rfl) (j_len3 _) ?_
          refine gd_icmp_ge_f 63 dX5_takeName_33 (by decide) (by exact nI_ge (by omega) (by omega)) ?_
          refine gd_ald0 dX5_takeName_36 (by decide) ?_
          refine gd_getR (r := 52) dX5_takeName_37 fl_5_9 rfl rfl rfl (by decide) ?_
          refine gd_ald0 dX5_takeName_40 (by decide) ?_
          refine gd_getI dX5_takeName_41 fl_5_41 rfl rfl ?_
          rw [t.2.2.1]
          refine gd_ild2 dX5_takeName_44 ?_
          refine gd_iadd dX5_takeName_45 ?_
          refine gd_iald (n := 120) dX5_takeName_46 rfl (by decide) (by rw [nI_add]) (by omega) ?_
          rw [(t.1.2.2 _ (by omega)).1]
          refine gd_ald1 dX5_takeName_47 (by decide) ?_
          refine gd_ild2 dX5_takeName_48 ?_
          refine gd_cV1i dX5_takeName_49 ct_5_89 rc_103 ⟨Nat.le_of_ble_eq_true rfl, Nat.le_of_ble_eq_true rfl⟩ (Nat.le_of_ble_eq_true rfl) (Nat.le_of_ble_eq_true rfl) (j_at3 (by omega) _) ?_
          refine gd_icmp_eq_t 57 dX5_takeName_52 (by decide) (by rw [ai]) ?_
          refine gd_iinc2 (b := nI 1) dX5_takeName_57 (by decide) rfl ?_
          rw [nI_add]
          refine gd_goto 28 dX5_takeName_60 (by decide) ?_
          exact ih
    · refine gd_ald0 dX5_takeName_0 (by decide) ?_
      refine gd_getI dX5_takeName_1 fl_5_48 rfl rfl ?_
      rw [t.2.2.2.2.1]
      refine gd_ic1 dX5_takeName_4 ?_
      refine gd_icmp_ne_f 24 dX5_takeName_5 (by decide) (by rw [m1]) ?_
      refine gd_ald0 dX5_takeName_8 (by decide) ?_
      refine gd_getI dX5_takeName_9 fl_5_31 rfl rfl ?_
      rw [t.2.2.2.1]
      refine gd_ald0 dX5_takeName_12 (by decide) ?_
      refine gd_getI dX5_takeName_13 fl_5_41 rfl rfl ?_
      rw [t.2.2.1]
      refine gd_isub dX5_takeName_16 ?_
      rw [pk_sub (by omega)]
      refine gd_ald1 dX5_takeName_17 (by decide) ?_
      refine gd_cV0i dX5_takeName_18 ct_5_84 rc_103 ⟨Nat.le_of_ble_eq_true rfl, Nat.le_of_ble_eq_true rfl⟩ (Nat.le_of_ble_eq_true rfl) (Nat.le_of_ble_eq_true rfl) (j_len3 _) ?_
      refine gd_icmp_eq_f 26 dX5_takeName_21 (by decide) (by exact fun z => absurd ((nI_eq (by omega) (by omega)).mp z) (by omega)) ?_
      refine gd_ic0 dX5_takeName_24 ?_
      refine gd_iret dX5_takeName_25 rfl (by first | rfl | decide | exact nar_bi _ | assumption) ?_
      rfl
  · refine gd_ald0 dX5_takeName_0 (by decide) ?_
    refine gd_getI dX5_takeName_1 fl_5_48 rfl rfl ?_
    rw [t.2.2.2.2.1]
    refine gd_ic1 dX5_takeName_4 ?_
    refine gd_icmp_ne_t 24 dX5_takeName_5 (by decide) (by exact fun z => absurd ((nI_eq (by omega) (by omega)).mp z) (by omega)) ?_
    refine gd_ic0 dX5_takeName_24 ?_
    refine gd_iret dX5_takeName_25 rfl (by first | rfl | decide | exact nar_bi _ | assumption) ?_
    rfl
theorem ch4_lt (i : Nat) : ch4 i < 256 := by
  by_cases q : i < 5
  · rcases (show i = 0 ∨ i = 1 ∨ i = 2 ∨ i = 3 ∨ i = 4 by omega) with rfl | rfl | rfl | rfl | rfl <;> decide
  · obtain ⟨z, rfl⟩ : ∃ z, i = z + 5 := ⟨i - 5, by omega⟩
    exact (by decide : (0 : Nat) < 256)
theorem c_takeName4_t {h : Hp} {b : Nat → Nat} {N e : Nat} (t : CT h b N e) (m : isNm b N e ch4 5) : Gd mX5_takeName 0 [.ref 51, .ref 104, .null] [] h (some (.int (nI 1)), hTk h b N (tkX b N e)) := by
  have hN := t.1.2.1
  have sx := tkX_ok (b := b) t.1.2.1 t.2.1
  obtain ⟨m1, m2, m3⟩ := m
  have key := loopG (P := fun i => Gd mX5_takeName 28 [.ref 51, .ref 104, .int (nI i)] [] h (some (.int (nI 1)), hTk h b N (tkX b N e))) (n := 5) ?_ ?_ 0 (by omega)
  · refine gd_ald0 dX5_takeName_0 (by decide) ?_
    refine gd_getI dX5_takeName_1 fl_5_48 rfl rfl ?_
    rw [t.2.2.2.2.1]
    refine gd_ic1 dX5_takeName_4 ?_
    refine gd_icmp_ne_f 24 dX5_takeName_5 (by decide) (by rw [m1]) ?_
    refine gd_ald0 dX5_takeName_8 (by decide) ?_
    refine gd_getI dX5_takeName_9 fl_5_31 rfl rfl ?_
    rw [t.2.2.2.1]
    refine gd_ald0 dX5_takeName_12 (by decide) ?_
    refine gd_getI dX5_takeName_13 fl_5_41 rfl rfl ?_
    rw [t.2.2.1]
    refine gd_isub dX5_takeName_16 ?_
    rw [pk_sub (by omega)]
    refine gd_ald1 dX5_takeName_17 (by decide) ?_
    refine gd_cV0i dX5_takeName_18 ct_5_84 rc_104 ⟨Nat.le_of_ble_eq_true rfl, Nat.le_of_ble_eq_true rfl⟩ (Nat.le_of_ble_eq_true rfl) (Nat.le_of_ble_eq_true rfl) (j_len4 _) ?_
    refine gd_icmp_eq_t 26 dX5_takeName_21 (by decide) (by exact (nI_eq (by omega) (by omega)).mpr (by omega)) ?_
    refine gd_ic0 dX5_takeName_26 ?_
    refine gd_ist2 dX5_takeName_27 rfl ?_
    exact key
  · refine gd_ild2 dX5_takeName_28 ?_
    refine gd_ald1 dX5_takeName_29 (by decide) ?_
    refine gd_cV0i dX5_takeName_30 ct_5_84 rc_104 ⟨Nat.le_of_ble_eq_true rfl, Nat.le_of_ble_eq_true rfl⟩ (Nat.le_of_ble_eq_true rfl) (Nat.le_of_ble_eq_true rfl) (j_len4 _) ?_
    refine gd_icmp_ge_t 63 dX5_takeName_33 (by decide) (by exact nI_le (by omega) (by omega)) ?_
    refine gd_ald0 dX5_takeName_63 (by decide) ?_
    refine gd_cV0v dX5_takeName_64 ct_5_34 rc_51 ⟨Nat.le_of_ble_eq_true rfl, Nat.le_of_ble_eq_true rfl⟩ (Nat.le_of_ble_eq_true rfl) (Nat.le_of_ble_eq_true rfl) (c_adv t) ?_
    refine gd_ic1 dX5_takeName_67 ?_
    refine gd_iret dX5_takeName_68 rfl (by first | rfl | decide | exact nar_bi _ | assumption) ?_
    rfl
  · intro i hi ih
    have c1 := ch4_lt i
    refine gd_ild2 dX5_takeName_28 ?_
    refine gd_ald1 dX5_takeName_29 (by decide) ?_
    refine gd_cV0i dX5_takeName_30 ct_5_84 rc_104 ⟨Nat.le_of_ble_eq_true rfl, Nat.le_of_ble_eq_true rfl⟩ (Nat.le_of_ble_eq_true rfl) (Nat.le_of_ble_eq_true rfl) (j_len4 _) ?_
    refine gd_icmp_ge_f 63 dX5_takeName_33 (by decide) (by exact nI_ge (by omega) (by omega)) ?_
    refine gd_ald0 dX5_takeName_36 (by decide) ?_
    refine gd_getR (r := 52) dX5_takeName_37 fl_5_9 rfl rfl rfl (by decide) ?_
    refine gd_ald0 dX5_takeName_40 (by decide) ?_
    refine gd_getI dX5_takeName_41 fl_5_41 rfl rfl ?_
    rw [t.2.2.1]
    refine gd_ild2 dX5_takeName_44 ?_
    refine gd_iadd dX5_takeName_45 ?_
    refine gd_iald (n := 120) dX5_takeName_46 rfl (by decide) (by rw [nI_add]) (by omega) ?_
    rw [(t.1.2.2 _ (by omega)).1]
    refine gd_ald1 dX5_takeName_47 (by decide) ?_
    refine gd_ild2 dX5_takeName_48 ?_
    refine gd_cV1i dX5_takeName_49 ct_5_89 rc_104 ⟨Nat.le_of_ble_eq_true rfl, Nat.le_of_ble_eq_true rfl⟩ (Nat.le_of_ble_eq_true rfl) (Nat.le_of_ble_eq_true rfl) (j_at4 (by omega) _) ?_
    refine gd_icmp_eq_t 57 dX5_takeName_52 (by decide) (by rw [m3 i hi]) ?_
    refine gd_iinc2 (b := nI 1) dX5_takeName_57 (by decide) rfl ?_
    rw [nI_add]
    refine gd_goto 28 dX5_takeName_60 (by decide) ?_
    exact ih
theorem c_takeName4_f {h : Hp} {b : Nat → Nat} {N e : Nat} (t : CT h b N e) (m : ¬ isNm b N e ch4 5) : Gd mX5_takeName 0 [.ref 51, .ref 104, .null] [] h (some (.int (nI 0)), h) := by
  have hN := t.1.2.1
  have sx := tkX_ok (b := b) t.1.2.1 t.2.1
  have kl := tkK_lt (b := b) (N := N) (e := e)
  by_cases m1 : tkK b N e = 1
  · by_cases m2 : tkX b N e - tkS b N e = 5
    · rcases frst (fun i => b (tkS b N e + i)) ch4 5 with a | ⟨k, hk, a, ne⟩
      · exact absurd ⟨m1, m2, a⟩ m
      · have key := loopG (P := fun i => Gd mX5_takeName 28 [.ref 51, .ref 104, .int (nI i)] [] h (some (.int (nI 0)), h)) (n := k) ?_ ?_ 0 (by omega)
        · refine gd_ald0 dX5_takeName_0 (by decide) ?_
          refine gd_getI dX5_takeName_1 fl_5_48 rfl rfl ?_
          rw [t.2.2.2.2.1]
          refine gd_ic1 dX5_takeName_4 ?_
          refine gd_icmp_ne_f 24 dX5_takeName_5 (by decide) (by rw [m1]) ?_
          refine gd_ald0 dX5_takeName_8 (by decide) ?_
          refine gd_getI dX5_takeName_9 fl_5_31 rfl rfl ?_
          rw [t.2.2.2.1]
          refine gd_ald0 dX5_takeName_12 (by decide) ?_
          refine gd_getI dX5_takeName_13 fl_5_41 rfl rfl ?_
          rw [t.2.2.1]
          refine gd_isub dX5_takeName_16 ?_
          rw [pk_sub (by omega)]
          refine gd_ald1 dX5_takeName_17 (by decide) ?_
          refine gd_cV0i dX5_takeName_18 ct_5_84 rc_104 ⟨Nat.le_of_ble_eq_true rfl, Nat.le_of_ble_eq_true rfl⟩ (Nat.le_of_ble_eq_true rfl) (Nat.le_of_ble_eq_true rfl) (j_len4 _) ?_
          refine gd_icmp_eq_t 26 dX5_takeName_21 (by decide) (by exact (nI_eq (by omega) (by omega)).mpr (by omega)) ?_
          refine gd_ic0 dX5_takeName_26 ?_
          refine gd_ist2 dX5_takeName_27 rfl ?_
          exact key
        · have c1 := ch4_lt k
          have c2 := (t.1.2.2 (tkS b N e + k) (by omega)).2
          refine gd_ild2 dX5_takeName_28 ?_
          refine gd_ald1 dX5_takeName_29 (by decide) ?_
          refine gd_cV0i dX5_takeName_30 ct_5_84 rc_104 ⟨Nat.le_of_ble_eq_true rfl, Nat.le_of_ble_eq_true rfl⟩ (Nat.le_of_ble_eq_true rfl) (Nat.le_of_ble_eq_true rfl) (j_len4 _) ?_
          refine gd_icmp_ge_f 63 dX5_takeName_33 (by decide) (by exact nI_ge (by omega) (by omega)) ?_
          refine gd_ald0 dX5_takeName_36 (by decide) ?_
          refine gd_getR (r := 52) dX5_takeName_37 fl_5_9 rfl rfl rfl (by decide) ?_
          refine gd_ald0 dX5_takeName_40 (by decide) ?_
          refine gd_getI dX5_takeName_41 fl_5_41 rfl rfl ?_
          rw [t.2.2.1]
          refine gd_ild2 dX5_takeName_44 ?_
          refine gd_iadd dX5_takeName_45 ?_
          refine gd_iald (n := 120) dX5_takeName_46 rfl (by decide) (by rw [nI_add]) (by omega) ?_
          rw [(t.1.2.2 _ (by omega)).1]
          refine gd_ald1 dX5_takeName_47 (by decide) ?_
          refine gd_ild2 dX5_takeName_48 ?_
          refine gd_cV1i dX5_takeName_49 ct_5_89 rc_104 ⟨Nat.le_of_ble_eq_true rfl, Nat.le_of_ble_eq_true rfl⟩ (Nat.le_of_ble_eq_true rfl) (Nat.le_of_ble_eq_true rfl) (j_at4 (by omega) _) ?_
          refine gd_icmp_eq_f 57 dX5_takeName_52 (by decide) (fun z => ne ((nI_eq (by omega) (by omega)).mp z)) ?_
          refine gd_ic0 dX5_takeName_55 ?_
          refine gd_iret dX5_takeName_56 rfl (by first | rfl | decide | exact nar_bi _ | assumption) ?_
          rfl
        · intro i hi ih
          have c1 := ch4_lt i
          have ai : b (tkS b N e + i) = ch4 i := a i hi
          refine gd_ild2 dX5_takeName_28 ?_
          refine gd_ald1 dX5_takeName_29 (by decide) ?_
          refine gd_cV0i dX5_takeName_30 ct_5_84 rc_104 ⟨Nat.le_of_ble_eq_true rfl, Nat.le_of_ble_eq_true rfl⟩ (Nat.le_of_ble_eq_true rfl) (Nat.le_of_ble_eq_true rfl) (j_len4 _) ?_
          refine gd_icmp_ge_f 63 dX5_takeName_33 (by decide) (by exact nI_ge (by omega) (by omega)) ?_
          refine gd_ald0 dX5_takeName_36 (by decide) ?_
          refine gd_getR (r := 52) dX5_takeName_37 fl_5_9 rfl rfl rfl (by decide) ?_
          refine gd_ald0 dX5_takeName_40 (by decide) ?_
          refine gd_getI dX5_takeName_41 fl_5_41 rfl rfl ?_
          rw [t.2.2.1]
          refine gd_ild2 dX5_takeName_44 ?_
          refine gd_iadd dX5_takeName_45 ?_
          refine gd_iald (n := 120) dX5_takeName_46 rfl (by decide) (by rw [nI_add]) (by omega) ?_
          rw [(t.1.2.2 _ (by omega)).1]
          refine gd_ald1 dX5_takeName_47 (by decide) ?_
          refine gd_ild2 dX5_takeName_48 ?_
          refine gd_cV1i dX5_takeName_49 ct_5_89 rc_104 ⟨Nat.le_of_ble_eq_true rfl, Nat.le_of_ble_eq_true rfl⟩ (Nat.le_of_ble_eq_true rfl) (Nat.le_of_ble_eq_true rfl) (j_at4 (by omega) _) ?_
          refine gd_icmp_eq_t 57 dX5_takeName_52 (by decide) (by rw [ai]) ?_
          refine gd_iinc2 (b := nI 1) dX5_takeName_57 (by decide) rfl ?_
          rw [nI_add]
          refine gd_goto 28 dX5_takeName_60 (by decide) ?_
          exact ih
    · refine gd_ald0 dX5_takeName_0 (by decide) ?_
      refine gd_getI dX5_takeName_1 fl_5_48 rfl rfl ?_
      rw [t.2.2.2.2.1]
      refine gd_ic1 dX5_takeName_4 ?_
      refine gd_icmp_ne_f 24 dX5_takeName_5 (by decide) (by rw [m1]) ?_
      refine gd_ald0 dX5_takeName_8 (by decide) ?_
      refine gd_getI dX5_takeName_9 fl_5_31 rfl rfl ?_
      rw [t.2.2.2.1]
      refine gd_ald0 dX5_takeName_12 (by decide) ?_
      refine gd_getI dX5_takeName_13 fl_5_41 rfl rfl ?_
      rw [t.2.2.1]
      refine gd_isub dX5_takeName_16 ?_
      rw [pk_sub (by omega)]
      refine gd_ald1 dX5_takeName_17 (by decide) ?_
      refine gd_cV0i dX5_takeName_18 ct_5_84 rc_104 ⟨Nat.le_of_ble_eq_true rfl, Nat.le_of_ble_eq_true rfl⟩ (Nat.le_of_ble_eq_true rfl) (Nat.le_of_ble_eq_true rfl) (j_len4 _) ?_
      refine gd_icmp_eq_f 26 dX5_takeName_21 (by decide) (by exact fun z => absurd ((nI_eq (by omega) (by omega)).mp z) (by omega)) ?_
      refine gd_ic0 dX5_takeName_24 ?_
      refine gd_iret dX5_takeName_25 rfl (by first | rfl | decide | exact nar_bi _ | assumption) ?_
      rfl
  · refine gd_ald0 dX5_takeName_0 (by decide) ?_
    refine gd_getI dX5_takeName_1 fl_5_48 rfl rfl ?_
    rw [t.2.2.2.2.1]
    refine gd_ic1 dX5_takeName_4 ?_
    refine gd_icmp_ne_t 24 dX5_takeName_5 (by decide) (by exact fun z => absurd ((nI_eq (by omega) (by omega)).mp z) (by omega)) ?_
    refine gd_ic0 dX5_takeName_24 ?_
    refine gd_iret dX5_takeName_25 rfl (by first | rfl | decide | exact nar_bi _ | assumption) ?_
    rfl
theorem ch5_lt (i : Nat) : ch5 i < 256 := by
  by_cases q : i < 6
  · rcases (show i = 0 ∨ i = 1 ∨ i = 2 ∨ i = 3 ∨ i = 4 ∨ i = 5 by omega) with rfl | rfl | rfl | rfl | rfl | rfl <;> decide
  · obtain ⟨z, rfl⟩ : ∃ z, i = z + 6 := ⟨i - 6, by omega⟩
    exact (by decide : (0 : Nat) < 256)
theorem c_takeName5_t {h : Hp} {b : Nat → Nat} {N e : Nat} (t : CT h b N e) (m : isNm b N e ch5 6) : Gd mX5_takeName 0 [.ref 51, .ref 105, .null] [] h (some (.int (nI 1)), hTk h b N (tkX b N e)) := by
  have hN := t.1.2.1
  have sx := tkX_ok (b := b) t.1.2.1 t.2.1
  obtain ⟨m1, m2, m3⟩ := m
  have key := loopG (P := fun i => Gd mX5_takeName 28 [.ref 51, .ref 105, .int (nI i)] [] h (some (.int (nI 1)), hTk h b N (tkX b N e))) (n := 6) ?_ ?_ 0 (by omega)
  · refine gd_ald0 dX5_takeName_0 (by decide) ?_
    refine gd_getI dX5_takeName_1 fl_5_48 rfl rfl ?_
    rw [t.2.2.2.2.1]
    refine gd_ic1 dX5_takeName_4 ?_
    refine gd_icmp_ne_f 24 dX5_takeName_5 (by decide) (by rw [m1]) ?_
    refine gd_ald0 dX5_takeName_8 (by decide) ?_
    refine gd_getI dX5_takeName_9 fl_5_31 rfl rfl ?_
    rw [t.2.2.2.1]
    refine gd_ald0 dX5_takeName_12 (by decide) ?_
    refine gd_getI dX5_takeName_13 fl_5_41 rfl rfl ?_
    rw [t.2.2.1]
    refine gd_isub dX5_takeName_16 ?_
    rw [pk_sub (by omega)]
    refine gd_ald1 dX5_takeName_17 (by decide) ?_
    refine gd_cV0i dX5_takeName_18 ct_5_84 rc_105 ⟨Nat.le_of_ble_eq_true rfl, Nat.le_of_ble_eq_true rfl⟩ (Nat.le_of_ble_eq_true rfl) (Nat.le_of_ble_eq_true rfl) (j_len5 _) ?_
    refine gd_icmp_eq_t 26 dX5_takeName_21 (by decide) (by exact (nI_eq (by omega) (by omega)).mpr (by omega)) ?_
    refine gd_ic0 dX5_takeName_26 ?_
    refine gd_ist2 dX5_takeName_27 rfl ?_
    exact key
  · refine gd_ild2 dX5_takeName_28 ?_
    refine gd_ald1 dX5_takeName_29 (by decide) ?_
    refine gd_cV0i dX5_takeName_30 ct_5_84 rc_105 ⟨Nat.le_of_ble_eq_true rfl, Nat.le_of_ble_eq_true rfl⟩ (Nat.le_of_ble_eq_true rfl) (Nat.le_of_ble_eq_true rfl) (j_len5 _) ?_
    refine gd_icmp_ge_t 63 dX5_takeName_33 (by decide) (by exact nI_le (by omega) (by omega)) ?_
    refine gd_ald0 dX5_takeName_63 (by decide) ?_
    refine gd_cV0v dX5_takeName_64 ct_5_34 rc_51 ⟨Nat.le_of_ble_eq_true rfl, Nat.le_of_ble_eq_true rfl⟩ (Nat.le_of_ble_eq_true rfl) (Nat.le_of_ble_eq_true rfl) (c_adv t) ?_
    refine gd_ic1 dX5_takeName_67 ?_
    refine gd_iret dX5_takeName_68 rfl (by first | rfl | decide | exact nar_bi _ | assumption) ?_
    rfl
  · intro i hi ih
    have c1 := ch5_lt i
    refine gd_ild2 dX5_takeName_28 ?_
    refine gd_ald1 dX5_takeName_29 (by decide) ?_
    refine gd_cV0i dX5_takeName_30 ct_5_84 rc_105 ⟨Nat.le_of_ble_eq_true rfl, Nat.le_of_ble_eq_true rfl⟩ (Nat.le_of_ble_eq_true rfl) (Nat.le_of_ble_eq_true rfl) (j_len5 _) ?_
    refine gd_icmp_ge_f 63 dX5_takeName_33 (by decide) (by exact nI_ge (by omega) (by omega)) ?_
    refine gd_ald0 dX5_takeName_36 (by decide) ?_
    refine gd_getR (r := 52) dX5_takeName_37 fl_5_9 rfl rfl rfl (by decide) ?_
    refine gd_ald0 dX5_takeName_40 (by decide) ?_
    refine gd_getI dX5_takeName_41 fl_5_41 rfl rfl ?_
    rw [t.2.2.1]
    refine gd_ild2 dX5_takeName_44 ?_
    refine gd_iadd dX5_takeName_45 ?_
    refine gd_iald (n := 120) dX5_takeName_46 rfl (by decide) (by rw [nI_add]) (by omega) ?_
    rw [(t.1.2.2 _ (by omega)).1]
    refine gd_ald1 dX5_takeName_47 (by decide) ?_
    refine gd_ild2 dX5_takeName_48 ?_
    refine gd_cV1i dX5_takeName_49 ct_5_89 rc_105 ⟨Nat.le_of_ble_eq_true rfl, Nat.le_of_ble_eq_true rfl⟩ (Nat.le_of_ble_eq_true rfl) (Nat.le_of_ble_eq_true rfl) (j_at5 (by omega) _) ?_
    refine gd_icmp_eq_t 57 dX5_takeName_52 (by decide) (by rw [m3 i hi]) ?_
    refine gd_iinc2 (b := nI 1) dX5_takeName_57 (by decide) rfl ?_
    rw [nI_add]
    refine gd_goto 28 dX5_takeName_60 (by decide) ?_
    exact ih
theorem c_takeName5_f {h : Hp} {b : Nat → Nat} {N e : Nat} (t : CT h b N e) (m : ¬ isNm b N e ch5 6) : Gd mX5_takeName 0 [.ref 51, .ref 105, .null] [] h (some (.int (nI 0)), h) := by
  have hN := t.1.2.1
  have sx := tkX_ok (b := b) t.1.2.1 t.2.1
  have kl := tkK_lt (b := b) (N := N) (e := e)
  by_cases m1 : tkK b N e = 1
  · by_cases m2 : tkX b N e - tkS b N e = 6
    · rcases frst (fun i => b (tkS b N e + i)) ch5 6 with a | ⟨k, hk, a, ne⟩
      · exact absurd ⟨m1, m2, a⟩ m
      · have key := loopG (P := fun i => Gd mX5_takeName 28 [.ref 51, .ref 105, .int (nI i)] [] h (some (.int (nI 0)), h)) (n := k) ?_ ?_ 0 (by omega)
        · refine gd_ald0 dX5_takeName_0 (by decide) ?_
          refine gd_getI dX5_takeName_1 fl_5_48 rfl rfl ?_
          rw [t.2.2.2.2.1]
          refine gd_ic1 dX5_takeName_4 ?_
          refine gd_icmp_ne_f 24 dX5_takeName_5 (by decide) (by rw [m1]) ?_
          refine gd_ald0 dX5_takeName_8 (by decide) ?_
          refine gd_getI dX5_takeName_9 fl_5_31 rfl rfl ?_
          rw [t.2.2.2.1]
          refine gd_ald0 dX5_takeName_12 (by decide) ?_
          refine gd_getI dX5_takeName_13 fl_5_41 rfl rfl ?_
          rw [t.2.2.1]
          refine gd_isub dX5_takeName_16 ?_
          rw [pk_sub (by omega)]
          refine gd_ald1 dX5_takeName_17 (by decide) ?_
          refine gd_cV0i dX5_takeName_18 ct_5_84 rc_105 ⟨Nat.le_of_ble_eq_true rfl, Nat.le_of_ble_eq_true rfl⟩ (Nat.le_of_ble_eq_true rfl) (Nat.le_of_ble_eq_true rfl) (j_len5 _) ?_
          refine gd_icmp_eq_t 26 dX5_takeName_21 (by decide) (by exact (nI_eq (by omega) (by omega)).mpr (by omega)) ?_
          refine gd_ic0 dX5_takeName_26 ?_
          refine gd_ist2 dX5_takeName_27 rfl ?_
          exact key
        · have c1 := ch5_lt k
          have c2 := (t.1.2.2 (tkS b N e + k) (by omega)).2
          refine gd_ild2 dX5_takeName_28 ?_
          refine gd_ald1 dX5_takeName_29 (by decide) ?_
          refine gd_cV0i dX5_takeName_30 ct_5_84 rc_105 ⟨Nat.le_of_ble_eq_true rfl, Nat.le_of_ble_eq_true rfl⟩ (Nat.le_of_ble_eq_true rfl) (Nat.le_of_ble_eq_true rfl) (j_len5 _) ?_
          refine gd_icmp_ge_f 63 dX5_takeName_33 (by decide) (by exact nI_ge (by omega) (by omega)) ?_
          refine gd_ald0 dX5_takeName_36 (by decide) ?_
          refine gd_getR (r := 52) dX5_takeName_37 fl_5_9 rfl rfl rfl (by decide) ?_
          refine gd_ald0 dX5_takeName_40 (by decide) ?_
          refine gd_getI dX5_takeName_41 fl_5_41 rfl rfl ?_
          rw [t.2.2.1]
          refine gd_ild2 dX5_takeName_44 ?_
          refine gd_iadd dX5_takeName_45 ?_
          refine gd_iald (n := 120) dX5_takeName_46 rfl (by decide) (by rw [nI_add]) (by omega) ?_
          rw [(t.1.2.2 _ (by omega)).1]
          refine gd_ald1 dX5_takeName_47 (by decide) ?_
          refine gd_ild2 dX5_takeName_48 ?_
          refine gd_cV1i dX5_takeName_49 ct_5_89 rc_105 ⟨Nat.le_of_ble_eq_true rfl, Nat.le_of_ble_eq_true rfl⟩ (Nat.le_of_ble_eq_true rfl) (Nat.le_of_ble_eq_true rfl) (j_at5 (by omega) _) ?_
          refine gd_icmp_eq_f 57 dX5_takeName_52 (by decide) (fun z => ne ((nI_eq (by omega) (by omega)).mp z)) ?_
          refine gd_ic0 dX5_takeName_55 ?_
          refine gd_iret dX5_takeName_56 rfl (by first | rfl | decide | exact nar_bi _ | assumption) ?_
          rfl
        · intro i hi ih
          have c1 := ch5_lt i
          have ai : b (tkS b N e + i) = ch5 i := a i hi
          refine gd_ild2 dX5_takeName_28 ?_
          refine gd_ald1 dX5_takeName_29 (by decide) ?_
          refine gd_cV0i dX5_takeName_30 ct_5_84 rc_105 ⟨Nat.le_of_ble_eq_true rfl, Nat.le_of_ble_eq_true rfl⟩ (Nat.le_of_ble_eq_true rfl) (Nat.le_of_ble_eq_true rfl) (j_len5 _) ?_
          refine gd_icmp_ge_f 63 dX5_takeName_33 (by decide) (by exact nI_ge (by omega) (by omega)) ?_
          refine gd_ald0 dX5_takeName_36 (by decide) ?_
          refine gd_getR (r := 52) dX5_takeName_37 fl_5_9 rfl rfl rfl (by decide) ?_
          refine gd_ald0 dX5_takeName_40 (by decide) ?_
          refine gd_getI dX5_takeName_41 fl_5_41 rfl rfl ?_
          rw [t.2.2.1]
          refine gd_ild2 dX5_takeName_44 ?_
          refine gd_iadd dX5_takeName_45 ?_
          refine gd_iald (n := 120) dX5_takeName_46 rfl (by decide) (by rw [nI_add]) (by omega) ?_
          rw [(t.1.2.2 _ (by omega)).1]
          refine gd_ald1 dX5_takeName_47 (by decide) ?_
          refine gd_ild2 dX5_takeName_48 ?_
          refine gd_cV1i dX5_takeName_49 ct_5_89 rc_105 ⟨Nat.le_of_ble_eq_true rfl, Nat.le_of_ble_eq_true rfl⟩ (Nat.le_of_ble_eq_true rfl) (Nat.le_of_ble_eq_true rfl) (j_at5 (by omega) _) ?_
          refine gd_icmp_eq_t 57 dX5_takeName_52 (by decide) (by rw [ai]) ?_
          refine gd_iinc2 (b := nI 1) dX5_takeName_57 (by decide) rfl ?_
          rw [nI_add]
          refine gd_goto 28 dX5_takeName_60 (by decide) ?_
          exact ih
    · refine gd_ald0 dX5_takeName_0 (by decide) ?_
      refine gd_getI dX5_takeName_1 fl_5_48 rfl rfl ?_
      rw [t.2.2.2.2.1]
      refine gd_ic1 dX5_takeName_4 ?_
      refine gd_icmp_ne_f 24 dX5_takeName_5 (by decide) (by rw [m1]) ?_
      refine gd_ald0 dX5_takeName_8 (by decide) ?_
      refine gd_getI dX5_takeName_9 fl_5_31 rfl rfl ?_
      rw [t.2.2.2.1]
      refine gd_ald0 dX5_takeName_12 (by decide) ?_
      refine gd_getI dX5_takeName_13 fl_5_41 rfl rfl ?_
      rw [t.2.2.1]
      refine gd_isub dX5_takeName_16 ?_
      rw [pk_sub (by omega)]
      refine gd_ald1 dX5_takeName_17 (by decide) ?_
      refine gd_cV0i dX5_takeName_18 ct_5_84 rc_105 ⟨Nat.le_of_ble_eq_true rfl, Nat.le_of_ble_eq_true rfl⟩ (Nat.le_of_ble_eq_true rfl) (Nat.le_of_ble_eq_true rfl) (j_len5 _) ?_
      refine gd_icmp_eq_f 26 dX5_takeName_21 (by decide) (by exact fun z => absurd ((nI_eq (by omega) (by omega)).mp z) (by omega)) ?_
      refine gd_ic0 dX5_takeName_24 ?_
      refine gd_iret dX5_takeName_25 rfl (by first | rfl | decide | exact nar_bi _ | assumption) ?_
      rfl
  · refine gd_ald0 dX5_takeName_0 (by decide) ?_
    refine gd_getI dX5_takeName_1 fl_5_48 rfl rfl ?_
    rw [t.2.2.2.2.1]
    refine gd_ic1 dX5_takeName_4 ?_
    refine gd_icmp_ne_t 24 dX5_takeName_5 (by decide) (by exact fun z => absurd ((nI_eq (by omega) (by omega)).mp z) (by omega)) ?_
    refine gd_ic0 dX5_takeName_24 ?_
    refine gd_iret dX5_takeName_25 rfl (by first | rfl | decide | exact nar_bi _ | assumption) ?_
    rfl

theorem pk_inj {b c : Nat → Nat} {s r : Nat} : ∀ n m, (∀ i, i < n → 1 ≤ b (s + i) ∧ b (s + i) < 256) → (∀ i, i < m → 1 ≤ c (r + i) ∧ c (r + i) < 256) → (pkV b s n = pkV c r m ↔ n = m ∧ ∀ i, i < n → b (s + i) = c (r + i)) := by
  intro n
  induction n with
  | zero =>
    intro m _ hc
    cases m with
    | zero => exact ⟨fun _ => ⟨rfl, fun i hi => absurd hi (by omega)⟩, fun _ => rfl⟩
    | succ m =>
      have := (hc m (by omega)).1
      exact ⟨fun h => absurd (show 0 = 256 * pkV c r m + c (r + m) from h) (by omega), fun h => absurd h.1 (by omega)⟩
  | succ n ih =>
    intro m hb hc
    cases m with
    | zero =>
      have := (hb n (by omega)).1
      exact ⟨fun h => absurd (show 256 * pkV b s n + b (s + n) = 0 from h) (by omega), fun h => absurd h.1 (by omega)⟩
    | succ m =>
      have h1 := hb n (by omega)
      have h2 := hc m (by omega)
      have h3 := ih m (fun i hi => hb i (by omega)) (fun i hi => hc i (by omega))
      show 256 * pkV b s n + b (s + n) = 256 * pkV c r m + c (r + m) ↔ _
      constructor
      · intro h
        obtain ⟨q, z⟩ := h3.mp (by omega)
        subst q
        refine ⟨rfl, fun i hi => ?_⟩
        by_cases y : i = n
        · rw [y]; omega
        · exact z i (by omega)
      · rintro ⟨q, z⟩
        have q : n = m := by omega
        subst q
        have z1 := h3.mpr ⟨rfl, fun i hi => z i (by omega)⟩
        have z2 := z n (by omega)
        omega
theorem pkV_lt {b : Nat → Nat} {s : Nat} : ∀ n, (∀ i, i < n → b (s + i) < 256) → pkV b s n < 256 ^ n := by
  intro n
  induction n with
  | zero => exact fun _ => Nat.zero_lt_one
  | succ n ih =>
    intro h
    have h1 := ih (fun i hi => h i (by omega))
    have h2 := h n (by omega)
    show 256 * pkV b s n + b (s + n) < 256 ^ n * 256
    omega
theorem lN_inj {a b : Nat} (ha : a < 2 ^ 63) (hb : b < 2 ^ 63) : lN a = lN b ↔ a = b := by
  constructor
  · intro h
    have h := congrArg Int64.toBitVec h
    have h : BitVec.ofNat 64 a = BitVec.ofNat 64 b := h
    have h := congrArg BitVec.toNat h
    rw [BitVec.toNat_ofNat, BitVec.toNat_ofNat] at h
    omega
  · intro h; rw [h]
theorem lN_nm {a : Nat} (ha : a < 2 ^ 63) : ¬ (-1 : Int64) = lN a := by
  intro h
  have h := congrArg Int64.toBitVec h
  have h : BitVec.ofNat 64 (2 ^ 64 - 1) = BitVec.ofNat 64 a := h
  have h := congrArg BitVec.toNat h
  rw [BitVec.toNat_ofNat, BitVec.toNat_ofNat] at h
  omega
