
/-! ===== falls, fits, notes ===== -/
def ihN (k z : Nat) : Nat := if k = 0 then (z - 5) * 10 else if k = 1 then (z - 3) * 11 else (z - 7) * 5
theorem mx0 {A q : Nat} (hA : A < 2 ^ 30) (hq : q < 2 ^ 30) : (if nI 0 < nI A - nI q then nI A - nI q else nI 0) = nI (A - q) := by
  by_cases h2 : q < A
  · rw [if_pos ((d_gt hA hq (by decide)).mpr (by omega)), pk_sub (by omega)]
  · rw [if_neg (fun z => h2 (by have := (d_gt hA hq (by decide)).mp z; omega)), show A - q = 0 by omega]
theorem ih_le {k z : Nat} (hz : z ≤ 11) : ihN k z ≤ 88 := by
  unfold ihN
  split
  · omega
  · split <;> omega
theorem c_inth0 {z : Nat} (hz : z ≤ 11) (h : Hp) : Gd mX0_inTheHundred 0 [.int (nI 0), .int (nI z)] [] h (some (.int (nI (ihN 0 z))), h) := by
  refine gd_ild0 dX0_inTheHundred_0 ?_
  refine gd_lookup (off := 27) 28 dX0_inTheHundred_1 (by decide) (by decide) (by decide) ?_
  refine gd_ic0 dX0_inTheHundred_28 ?_
  refine gd_ild1 dX0_inTheHundred_29 ?_
  refine gd_ic5 dX0_inTheHundred_30 ?_
  refine gd_isub dX0_inTheHundred_31 ?_
  refine gd_mmax dX0_inTheHundred_32 mm_0_38 (Nat.le_of_ble_eq_true rfl) (Nat.le_of_ble_eq_true rfl) (Nat.le_of_ble_eq_true rfl) ?_
  rw [mx0 (by omega) (by decide)]
  refine gd_bipush (v := nI 10) dX0_inTheHundred_35 (by decide) ?_
  refine gd_imul dX0_inTheHundred_37 ?_
  refine gd_iret dX0_inTheHundred_38 rfl rfl ?_
  rw [pk_mul]
  rfl
theorem c_fallen0 {h : Hp} {t z v : Nat} (ht : t < 16) (hv : h.1 5 (6 * t + 3 + 0) = nI v) (v4 : v < 10000) (hz : z ≤ 11) : Gd mX0_fallen 0 [.ref 2, .int (nI t), .int (nI 0), .int (nI z), .null] [] h (some (.int (nI (v * ihN 0 z / 100))), h) := by
  have b : v * ihN 0 z ≤ 10000 * 88 := Nat.mul_le_mul (by omega) (ih_le hz)
  refine gd_ald0 dX0_fallen_0 (by decide) ?_
  refine gd_getR (r := 5) dX0_fallen_1 fl_0_18 rfl rfl rfl (by decide) ?_
  refine gd_ild1 dX0_fallen_4 ?_
  refine gd_ic2 dX0_fallen_5 ?_
  refine gd_imul dX0_fallen_6 ?_
  refine gd_ic3 dX0_fallen_7 ?_
  refine gd_imul dX0_fallen_8 ?_
  refine gd_ic3 dX0_fallen_9 ?_
  refine gd_iadd dX0_fallen_10 ?_
  refine gd_ild2 dX0_fallen_11 ?_
  refine gd_iadd dX0_fallen_12 ?_
  refine gd_iald (n := 96) dX0_fallen_13 rfl (by decide) (by repeat' (first | with_reducible rfl | apply ni_add | apply ni_mul)) (by omega) ?_
  rw [show t * 2 * 3 + 3 + 0 = 6 * t + 3 + 0 by omega, hv]
  refine gd_ist4 dX0_fallen_14 rfl ?_
  refine gd_ild4 dX0_fallen_16 ?_
  refine gd_ild2 dX0_fallen_18 ?_
  refine gd_ild3 dX0_fallen_19 ?_
  refine gd_cS2i dX0_fallen_20 ct_0_34 ⟨Nat.le_of_ble_eq_true rfl, Nat.le_of_ble_eq_true rfl⟩ (Nat.le_of_ble_eq_true rfl) (Nat.le_of_ble_eq_true rfl) (c_inth0 hz _) ?_
  refine gd_imul dX0_fallen_23 ?_
  rw [pk_mul]
  refine gd_bipush (v := nI 100) dX0_fallen_24 (by decide) ?_
  refine gd_idiv dX0_fallen_26 (by decide) ?_
  rw [pk_div (by omega) (by decide) (by decide)]
  refine gd_iret dX0_fallen_27 rfl rfl ?_
  rfl
theorem m_fallOf0 {z v : Nat} (v4 : v < 10000) (hz : z ≤ 11) (h : Hp) : Gd mX9_fallOf 0 [.ref 72, .int (nI z), .int (nI v), .int (nI 0), .null, .null] [] h (some (.int (nI (v * ihN 0 z / 100))), h) := by
  have b : v * ihN 0 z ≤ 10000 * 88 := Nat.mul_le_mul (by omega) (ih_le hz)
  have eq1 : ihN 0 z = (z - 5) * 10 := rfl
  by_cases q : 5 < z
  · rw [eq1] at b ⊢
    refine gd_ild3 dX9_fallOf_0 ?_
    refine gd_if_ne_f 8 dX9_fallOf_1 (by decide) (by decide) ?_
    refine gd_ic5 dX9_fallOf_4 ?_
    refine gd_goto 19 dX9_fallOf_5 (by decide) ?_
    refine gd_ist4 dX9_fallOf_19 rfl ?_
    refine gd_ild3 dX9_fallOf_21 ?_
    refine gd_if_ne_f 30 dX9_fallOf_22 (by decide) (by decide) ?_
    refine gd_bipush (v := nI 10) dX9_fallOf_25 (by decide) ?_
    refine gd_goto 41 dX9_fallOf_27 (by decide) ?_
    refine gd_ist5 dX9_fallOf_41 rfl ?_
    refine gd_ild1 dX9_fallOf_43 ?_
    refine gd_ild4 dX9_fallOf_44 ?_
    refine gd_icmp_le_f 64 dX9_fallOf_46 (by decide) (by exact nI_ge (by omega) (by omega)) ?_
    refine gd_ild2 dX9_fallOf_49 ?_
    refine gd_ild1 dX9_fallOf_50 ?_
    refine gd_ild4 dX9_fallOf_51 ?_
    refine gd_isub dX9_fallOf_53 ?_
    rw [pk_sub (by omega)]
    refine gd_ild5 dX9_fallOf_54 ?_
    refine gd_imul dX9_fallOf_56 ?_
    rw [pk_mul]
    refine gd_imul dX9_fallOf_57 ?_
    rw [pk_mul]
    refine gd_bipush (v := nI 100) dX9_fallOf_58 (by decide) ?_
    refine gd_idiv dX9_fallOf_60 (by decide) ?_
    rw [pk_div (by omega) (by decide) (by decide)]
    refine gd_goto 65 dX9_fallOf_61 (by decide) ?_
    refine gd_iret dX9_fallOf_65 rfl rfl ?_
    rfl
  · rw [show ihN 0 z = 0 by rw [eq1]; omega, Nat.mul_zero]
    refine gd_ild3 dX9_fallOf_0 ?_
    refine gd_if_ne_f 8 dX9_fallOf_1 (by decide) (by decide) ?_
    refine gd_ic5 dX9_fallOf_4 ?_
    refine gd_goto 19 dX9_fallOf_5 (by decide) ?_
    refine gd_ist4 dX9_fallOf_19 rfl ?_
    refine gd_ild3 dX9_fallOf_21 ?_
    refine gd_if_ne_f 30 dX9_fallOf_22 (by decide) (by decide) ?_
    refine gd_bipush (v := nI 10) dX9_fallOf_25 (by decide) ?_
    refine gd_goto 41 dX9_fallOf_27 (by decide) ?_
    refine gd_ist5 dX9_fallOf_41 rfl ?_
    refine gd_ild1 dX9_fallOf_43 ?_
    refine gd_ild4 dX9_fallOf_44 ?_
    refine gd_icmp_le_t 64 dX9_fallOf_46 (by decide) (by exact nI_le (by omega) (by omega)) ?_
    refine gd_ic0 dX9_fallOf_64 ?_
    refine gd_iret dX9_fallOf_65 rfl rfl ?_
    rfl
theorem c_inth1 {z : Nat} (hz : z ≤ 11) (h : Hp) : Gd mX0_inTheHundred 0 [.int (nI 1), .int (nI z)] [] h (some (.int (nI (ihN 1 z))), h) := by
  refine gd_ild0 dX0_inTheHundred_0 ?_
  refine gd_lookup (off := 38) 39 dX0_inTheHundred_1 (by decide) (by decide) (by decide) ?_
  refine gd_ic0 dX0_inTheHundred_39 ?_
  refine gd_ild1 dX0_inTheHundred_40 ?_
  refine gd_ic3 dX0_inTheHundred_41 ?_
  refine gd_isub dX0_inTheHundred_42 ?_
  refine gd_mmax dX0_inTheHundred_43 mm_0_38 (Nat.le_of_ble_eq_true rfl) (Nat.le_of_ble_eq_true rfl) (Nat.le_of_ble_eq_true rfl) ?_
  rw [mx0 (by omega) (by decide)]
  refine gd_bipush (v := nI 11) dX0_inTheHundred_46 (by decide) ?_
  refine gd_imul dX0_inTheHundred_48 ?_
  refine gd_iret dX0_inTheHundred_49 rfl rfl ?_
  rw [pk_mul]
  rfl
theorem c_fallen1 {h : Hp} {t z v : Nat} (ht : t < 16) (hv : h.1 5 (6 * t + 3 + 1) = nI v) (v4 : v < 10000) (hz : z ≤ 11) : Gd mX0_fallen 0 [.ref 2, .int (nI t), .int (nI 1), .int (nI z), .null] [] h (some (.int (nI (v * ihN 1 z / 100))), h) := by
  have b : v * ihN 1 z ≤ 10000 * 88 := Nat.mul_le_mul (by omega) (ih_le hz)
  refine gd_ald0 dX0_fallen_0 (by decide) ?_
  refine gd_getR (r := 5) dX0_fallen_1 fl_0_18 rfl rfl rfl (by decide) ?_
  refine gd_ild1 dX0_fallen_4 ?_
  refine gd_ic2 dX0_fallen_5 ?_
  refine gd_imul dX0_fallen_6 ?_
  refine gd_ic3 dX0_fallen_7 ?_
  refine gd_imul dX0_fallen_8 ?_
  refine gd_ic3 dX0_fallen_9 ?_
  refine gd_iadd dX0_fallen_10 ?_
  refine gd_ild2 dX0_fallen_11 ?_
  refine gd_iadd dX0_fallen_12 ?_
  refine gd_iald (n := 96) dX0_fallen_13 rfl (by decide) (by repeat' (first | with_reducible rfl | apply ni_add | apply ni_mul)) (by omega) ?_
  rw [show t * 2 * 3 + 3 + 1 = 6 * t + 3 + 1 by omega, hv]
  refine gd_ist4 dX0_fallen_14 rfl ?_
  refine gd_ild4 dX0_fallen_16 ?_
  refine gd_ild2 dX0_fallen_18 ?_
  refine gd_ild3 dX0_fallen_19 ?_
  refine gd_cS2i dX0_fallen_20 ct_0_34 ⟨Nat.le_of_ble_eq_true rfl, Nat.le_of_ble_eq_true rfl⟩ (Nat.le_of_ble_eq_true rfl) (Nat.le_of_ble_eq_true rfl) (c_inth1 hz _) ?_
  refine gd_imul dX0_fallen_23 ?_
  rw [pk_mul]
  refine gd_bipush (v := nI 100) dX0_fallen_24 (by decide) ?_
  refine gd_idiv dX0_fallen_26 (by decide) ?_
  rw [pk_div (by omega) (by decide) (by decide)]
  refine gd_iret dX0_fallen_27 rfl rfl ?_
  rfl
theorem m_fallOf1 {z v : Nat} (v4 : v < 10000) (hz : z ≤ 11) (h : Hp) : Gd mX9_fallOf 0 [.ref 72, .int (nI z), .int (nI v), .int (nI 1), .null, .null] [] h (some (.int (nI (v * ihN 1 z / 100))), h) := by
  have b : v * ihN 1 z ≤ 10000 * 88 := Nat.mul_le_mul (by omega) (ih_le hz)
  have eq1 : ihN 1 z = (z - 3) * 11 := rfl
  by_cases q : 3 < z
  · rw [eq1] at b ⊢
    refine gd_ild3 dX9_fallOf_0 ?_
    refine gd_if_ne_t 8 dX9_fallOf_1 (by decide) (by decide) ?_
    refine gd_ild3 dX9_fallOf_8 ?_
    refine gd_ic1 dX9_fallOf_9 ?_
    refine gd_icmp_ne_f 17 dX9_fallOf_10 (by decide) (by decide) ?_
    refine gd_ic3 dX9_fallOf_13 ?_
    refine gd_goto 19 dX9_fallOf_14 (by decide) ?_
    refine gd_ist4 dX9_fallOf_19 rfl ?_
    refine gd_ild3 dX9_fallOf_21 ?_
    refine gd_if_ne_t 30 dX9_fallOf_22 (by decide) (by decide) ?_
    refine gd_ild3 dX9_fallOf_30 ?_
    refine gd_ic1 dX9_fallOf_31 ?_
    refine gd_icmp_ne_f 40 dX9_fallOf_32 (by decide) (by decide) ?_
    refine gd_bipush (v := nI 11) dX9_fallOf_35 (by decide) ?_
    refine gd_goto 41 dX9_fallOf_37 (by decide) ?_
    refine gd_ist5 dX9_fallOf_41 rfl ?_
    refine gd_ild1 dX9_fallOf_43 ?_
    refine gd_ild4 dX9_fallOf_44 ?_
    refine gd_icmp_le_f 64 dX9_fallOf_46 (by decide) (by exact nI_ge (by omega) (by omega)) ?_
    refine gd_ild2 dX9_fallOf_49 ?_
    refine gd_ild1 dX9_fallOf_50 ?_
    refine gd_ild4 dX9_fallOf_51 ?_
    refine gd_isub dX9_fallOf_53 ?_
    rw [pk_sub (by omega)]
    refine gd_ild5 dX9_fallOf_54 ?_
    refine gd_imul dX9_fallOf_56 ?_
    rw [pk_mul]
    refine gd_imul dX9_fallOf_57 ?_
    rw [pk_mul]
    refine gd_bipush (v := nI 100) dX9_fallOf_58 (by decide) ?_
    refine gd_idiv dX9_fallOf_60 (by decide) ?_
    rw [pk_div (by omega) (by decide) (by decide)]
    refine gd_goto 65 dX9_fallOf_61 (by decide) ?_
    refine gd_iret dX9_fallOf_65 rfl rfl ?_
    rfl
  · rw [show ihN 1 z = 0 by rw [eq1]; omega, Nat.mul_zero]
    refine gd_ild3 dX9_fallOf_0 ?_
    refine gd_if_ne_t 8 dX9_fallOf_1 (by decide) (by decide) ?_
    refine gd_ild3 dX9_fallOf_8 ?_
    refine gd_ic1 dX9_fallOf_9 ?_
    refine gd_icmp_ne_f 17 dX9_fallOf_10 (by decide) (by decide) ?_
    refine gd_ic3 dX9_fallOf_13 ?_
    refine gd_goto 19 dX9_fallOf_14 (by decide) ?_
    refine gd_ist4 dX9_fallOf_19 rfl ?_
    refine gd_ild3 dX9_fallOf_21 ?_
    refine gd_if_ne_t 30 dX9_fallOf_22 (by decide) (by decide) ?_
    refine gd_ild3 dX9_fallOf_30 ?_
    refine gd_ic1 dX9_fallOf_31 ?_
    refine gd_icmp_ne_f 40 dX9_fallOf_32 (by decide) (by decide) ?_
    refine gd_bipush (v := nI 11) dX9_fallOf_35 (by decide) ?_
    refine gd_goto 41 dX9_fallOf_37 (by decide) ?_
    refine gd_ist5 dX9_fallOf_41 rfl ?_
    refine gd_ild1 dX9_fallOf_43 ?_
    refine gd_ild4 dX9_fallOf_44 ?_
    refine gd_icmp_le_t 64 dX9_fallOf_46 (by decide) (by exact nI_le (by omega) (by omega)) ?_
    refine gd_ic0 dX9_fallOf_64 ?_
    refine gd_iret dX9_fallOf_65 rfl rfl ?_
    rfl
theorem c_inth2 {z : Nat} (hz : z ≤ 11) (h : Hp) : Gd mX0_inTheHundred 0 [.int (nI 2), .int (nI z)] [] h (some (.int (nI (ihN 2 z))), h) := by
  refine gd_ild0 dX0_inTheHundred_0 ?_
  refine gd_lookup (off := 49) 50 dX0_inTheHundred_1 (by decide) (by decide) (by decide) ?_
  refine gd_ic0 dX0_inTheHundred_50 ?_
  refine gd_ild1 dX0_inTheHundred_51 ?_
  refine gd_bipush (v := nI 7) dX0_inTheHundred_52 (by decide) ?_
  refine gd_isub dX0_inTheHundred_54 ?_
  refine gd_mmax dX0_inTheHundred_55 mm_0_38 (Nat.le_of_ble_eq_true rfl) (Nat.le_of_ble_eq_true rfl) (Nat.le_of_ble_eq_true rfl) ?_
  rw [mx0 (by omega) (by decide)]
  refine gd_ic5 dX0_inTheHundred_58 ?_
  refine gd_imul dX0_inTheHundred_59 ?_
  refine gd_iret dX0_inTheHundred_60 rfl rfl ?_
  rw [pk_mul]
  rfl
theorem c_fallen2 {h : Hp} {t z v : Nat} (ht : t < 16) (hv : h.1 5 (6 * t + 3 + 2) = nI v) (v4 : v < 10000) (hz : z ≤ 11) : Gd mX0_fallen 0 [.ref 2, .int (nI t), .int (nI 2), .int (nI z), .null] [] h (some (.int (nI (v * ihN 2 z / 100))), h) := by
  have b : v * ihN 2 z ≤ 10000 * 88 := Nat.mul_le_mul (by omega) (ih_le hz)
  refine gd_ald0 dX0_fallen_0 (by decide) ?_
  refine gd_getR (r := 5) dX0_fallen_1 fl_0_18 rfl rfl rfl (by decide) ?_
  refine gd_ild1 dX0_fallen_4 ?_
  refine gd_ic2 dX0_fallen_5 ?_
  refine gd_imul dX0_fallen_6 ?_
  refine gd_ic3 dX0_fallen_7 ?_
  refine gd_imul dX0_fallen_8 ?_
  refine gd_ic3 dX0_fallen_9 ?_
  refine gd_iadd dX0_fallen_10 ?_
  refine gd_ild2 dX0_fallen_11 ?_
  refine gd_iadd dX0_fallen_12 ?_
  refine gd_iald (n := 96) dX0_fallen_13 rfl (by decide) (by repeat' (first | with_reducible rfl | apply ni_add | apply ni_mul)) (by omega) ?_
  rw [show t * 2 * 3 + 3 + 2 = 6 * t + 3 + 2 by omega, hv]
  refine gd_ist4 dX0_fallen_14 rfl ?_
  refine gd_ild4 dX0_fallen_16 ?_
  refine gd_ild2 dX0_fallen_18 ?_
  refine gd_ild3 dX0_fallen_19 ?_
  refine gd_cS2i dX0_fallen_20 ct_0_34 ⟨Nat.le_of_ble_eq_true rfl, Nat.le_of_ble_eq_true rfl⟩ (Nat.le_of_ble_eq_true rfl) (Nat.le_of_ble_eq_true rfl) (c_inth2 hz _) ?_
  refine gd_imul dX0_fallen_23 ?_
  rw [pk_mul]
  refine gd_bipush (v := nI 100) dX0_fallen_24 (by decide) ?_
  refine gd_idiv dX0_fallen_26 (by decide) ?_
  rw [pk_div (by omega) (by decide) (by decide)]
  refine gd_iret dX0_fallen_27 rfl rfl ?_
  rfl
theorem m_fallOf2 {z v : Nat} (v4 : v < 10000) (hz : z ≤ 11) (h : Hp) : Gd mX9_fallOf 0 [.ref 72, .int (nI z), .int (nI v), .int (nI 2), .null, .null] [] h (some (.int (nI (v * ihN 2 z / 100))), h) := by
  have b : v * ihN 2 z ≤ 10000 * 88 := Nat.mul_le_mul (by omega) (ih_le hz)
  have eq1 : ihN 2 z = (z - 7) * 5 := rfl
  by_cases q : 7 < z
  · rw [eq1] at b ⊢
    refine gd_ild3 dX9_fallOf_0 ?_
    refine gd_if_ne_t 8 dX9_fallOf_1 (by decide) (by decide) ?_
    refine gd_ild3 dX9_fallOf_8 ?_
    refine gd_ic1 dX9_fallOf_9 ?_
    refine gd_icmp_ne_t 17 dX9_fallOf_10 (by decide) (by decide) ?_
    refine gd_bipush (v := nI 7) dX9_fallOf_17 (by decide) ?_
    refine gd_ist4 dX9_fallOf_19 rfl ?_
    refine gd_ild3 dX9_fallOf_21 ?_
    refine gd_if_ne_t 30 dX9_fallOf_22 (by decide) (by decide) ?_
    refine gd_ild3 dX9_fallOf_30 ?_
    refine gd_ic1 dX9_fallOf_31 ?_
    refine gd_icmp_ne_t 40 dX9_fallOf_32 (by decide) (by decide) ?_
    refine gd_ic5 dX9_fallOf_40 ?_
    refine gd_ist5 dX9_fallOf_41 rfl ?_
    refine gd_ild1 dX9_fallOf_43 ?_
    refine gd_ild4 dX9_fallOf_44 ?_
    refine gd_icmp_le_f 64 dX9_fallOf_46 (by decide) (by exact nI_ge (by omega) (by omega)) ?_
    refine gd_ild2 dX9_fallOf_49 ?_
    refine gd_ild1 dX9_fallOf_50 ?_
    refine gd_ild4 dX9_fallOf_51 ?_
    refine gd_isub dX9_fallOf_53 ?_
    rw [pk_sub (by omega)]
    refine gd_ild5 dX9_fallOf_54 ?_
    refine gd_imul dX9_fallOf_56 ?_
    rw [pk_mul]
    refine gd_imul dX9_fallOf_57 ?_
    rw [pk_mul]
    refine gd_bipush (v := nI 100) dX9_fallOf_58 (by decide) ?_
    refine gd_idiv dX9_fallOf_60 (by decide) ?_
    rw [pk_div (by omega) (by decide) (by decide)]
    refine gd_goto 65 dX9_fallOf_61 (by decide) ?_
    refine gd_iret dX9_fallOf_65 rfl rfl ?_
    rfl
  · rw [show ihN 2 z = 0 by rw [eq1]; omega, Nat.mul_zero]
    refine gd_ild3 dX9_fallOf_0 ?_
    refine gd_if_ne_t 8 dX9_fallOf_1 (by decide) (by decide) ?_
    refine gd_ild3 dX9_fallOf_8 ?_
    refine gd_ic1 dX9_fallOf_9 ?_
    refine gd_icmp_ne_t 17 dX9_fallOf_10 (by decide) (by decide) ?_
    refine gd_bipush (v := nI 7) dX9_fallOf_17 (by decide) ?_
    refine gd_ist4 dX9_fallOf_19 rfl ?_
    refine gd_ild3 dX9_fallOf_21 ?_
    refine gd_if_ne_t 30 dX9_fallOf_22 (by decide) (by decide) ?_
    refine gd_ild3 dX9_fallOf_30 ?_
    refine gd_ic1 dX9_fallOf_31 ?_
    refine gd_icmp_ne_t 40 dX9_fallOf_32 (by decide) (by decide) ?_
    refine gd_ic5 dX9_fallOf_40 ?_
    refine gd_ist5 dX9_fallOf_41 rfl ?_
    refine gd_ild1 dX9_fallOf_43 ?_
    refine gd_ild4 dX9_fallOf_44 ?_
    refine gd_icmp_le_t 64 dX9_fallOf_46 (by decide) (by exact nI_le (by omega) (by omega)) ?_
    refine gd_ic0 dX9_fallOf_64 ?_
    refine gd_iret dX9_fallOf_65 rfl rfl ?_
    rfl
set_option maxHeartbeats 2000000 in
theorem p_falls {h : Hp} (i : Inv h) (a b c : Int32) : Pas mX8_falls mX9_falls [.ref 0, .int a, .int b, .int c, .null, .null, .null] [.ref 72, .int a, .int b, .int c, .null, .null, .null] h := by
  rcases shI a with ⟨n, hn, rfl⟩ | hs
  · rcases rng b (nT (ms h)) (by have := i.lT; omega) with ⟨t, ht, rfl⟩ | ha
    · rcases rng c (4) (by decide) with ⟨k, hk, rfl⟩ | hc
      · have lT := i.lT
        obtain ⟨h1, gt, f1, v1⟩ := c_take i.w i.c (-1)
        have c1 := f1.cr i.c
        have e1 : ms (h1) = ms h := (f1).same.msE
        obtain ⟨h2, gp, f2, v2⟩ := m_prepare (h := h1) (by rw [e1]; exact i.w) (-1)
        rw [e1] at v2
        have sl := stN_le (ms h) t (n / 1000) (n / 10 % 100) (n % 10)
        have wh : ∀ k, k < 3 → ∃ v, v < 10000 ∧ ms h 3 (6 * t + 3 + k) = nI v := fun k hk => i.w.h _ (by omega)
        have w5 : ∀ k, k < 3 → ms h 3 (6 * t + 3 + k) = nI (tn (ms h 3 (6 * t + 3 + k))) := fun k hk => by obtain ⟨v, v4, e⟩ := wh k hk; rw [e, tn_nI (by omega)]
        have u5 : ∀ k, k < 3 → tn (ms h 3 (6 * t + 3 + k)) < 10000 := fun k hk => by obtain ⟨v, v4, e⟩ := wh k hk; rw [e, tn_nI (by omega)]; exact v4
        have e5 : ∀ k, k < 3 → h1.1 5 (6 * t + 3 + k) = nI (tn (ms h 3 (6 * t + 3 + k))) := fun k hk => (c1.h1 _ (by omega)).trans (w5 k hk)
        rcases (show k = 0 ∨ k = 1 ∨ k = 2 ∨ k = 3 by omega) with z | z | z | z
        · subst z
          refine Pas.read (h1 := h1) (h2 := h2) (r := .int (nI (tn (ms h 3 (6 * t + 3 + 0)) * ihN 0 (stN (ms h) t (n / 1000) (n / 10 % 100) (n % 10)) / 100))) i rfl (f1).same (f2).same ?_ ?_
          · refine gd_ild1 dX8_falls_0 ?_
            refine gd_i2l dX8_falls_1 ?_
            rw [i2l_n (by have := sh_lt hn; omega)]
            refine gd_cS1i dX8_falls_2 ct_8_221 ⟨Nat.le_of_ble_eq_true rfl, Nat.le_of_ble_eq_true rfl⟩ (Nat.le_of_ble_eq_true rfl) (Nat.le_of_ble_eq_true rfl) (c_isShake_t hn _) ?_
            refine gd_if_eq_f 24 dX8_falls_5 (by decide) (by decide) ?_
            refine gd_ald0 dX8_falls_8 (by decide) ?_
            refine gd_ild2 dX8_falls_9 ?_
            refine gd_cV1i dX8_falls_10 ct_8_74 rc_0 ⟨Nat.le_of_ble_eq_true rfl, Nat.le_of_ble_eq_true rfl⟩ (Nat.le_of_ble_eq_true rfl) (Nat.le_of_ble_eq_true rfl) (c_isTown_t i.w i.c ht) ?_
            refine gd_if_eq_f 24 dX8_falls_13 (by decide) (by decide) ?_
            refine gd_ild3 dX8_falls_16 ?_
            refine gd_ic4 dX8_falls_17 ?_
            refine gd_cS2i dX8_falls_18 ct_8_48 ⟨Nat.le_of_ble_eq_true rfl, Nat.le_of_ble_eq_true rfl⟩ (Nat.le_of_ble_eq_true rfl) (Nat.le_of_ble_eq_true rfl) (c_isBelow_t (t := 0) (n := 4) (by decide) (by decide) _) ?_
            refine gd_if_ne_t 31 dX8_falls_21 (by decide) (by decide) ?_
            refine gd_ald0 dX8_falls_31 (by decide) ?_
            refine gd_getR (r := 60) dX8_falls_32 fl_8_40 rfl rfl rfl (by decide) ?_
            refine gd_ald0 dX8_falls_35 (by decide) ?_
            refine gd_getR (r := 1) dX8_falls_36 fl_8_12 rfl rfl rfl (by decide) ?_
            refine gd_icm1 dX8_falls_39 ?_
            refine gd_cV2v dX8_falls_40 ct_8_211 rc_60 ⟨Nat.le_of_ble_eq_true rfl, Nat.le_of_ble_eq_true rfl⟩ (Nat.le_of_ble_eq_true rfl) (Nat.le_of_ble_eq_true rfl) (gt) ?_
            refine gd_ald0 dX8_falls_43 (by decide) ?_
            refine gd_getR (r := 60) dX8_falls_44 fl_8_40 rfl rfl rfl (by decide) ?_
            refine gd_ild1 dX8_falls_47 ?_
            refine gd_ild2 dX8_falls_48 ?_
            refine gd_cV2i dX8_falls_49 ct_8_225 rc_60 ⟨Nat.le_of_ble_eq_true rfl, Nat.le_of_ble_eq_true rfl⟩ (Nat.le_of_ble_eq_true rfl) (Nat.le_of_ble_eq_true rfl) (c_stepOf i.w v1 ht hn) ?_
            refine gd_ist4 dX8_falls_52 rfl ?_
            refine gd_ild3 dX8_falls_54 ?_
            refine gd_ic3 dX8_falls_55 ?_
            refine gd_icmp_ge_f 74 dX8_falls_56 (by decide) (by decide) ?_
            refine gd_ald0 dX8_falls_59 (by decide) ?_
            refine gd_getR (r := 1) dX8_falls_60 fl_8_12 rfl rfl rfl (by decide) ?_
            refine gd_getR (r := 2) dX8_falls_63 fl_8_57 rfl rfl rfl (by decide) ?_
            refine gd_ild2 dX8_falls_66 ?_
            refine gd_ild3 dX8_falls_67 ?_
            refine gd_ild4 dX8_falls_68 ?_
            refine gd_cV3i dX8_falls_70 ct_8_253 rc_2 ⟨Nat.le_of_ble_eq_true rfl, Nat.le_of_ble_eq_true rfl⟩ (Nat.le_of_ble_eq_true rfl) (Nat.le_of_ble_eq_true rfl) (c_fallen0 (by omega) (e5 0 (by decide)) (u5 0 (by decide)) sl) ?_
            refine gd_iret dX8_falls_73 rfl rfl ?_
            rfl
          · refine gd_ild1 dX9_falls_0 ?_
            refine gd_i2l dX9_falls_1 ?_
            rw [i2l_n (by have := sh_lt hn; omega)]
            refine gd_cS1i dX9_falls_2 ct_9_225 ⟨Nat.le_of_ble_eq_true rfl, Nat.le_of_ble_eq_true rfl⟩ (Nat.le_of_ble_eq_true rfl) (Nat.le_of_ble_eq_true rfl) (m_isShake_t hn _) ?_
            refine gd_if_eq_f 25 dX9_falls_5 (by decide) (by decide) ?_
            refine gd_ald0 dX9_falls_8 (by decide) ?_
            refine gd_ild2 dX9_falls_9 ?_
            refine gd_cV1i dX9_falls_10 ct_9_101 rc_72 ⟨Nat.le_of_ble_eq_true rfl, Nat.le_of_ble_eq_true rfl⟩ (Nat.le_of_ble_eq_true rfl) (Nat.le_of_ble_eq_true rfl) (m_isTown_t (h := h1) (by rw [e1]; exact i.w) (by rw [e1]; exact ht)) ?_
            refine gd_if_eq_f 25 dX9_falls_13 (by decide) (by decide) ?_
            refine gd_ild3 dX9_falls_16 ?_
            refine gd_ic0 dX9_falls_17 ?_
            refine gd_ic3 dX9_falls_18 ?_
            refine gd_cS3i dX9_falls_19 ct_9_79 ⟨Nat.le_of_ble_eq_true rfl, Nat.le_of_ble_eq_true rfl⟩ (Nat.le_of_ble_eq_true rfl) (Nat.le_of_ble_eq_true rfl) (m_in_t (t := 0) (m := 3) (by decide) (by decide) _) ?_
            refine gd_if_ne_t 31 dX9_falls_22 (by decide) (by decide) ?_
            refine gd_ald0 dX9_falls_31 (by decide) ?_
            refine gd_icm1 dX9_falls_32 ?_
            refine gd_cV1v dX9_falls_33 ct_9_216 rc_72 ⟨Nat.le_of_ble_eq_true rfl, Nat.le_of_ble_eq_true rfl⟩ (Nat.le_of_ble_eq_true rfl) (Nat.le_of_ble_eq_true rfl) (gp) ?_
            refine gd_ald0 dX9_falls_36 (by decide) ?_
            refine gd_ild1 dX9_falls_37 ?_
            refine gd_ild2 dX9_falls_38 ?_
            refine gd_cV2i dX9_falls_39 ct_9_219 rc_72 ⟨Nat.le_of_ble_eq_true rfl, Nat.le_of_ble_eq_true rfl⟩ (Nat.le_of_ble_eq_true rfl) (Nat.le_of_ble_eq_true rfl) (m_stepOf i.w v2 ht hn) ?_
            refine gd_ist4 dX9_falls_42 rfl ?_
            refine gd_ic0 dX9_falls_44 ?_
            refine gd_ist5 dX9_falls_45 rfl ?_
            refine gd_ic0 dX9_falls_47 ?_
            refine gd_ist6 dX9_falls_48 rfl ?_
            refine gd_ild6 dX9_falls_50 ?_
            refine gd_ic3 dX9_falls_52 ?_
            refine gd_icmp_ge_f 104 dX9_falls_53 (by decide) (by decide) ?_
            refine gd_ild5 dX9_falls_56 ?_
            refine gd_ild3 dX9_falls_58 ?_
            refine gd_ic3 dX9_falls_59 ?_
            refine gd_icmp_eq_f 69 dX9_falls_60 (by decide) (by decide) ?_
            refine gd_ild3 dX9_falls_63 ?_
            refine gd_ild6 dX9_falls_64 ?_
            refine gd_icmp_ne_f 94 dX9_falls_66 (by decide) (by decide) ?_
            refine gd_ald0 dX9_falls_69 (by decide) ?_
            refine gd_ild4 dX9_falls_70 ?_
            refine gd_ald0 dX9_falls_72 (by decide) ?_
            refine gd_getR (r := 77) dX9_falls_73 fl_9_22 rfl rfl rfl (by decide) ?_
            refine gd_bipush (v := nI 6) dX9_falls_76 (by decide) ?_
            refine gd_ild2 dX9_falls_78 ?_
            refine gd_imul dX9_falls_79 ?_
            refine gd_ic3 dX9_falls_80 ?_
            refine gd_iadd dX9_falls_81 ?_
            refine gd_ild6 dX9_falls_82 ?_
            refine gd_iadd dX9_falls_84 ?_
            refine gd_iald (n := 96) dX9_falls_85 rfl (by decide) (by repeat' (first | with_reducible rfl | apply ni_add | apply ni_mul)) (by omega) ?_
            rw [show h2.1 77 (6 * t + 3 + 0) = nI (tn (ms h 3 (6 * t + 3 + 0))) by rw [← ms_r3 (by omega), v2.1]; exact w5 0 (by decide)]
            refine gd_ild6 dX9_falls_86 ?_
            refine gd_cV3i dX9_falls_88 ct_9_243 rc_72 ⟨Nat.le_of_ble_eq_true rfl, Nat.le_of_ble_eq_true rfl⟩ (Nat.le_of_ble_eq_true rfl) (Nat.le_of_ble_eq_true rfl) (m_fallOf0 (u5 0 (by decide)) sl _) ?_
            refine gd_goto 95 dX9_falls_91 (by decide) ?_
            refine gd_iadd dX9_falls_95 ?_
            refine gd_ist5 dX9_falls_96 rfl ?_
            refine gd_iinc6 (b := nI 1) dX9_falls_98 (by decide) rfl ?_
            refine gd_goto 50 dX9_falls_101 (by decide) ?_
            refine gd_ild6 dX9_falls_50 ?_
            refine gd_ic3 dX9_falls_52 ?_
            refine gd_icmp_ge_f 104 dX9_falls_53 (by decide) (by decide) ?_
            refine gd_ild5 dX9_falls_56 ?_
            refine gd_ild3 dX9_falls_58 ?_
            refine gd_ic3 dX9_falls_59 ?_
            refine gd_icmp_eq_f 69 dX9_falls_60 (by decide) (by decide) ?_
            refine gd_ild3 dX9_falls_63 ?_
            refine gd_ild6 dX9_falls_64 ?_
            refine gd_icmp_ne_t 94 dX9_falls_66 (by decide) (by decide) ?_
            refine gd_ic0 dX9_falls_94 ?_
            refine gd_iadd dX9_falls_95 ?_
            refine gd_ist5 dX9_falls_96 rfl ?_
            refine gd_iinc6 (b := nI 1) dX9_falls_98 (by decide) rfl ?_
            refine gd_goto 50 dX9_falls_101 (by decide) ?_
            refine gd_ild6 dX9_falls_50 ?_
            refine gd_ic3 dX9_falls_52 ?_
            refine gd_icmp_ge_f 104 dX9_falls_53 (by decide) (by decide) ?_
            refine gd_ild5 dX9_falls_56 ?_
            refine gd_ild3 dX9_falls_58 ?_
            refine gd_ic3 dX9_falls_59 ?_
            refine gd_icmp_eq_f 69 dX9_falls_60 (by decide) (by decide) ?_
            refine gd_ild3 dX9_falls_63 ?_
            refine gd_ild6 dX9_falls_64 ?_
            refine gd_icmp_ne_t 94 dX9_falls_66 (by decide) (by decide) ?_
            refine gd_ic0 dX9_falls_94 ?_
            refine gd_iadd dX9_falls_95 ?_
            refine gd_ist5 dX9_falls_96 rfl ?_
            refine gd_iinc6 (b := nI 1) dX9_falls_98 (by decide) rfl ?_
            refine gd_goto 50 dX9_falls_101 (by decide) ?_
            refine gd_ild6 dX9_falls_50 ?_
            refine gd_ic3 dX9_falls_52 ?_
            refine gd_icmp_ge_t 104 dX9_falls_53 (by decide) (by decide) ?_
            refine gd_ild5 dX9_falls_104 ?_
            refine gd_iret dX9_falls_106 rfl rfl ?_
            simp only [z_add, add_z]
        · subst z
          refine Pas.read (h1 := h1) (h2 := h2) (r := .int (nI (tn (ms h 3 (6 * t + 3 + 1)) * ihN 1 (stN (ms h) t (n / 1000) (n / 10 % 100) (n % 10)) / 100))) i rfl (f1).same (f2).same ?_ ?_
          · refine gd_ild1 dX8_falls_0 ?_
            refine gd_i2l dX8_falls_1 ?_
            rw [i2l_n (by have := sh_lt hn; omega)]
            refine gd_cS1i dX8_falls_2 ct_8_221 ⟨Nat.le_of_ble_eq_true rfl, Nat.le_of_ble_eq_true rfl⟩ (Nat.le_of_ble_eq_true rfl) (Nat.le_of_ble_eq_true rfl) (c_isShake_t hn _) ?_
            refine gd_if_eq_f 24 dX8_falls_5 (by decide) (by decide) ?_
            refine gd_ald0 dX8_falls_8 (by decide) ?_
            refine gd_ild2 dX8_falls_9 ?_
            refine gd_cV1i dX8_falls_10 ct_8_74 rc_0 ⟨Nat.le_of_ble_eq_true rfl, Nat.le_of_ble_eq_true rfl⟩ (Nat.le_of_ble_eq_true rfl) (Nat.le_of_ble_eq_true rfl) (c_isTown_t i.w i.c ht) ?_
            refine gd_if_eq_f 24 dX8_falls_13 (by decide) (by decide) ?_
            refine gd_ild3 dX8_falls_16 ?_
            refine gd_ic4 dX8_falls_17 ?_
            refine gd_cS2i dX8_falls_18 ct_8_48 ⟨Nat.le_of_ble_eq_true rfl, Nat.le_of_ble_eq_true rfl⟩ (Nat.le_of_ble_eq_true rfl) (Nat.le_of_ble_eq_true rfl) (c_isBelow_t (t := 1) (n := 4) (by decide) (by decide) _) ?_
            refine gd_if_ne_t 31 dX8_falls_21 (by decide) (by decide) ?_
            refine gd_ald0 dX8_falls_31 (by decide) ?_
            refine gd_getR (r := 60) dX8_falls_32 fl_8_40 rfl rfl rfl (by decide) ?_
            refine gd_ald0 dX8_falls_35 (by decide) ?_
            refine gd_getR (r := 1) dX8_falls_36 fl_8_12 rfl rfl rfl (by decide) ?_
            refine gd_icm1 dX8_falls_39 ?_
            refine gd_cV2v dX8_falls_40 ct_8_211 rc_60 ⟨Nat.le_of_ble_eq_true rfl, Nat.le_of_ble_eq_true rfl⟩ (Nat.le_of_ble_eq_true rfl) (Nat.le_of_ble_eq_true rfl) (gt) ?_
            refine gd_ald0 dX8_falls_43 (by decide) ?_
            refine gd_getR (r := 60) dX8_falls_44 fl_8_40 rfl rfl rfl (by decide) ?_
            refine gd_ild1 dX8_falls_47 ?_
            refine gd_ild2 dX8_falls_48 ?_
            refine gd_cV2i dX8_falls_49 ct_8_225 rc_60 ⟨Nat.le_of_ble_eq_true rfl, Nat.le_of_ble_eq_true rfl⟩ (Nat.le_of_ble_eq_true rfl) (Nat.le_of_ble_eq_true rfl) (c_stepOf i.w v1 ht hn) ?_
            refine gd_ist4 dX8_falls_52 rfl ?_
            refine gd_ild3 dX8_falls_54 ?_
            refine gd_ic3 dX8_falls_55 ?_
            refine gd_icmp_ge_f 74 dX8_falls_56 (by decide) (by decide) ?_
            refine gd_ald0 dX8_falls_59 (by decide) ?_
            refine gd_getR (r := 1) dX8_falls_60 fl_8_12 rfl rfl rfl (by decide) ?_
            refine gd_getR (r := 2) dX8_falls_63 fl_8_57 rfl rfl rfl (by decide) ?_
            refine gd_ild2 dX8_falls_66 ?_
            refine gd_ild3 dX8_falls_67 ?_
            refine gd_ild4 dX8_falls_68 ?_
            refine gd_cV3i dX8_falls_70 ct_8_253 rc_2 ⟨Nat.le_of_ble_eq_true rfl, Nat.le_of_ble_eq_true rfl⟩ (Nat.le_of_ble_eq_true rfl) (Nat.le_of_ble_eq_true rfl) (c_fallen1 (by omega) (e5 1 (by decide)) (u5 1 (by decide)) sl) ?_
            refine gd_iret dX8_falls_73 rfl rfl ?_
            rfl
          · refine gd_ild1 dX9_falls_0 ?_
            refine gd_i2l dX9_falls_1 ?_
            rw [i2l_n (by have := sh_lt hn; omega)]
            refine gd_cS1i dX9_falls_2 ct_9_225 ⟨Nat.le_of_ble_eq_true rfl, Nat.le_of_ble_eq_true rfl⟩ (Nat.le_of_ble_eq_true rfl) (Nat.le_of_ble_eq_true rfl) (m_isShake_t hn _) ?_
            refine gd_if_eq_f 25 dX9_falls_5 (by decide) (by decide) ?_
            refine gd_ald0 dX9_falls_8 (by decide) ?_
            refine gd_ild2 dX9_falls_9 ?_
            refine gd_cV1i dX9_falls_10 ct_9_101 rc_72 ⟨Nat.le_of_ble_eq_true rfl, Nat.le_of_ble_eq_true rfl⟩ (Nat.le_of_ble_eq_true rfl) (Nat.le_of_ble_eq_true rfl) (m_isTown_t (h := h1) (by rw [e1]; exact i.w) (by rw [e1]; exact ht)) ?_
            refine gd_if_eq_f 25 dX9_falls_13 (by decide) (by decide) ?_
            refine gd_ild3 dX9_falls_16 ?_
            refine gd_ic0 dX9_falls_17 ?_
            refine gd_ic3 dX9_falls_18 ?_
            refine gd_cS3i dX9_falls_19 ct_9_79 ⟨Nat.le_of_ble_eq_true rfl, Nat.le_of_ble_eq_true rfl⟩ (Nat.le_of_ble_eq_true rfl) (Nat.le_of_ble_eq_true rfl) (m_in_t (t := 1) (m := 3) (by decide) (by decide) _) ?_
            refine gd_if_ne_t 31 dX9_falls_22 (by decide) (by decide) ?_
            refine gd_ald0 dX9_falls_31 (by decide) ?_
            refine gd_icm1 dX9_falls_32 ?_
            refine gd_cV1v dX9_falls_33 ct_9_216 rc_72 ⟨Nat.le_of_ble_eq_true rfl, Nat.le_of_ble_eq_true rfl⟩ (Nat.le_of_ble_eq_true rfl) (Nat.le_of_ble_eq_true rfl) (gp) ?_
            refine gd_ald0 dX9_falls_36 (by decide) ?_
            refine gd_ild1 dX9_falls_37 ?_
            refine gd_ild2 dX9_falls_38 ?_
            refine gd_cV2i dX9_falls_39 ct_9_219 rc_72 ⟨Nat.le_of_ble_eq_true rfl, Nat.le_of_ble_eq_true rfl⟩ (Nat.le_of_ble_eq_true rfl) (Nat.le_of_ble_eq_true rfl) (m_stepOf i.w v2 ht hn) ?_
            refine gd_ist4 dX9_falls_42 rfl ?_
            refine gd_ic0 dX9_falls_44 ?_
            refine gd_ist5 dX9_falls_45 rfl ?_
            refine gd_ic0 dX9_falls_47 ?_
            refine gd_ist6 dX9_falls_48 rfl ?_
            refine gd_ild6 dX9_falls_50 ?_
            refine gd_ic3 dX9_falls_52 ?_
            refine gd_icmp_ge_f 104 dX9_falls_53 (by decide) (by decide) ?_
            refine gd_ild5 dX9_falls_56 ?_
            refine gd_ild3 dX9_falls_58 ?_
            refine gd_ic3 dX9_falls_59 ?_
            refine gd_icmp_eq_f 69 dX9_falls_60 (by decide) (by decide) ?_
            refine gd_ild3 dX9_falls_63 ?_
            refine gd_ild6 dX9_falls_64 ?_
            refine gd_icmp_ne_t 94 dX9_falls_66 (by decide) (by decide) ?_
            refine gd_ic0 dX9_falls_94 ?_
            refine gd_iadd dX9_falls_95 ?_
            refine gd_ist5 dX9_falls_96 rfl ?_
            refine gd_iinc6 (b := nI 1) dX9_falls_98 (by decide) rfl ?_
            refine gd_goto 50 dX9_falls_101 (by decide) ?_
            refine gd_ild6 dX9_falls_50 ?_
            refine gd_ic3 dX9_falls_52 ?_
            refine gd_icmp_ge_f 104 dX9_falls_53 (by decide) (by decide) ?_
            refine gd_ild5 dX9_falls_56 ?_
            refine gd_ild3 dX9_falls_58 ?_
            refine gd_ic3 dX9_falls_59 ?_
            refine gd_icmp_eq_f 69 dX9_falls_60 (by decide) (by decide) ?_
            refine gd_ild3 dX9_falls_63 ?_
            refine gd_ild6 dX9_falls_64 ?_
            refine gd_icmp_ne_f 94 dX9_falls_66 (by decide) (by decide) ?_
            refine gd_ald0 dX9_falls_69 (by decide) ?_
            refine gd_ild4 dX9_falls_70 ?_
            refine gd_ald0 dX9_falls_72 (by decide) ?_
            refine gd_getR (r := 77) dX9_falls_73 fl_9_22 rfl rfl rfl (by decide) ?_
            refine gd_bipush (v := nI 6) dX9_falls_76 (by decide) ?_
            refine gd_ild2 dX9_falls_78 ?_
            refine gd_imul dX9_falls_79 ?_
            refine gd_ic3 dX9_falls_80 ?_
            refine gd_iadd dX9_falls_81 ?_
            refine gd_ild6 dX9_falls_82 ?_
            refine gd_iadd dX9_falls_84 ?_
            refine gd_iald (n := 96) dX9_falls_85 rfl (by decide) (by repeat' (first | with_reducible rfl | apply ni_add | apply ni_mul)) (by omega) ?_
            rw [show h2.1 77 (6 * t + 3 + 1) = nI (tn (ms h 3 (6 * t + 3 + 1))) by rw [← ms_r3 (by omega), v2.1]; exact w5 1 (by decide)]
            refine gd_ild6 dX9_falls_86 ?_
            refine gd_cV3i dX9_falls_88 ct_9_243 rc_72 ⟨Nat.le_of_ble_eq_true rfl, Nat.le_of_ble_eq_true rfl⟩ (Nat.le_of_ble_eq_true rfl) (Nat.le_of_ble_eq_true rfl) (m_fallOf1 (u5 1 (by decide)) sl _) ?_
            refine gd_goto 95 dX9_falls_91 (by decide) ?_
            refine gd_iadd dX9_falls_95 ?_
            refine gd_ist5 dX9_falls_96 rfl ?_
            refine gd_iinc6 (b := nI 1) dX9_falls_98 (by decide) rfl ?_
            refine gd_goto 50 dX9_falls_101 (by decide) ?_
            refine gd_ild6 dX9_falls_50 ?_
            refine gd_ic3 dX9_falls_52 ?_
            refine gd_icmp_ge_f 104 dX9_falls_53 (by decide) (by decide) ?_
            refine gd_ild5 dX9_falls_56 ?_
            refine gd_ild3 dX9_falls_58 ?_
            refine gd_ic3 dX9_falls_59 ?_
            refine gd_icmp_eq_f 69 dX9_falls_60 (by decide) (by decide) ?_
            refine gd_ild3 dX9_falls_63 ?_
            refine gd_ild6 dX9_falls_64 ?_
            refine gd_icmp_ne_t 94 dX9_falls_66 (by decide) (by decide) ?_
            refine gd_ic0 dX9_falls_94 ?_
            refine gd_iadd dX9_falls_95 ?_
            refine gd_ist5 dX9_falls_96 rfl ?_
            refine gd_iinc6 (b := nI 1) dX9_falls_98 (by decide) rfl ?_
            refine gd_goto 50 dX9_falls_101 (by decide) ?_
            refine gd_ild6 dX9_falls_50 ?_
            refine gd_ic3 dX9_falls_52 ?_
            refine gd_icmp_ge_t 104 dX9_falls_53 (by decide) (by decide) ?_
            refine gd_ild5 dX9_falls_104 ?_
            refine gd_iret dX9_falls_106 rfl rfl ?_
            simp only [z_add, add_z]
        · subst z
          refine Pas.read (h1 := h1) (h2 := h2) (r := .int (nI (tn (ms h 3 (6 * t + 3 + 2)) * ihN 2 (stN (ms h) t (n / 1000) (n / 10 % 100) (n % 10)) / 100))) i rfl (f1).same (f2).same ?_ ?_
          · refine gd_ild1 dX8_falls_0 ?_
            refine gd_i2l dX8_falls_1 ?_
            rw [i2l_n (by have := sh_lt hn; omega)]
            refine gd_cS1i dX8_falls_2 ct_8_221 ⟨Nat.le_of_ble_eq_true rfl, Nat.le_of_ble_eq_true rfl⟩ (Nat.le_of_ble_eq_true rfl) (Nat.le_of_ble_eq_true rfl) (c_isShake_t hn _) ?_
            refine gd_if_eq_f 24 dX8_falls_5 (by decide) (by decide) ?_
            refine gd_ald0 dX8_falls_8 (by decide) ?_
            refine gd_ild2 dX8_falls_9 ?_
            refine gd_cV1i dX8_falls_10 ct_8_74 rc_0 ⟨Nat.le_of_ble_eq_true rfl, Nat.le_of_ble_eq_true rfl⟩ (Nat.le_of_ble_eq_true rfl) (Nat.le_of_ble_eq_true rfl) (c_isTown_t i.w i.c ht) ?_
            refine gd_if_eq_f 24 dX8_falls_13 (by decide) (by decide) ?_
            refine gd_ild3 dX8_falls_16 ?_
            refine gd_ic4 dX8_falls_17 ?_
            refine gd_cS2i dX8_falls_18 ct_8_48 ⟨Nat.le_of_ble_eq_true rfl, Nat.le_of_ble_eq_true rfl⟩ (Nat.le_of_ble_eq_true rfl) (Nat.le_of_ble_eq_true rfl) (c_isBelow_t (t := 2) (n := 4) (by decide) (by decide) _) ?_
            refine gd_if_ne_t 31 dX8_falls_21 (by decide) (by decide) ?_
            refine gd_ald0 dX8_falls_31 (by decide) ?_
            refine gd_getR (r := 60) dX8_falls_32 fl_8_40 rfl rfl rfl (by decide) ?_
            refine gd_ald0 dX8_falls_35 (by decide) ?_
            refine gd_getR (r := 1) dX8_falls_36 fl_8_12 rfl rfl rfl (by decide) ?_
            refine gd_icm1 dX8_falls_39 ?_
            refine gd_cV2v dX8_falls_40 ct_8_211 rc_60 ⟨Nat.le_of_ble_eq_true rfl, Nat.le_of_ble_eq_true rfl⟩ (Nat.le_of_ble_eq_true rfl) (Nat.le_of_ble_eq_true rfl) (gt) ?_
            refine gd_ald0 dX8_falls_43 (by decide) ?_
            refine gd_getR (r := 60) dX8_falls_44 fl_8_40 rfl rfl rfl (by decide) ?_
            refine gd_ild1 dX8_falls_47 ?_
            refine gd_ild2 dX8_falls_48 ?_
            refine gd_cV2i dX8_falls_49 ct_8_225 rc_60 ⟨Nat.le_of_ble_eq_true rfl, Nat.le_of_ble_eq_true rfl⟩ (Nat.le_of_ble_eq_true rfl) (Nat.le_of_ble_eq_true rfl) (c_stepOf i.w v1 ht hn) ?_
            refine gd_ist4 dX8_falls_52 rfl ?_
            refine gd_ild3 dX8_falls_54 ?_
            refine gd_ic3 dX8_falls_55 ?_
            refine gd_icmp_ge_f 74 dX8_falls_56 (by decide) (by decide) ?_
            refine gd_ald0 dX8_falls_59 (by decide) ?_
            refine gd_getR (r := 1) dX8_falls_60 fl_8_12 rfl rfl rfl (by decide) ?_
            refine gd_getR (r := 2) dX8_falls_63 fl_8_57 rfl rfl rfl (by decide) ?_
            refine gd_ild2 dX8_falls_66 ?_
            refine gd_ild3 dX8_falls_67 ?_
            refine gd_ild4 dX8_falls_68 ?_
            refine gd_cV3i dX8_falls_70 ct_8_253 rc_2 ⟨Nat.le_of_ble_eq_true rfl, Nat.le_of_ble_eq_true rfl⟩ (Nat.le_of_ble_eq_true rfl) (Nat.le_of_ble_eq_true rfl) (c_fallen2 (by omega) (e5 2 (by decide)) (u5 2 (by decide)) sl) ?_
            refine gd_iret dX8_falls_73 rfl rfl ?_
            rfl
          · refine gd_ild1 dX9_falls_0 ?_
            refine gd_i2l dX9_falls_1 ?_
            rw [i2l_n (by have := sh_lt hn; omega)]
            refine gd_cS1i dX9_falls_2 ct_9_225 ⟨Nat.le_of_ble_eq_true rfl, Nat.le_of_ble_eq_true rfl⟩ (Nat.le_of_ble_eq_true rfl) (Nat.le_of_ble_eq_true rfl) (m_isShake_t hn _) ?_
            refine gd_if_eq_f 25 dX9_falls_5 (by decide) (by decide) ?_
            refine gd_ald0 dX9_falls_8 (by decide) ?_
            refine gd_ild2 dX9_falls_9 ?_
            refine gd_cV1i dX9_falls_10 ct_9_101 rc_72 ⟨Nat.le_of_ble_eq_true rfl, Nat.le_of_ble_eq_true rfl⟩ (Nat.le_of_ble_eq_true rfl) (Nat.le_of_ble_eq_true rfl) (m_isTown_t (h := h1) (by rw [e1]; exact i.w) (by rw [e1]; exact ht)) ?_
            refine gd_if_eq_f 25 dX9_falls_13 (by decide) (by decide) ?_
            refine gd_ild3 dX9_falls_16 ?_
            refine gd_ic0 dX9_falls_17 ?_
            refine gd_ic3 dX9_falls_18 ?_
            refine gd_cS3i dX9_falls_19 ct_9_79 ⟨Nat.le_of_ble_eq_true rfl, Nat.le_of_ble_eq_true rfl⟩ (Nat.le_of_ble_eq_true rfl) (Nat.le_of_ble_eq_true rfl) (m_in_t (t := 2) (m := 3) (by decide) (by decide) _) ?_
            refine gd_if_ne_t 31 dX9_falls_22 (by decide) (by decide) ?_
            refine gd_ald0 dX9_falls_31 (by decide) ?_
            refine gd_icm1 dX9_falls_32 ?_
            refine gd_cV1v dX9_falls_33 ct_9_216 rc_72 ⟨Nat.le_of_ble_eq_true rfl, Nat.le_of_ble_eq_true rfl⟩ (Nat.le_of_ble_eq_true rfl) (Nat.le_of_ble_eq_true rfl) (gp) ?_
            refine gd_ald0 dX9_falls_36 (by decide) ?_
            refine gd_ild1 dX9_falls_37 ?_
            refine gd_ild2 dX9_falls_38 ?_
            refine gd_cV2i dX9_falls_39 ct_9_219 rc_72 ⟨Nat.le_of_ble_eq_true rfl, Nat.le_of_ble_eq_true rfl⟩ (Nat.le_of_ble_eq_true rfl) (Nat.le_of_ble_eq_true rfl) (m_stepOf i.w v2 ht hn) ?_
            refine gd_ist4 dX9_falls_42 rfl ?_
            refine gd_ic0 dX9_falls_44 ?_
            refine gd_ist5 dX9_falls_45 rfl ?_
            refine gd_ic0 dX9_falls_47 ?_
            refine gd_ist6 dX9_falls_48 rfl ?_
            refine gd_ild6 dX9_falls_50 ?_
            refine gd_ic3 dX9_falls_52 ?_
            refine gd_icmp_ge_f 104 dX9_falls_53 (by decide) (by decide) ?_
            refine gd_ild5 dX9_falls_56 ?_
            refine gd_ild3 dX9_falls_58 ?_
            refine gd_ic3 dX9_falls_59 ?_
            refine gd_icmp_eq_f 69 dX9_falls_60 (by decide) (by decide) ?_
            refine gd_ild3 dX9_falls_63 ?_
            refine gd_ild6 dX9_falls_64 ?_
            refine gd_icmp_ne_t 94 dX9_falls_66 (by decide) (by decide) ?_
            refine gd_ic0 dX9_falls_94 ?_
            refine gd_iadd dX9_falls_95 ?_
            refine gd_ist5 dX9_falls_96 rfl ?_
            refine gd_iinc6 (b := nI 1) dX9_falls_98 (by decide) rfl ?_
            refine gd_goto 50 dX9_falls_101 (by decide) ?_
            refine gd_ild6 dX9_falls_50 ?_
            refine gd_ic3 dX9_falls_52 ?_
            refine gd_icmp_ge_f 104 dX9_falls_53 (by decide) (by decide) ?_
            refine gd_ild5 dX9_falls_56 ?_
            refine gd_ild3 dX9_falls_58 ?_
            refine gd_ic3 dX9_falls_59 ?_
            refine gd_icmp_eq_f 69 dX9_falls_60 (by decide) (by decide) ?_
            refine gd_ild3 dX9_falls_63 ?_
            refine gd_ild6 dX9_falls_64 ?_
            refine gd_icmp_ne_t 94 dX9_falls_66 (by decide) (by decide) ?_
            refine gd_ic0 dX9_falls_94 ?_
            refine gd_iadd dX9_falls_95 ?_
            refine gd_ist5 dX9_falls_96 rfl ?_
            refine gd_iinc6 (b := nI 1) dX9_falls_98 (by decide) rfl ?_
            refine gd_goto 50 dX9_falls_101 (by decide) ?_
            refine gd_ild6 dX9_falls_50 ?_
            refine gd_ic3 dX9_falls_52 ?_
            refine gd_icmp_ge_f 104 dX9_falls_53 (by decide) (by decide) ?_
            refine gd_ild5 dX9_falls_56 ?_
            refine gd_ild3 dX9_falls_58 ?_
            refine gd_ic3 dX9_falls_59 ?_
            refine gd_icmp_eq_f 69 dX9_falls_60 (by decide) (by decide) ?_
            refine gd_ild3 dX9_falls_63 ?_
            refine gd_ild6 dX9_falls_64 ?_
            refine gd_icmp_ne_f 94 dX9_falls_66 (by decide) (by decide) ?_
            refine gd_ald0 dX9_falls_69 (by decide) ?_
            refine gd_ild4 dX9_falls_70 ?_
            refine gd_ald0 dX9_falls_72 (by decide) ?_
            refine gd_getR (r := 77) dX9_falls_73 fl_9_22 rfl rfl rfl (by decide) ?_
            refine gd_bipush (v := nI 6) dX9_falls_76 (by decide) ?_
            refine gd_ild2 dX9_falls_78 ?_
            refine gd_imul dX9_falls_79 ?_
            refine gd_ic3 dX9_falls_80 ?_
            refine gd_iadd dX9_falls_81 ?_
            refine gd_ild6 dX9_falls_82 ?_
            refine gd_iadd dX9_falls_84 ?_
            refine gd_iald (n := 96) dX9_falls_85 rfl (by decide) (by repeat' (first | with_reducible rfl | apply ni_add | apply ni_mul)) (by omega) ?_
            rw [show h2.1 77 (6 * t + 3 + 2) = nI (tn (ms h 3 (6 * t + 3 + 2))) by rw [← ms_r3 (by omega), v2.1]; exact w5 2 (by decide)]
            refine gd_ild6 dX9_falls_86 ?_
            refine gd_cV3i dX9_falls_88 ct_9_243 rc_72 ⟨Nat.le_of_ble_eq_true rfl, Nat.le_of_ble_eq_true rfl⟩ (Nat.le_of_ble_eq_true rfl) (Nat.le_of_ble_eq_true rfl) (m_fallOf2 (u5 2 (by decide)) sl _) ?_
            refine gd_goto 95 dX9_falls_91 (by decide) ?_
            refine gd_iadd dX9_falls_95 ?_
            refine gd_ist5 dX9_falls_96 rfl ?_
            refine gd_iinc6 (b := nI 1) dX9_falls_98 (by decide) rfl ?_
            refine gd_goto 50 dX9_falls_101 (by decide) ?_
            refine gd_ild6 dX9_falls_50 ?_
            refine gd_ic3 dX9_falls_52 ?_
            refine gd_icmp_ge_t 104 dX9_falls_53 (by decide) (by decide) ?_
            refine gd_ild5 dX9_falls_104 ?_
            refine gd_iret dX9_falls_106 rfl rfl ?_
            simp only [z_add, add_z]
        · subst z
          refine Pas.read (h1 := h1) (h2 := h2) (r := .int (nI 0 + nI (tn (ms h 3 (6 * t + 3 + 0)) * ihN 0 (stN (ms h) t (n / 1000) (n / 10 % 100) (n % 10)) / 100) + nI (tn (ms h 3 (6 * t + 3 + 1)) * ihN 1 (stN (ms h) t (n / 1000) (n / 10 % 100) (n % 10)) / 100) + nI (tn (ms h 3 (6 * t + 3 + 2)) * ihN 2 (stN (ms h) t (n / 1000) (n / 10 % 100) (n % 10)) / 100))) i rfl (f1).same (f2).same ?_ ?_
          · refine gd_ild1 dX8_falls_0 ?_
            refine gd_i2l dX8_falls_1 ?_
            rw [i2l_n (by have := sh_lt hn; omega)]
            refine gd_cS1i dX8_falls_2 ct_8_221 ⟨Nat.le_of_ble_eq_true rfl, Nat.le_of_ble_eq_true rfl⟩ (Nat.le_of_ble_eq_true rfl) (Nat.le_of_ble_eq_true rfl) (c_isShake_t hn _) ?_
            refine gd_if_eq_f 24 dX8_falls_5 (by decide) (by decide) ?_
            refine gd_ald0 dX8_falls_8 (by decide) ?_
            refine gd_ild2 dX8_falls_9 ?_
            refine gd_cV1i dX8_falls_10 ct_8_74 rc_0 ⟨Nat.le_of_ble_eq_true rfl, Nat.le_of_ble_eq_true rfl⟩ (Nat.le_of_ble_eq_true rfl) (Nat.le_of_ble_eq_true rfl) (c_isTown_t i.w i.c ht) ?_
            refine gd_if_eq_f 24 dX8_falls_13 (by decide) (by decide) ?_
            refine gd_ild3 dX8_falls_16 ?_
            refine gd_ic4 dX8_falls_17 ?_
            refine gd_cS2i dX8_falls_18 ct_8_48 ⟨Nat.le_of_ble_eq_true rfl, Nat.le_of_ble_eq_true rfl⟩ (Nat.le_of_ble_eq_true rfl) (Nat.le_of_ble_eq_true rfl) (c_isBelow_t (t := 3) (n := 4) (by decide) (by decide) _) ?_
            refine gd_if_ne_t 31 dX8_falls_21 (by decide) (by decide) ?_
            refine gd_ald0 dX8_falls_31 (by decide) ?_
            refine gd_getR (r := 60) dX8_falls_32 fl_8_40 rfl rfl rfl (by decide) ?_
            refine gd_ald0 dX8_falls_35 (by decide) ?_
            refine gd_getR (r := 1) dX8_falls_36 fl_8_12 rfl rfl rfl (by decide) ?_
            refine gd_icm1 dX8_falls_39 ?_
            refine gd_cV2v dX8_falls_40 ct_8_211 rc_60 ⟨Nat.le_of_ble_eq_true rfl, Nat.le_of_ble_eq_true rfl⟩ (Nat.le_of_ble_eq_true rfl) (Nat.le_of_ble_eq_true rfl) (gt) ?_
            refine gd_ald0 dX8_falls_43 (by decide) ?_
            refine gd_getR (r := 60) dX8_falls_44 fl_8_40 rfl rfl rfl (by decide) ?_
            refine gd_ild1 dX8_falls_47 ?_
            refine gd_ild2 dX8_falls_48 ?_
            refine gd_cV2i dX8_falls_49 ct_8_225 rc_60 ⟨Nat.le_of_ble_eq_true rfl, Nat.le_of_ble_eq_true rfl⟩ (Nat.le_of_ble_eq_true rfl) (Nat.le_of_ble_eq_true rfl) (c_stepOf i.w v1 ht hn) ?_
            refine gd_ist4 dX8_falls_52 rfl ?_
            refine gd_ild3 dX8_falls_54 ?_
            refine gd_ic3 dX8_falls_55 ?_
            refine gd_icmp_ge_t 74 dX8_falls_56 (by decide) (by decide) ?_
            refine gd_ic0 dX8_falls_74 ?_
            refine gd_ist5 dX8_falls_75 rfl ?_
            refine gd_ic0 dX8_falls_77 ?_
            refine gd_ist6 dX8_falls_78 rfl ?_
            refine gd_ild6 dX8_falls_80 ?_
            refine gd_ic3 dX8_falls_82 ?_
            refine gd_icmp_ge_f 112 dX8_falls_83 (by decide) (by decide) ?_
            refine gd_ild5 dX8_falls_86 ?_
            refine gd_ald0 dX8_falls_88 (by decide) ?_
            refine gd_getR (r := 1) dX8_falls_89 fl_8_12 rfl rfl rfl (by decide) ?_
            refine gd_getR (r := 2) dX8_falls_92 fl_8_57 rfl rfl rfl (by decide) ?_
            refine gd_ild2 dX8_falls_95 ?_
            refine gd_ild6 dX8_falls_96 ?_
            refine gd_ild4 dX8_falls_98 ?_
            refine gd_cV3i dX8_falls_100 ct_8_253 rc_2 ⟨Nat.le_of_ble_eq_true rfl, Nat.le_of_ble_eq_true rfl⟩ (Nat.le_of_ble_eq_true rfl) (Nat.le_of_ble_eq_true rfl) (c_fallen0 (by omega) (e5 0 (by decide)) (u5 0 (by decide)) sl) ?_
            refine gd_iadd dX8_falls_103 ?_
            refine gd_ist5 dX8_falls_104 rfl ?_
            refine gd_iinc6 (b := nI 1) dX8_falls_106 (by decide) rfl ?_
            refine gd_goto 80 dX8_falls_109 (by decide) ?_
            refine gd_ild6 dX8_falls_80 ?_
            refine gd_ic3 dX8_falls_82 ?_
            refine gd_icmp_ge_f 112 dX8_falls_83 (by decide) (by decide) ?_
            refine gd_ild5 dX8_falls_86 ?_
            refine gd_ald0 dX8_falls_88 (by decide) ?_
            refine gd_getR (r := 1) dX8_falls_89 fl_8_12 rfl rfl rfl (by decide) ?_
            refine gd_getR (r := 2) dX8_falls_92 fl_8_57 rfl rfl rfl (by decide) ?_
            refine gd_ild2 dX8_falls_95 ?_
            refine gd_ild6 dX8_falls_96 ?_
            refine gd_ild4 dX8_falls_98 ?_
            refine gd_cV3i dX8_falls_100 ct_8_253 rc_2 ⟨Nat.le_of_ble_eq_true rfl, Nat.le_of_ble_eq_true rfl⟩ (Nat.le_of_ble_eq_true rfl) (Nat.le_of_ble_eq_true rfl) (c_fallen1 (by omega) (e5 1 (by decide)) (u5 1 (by decide)) sl) ?_
            refine gd_iadd dX8_falls_103 ?_
            refine gd_ist5 dX8_falls_104 rfl ?_
            refine gd_iinc6 (b := nI 1) dX8_falls_106 (by decide) rfl ?_
            refine gd_goto 80 dX8_falls_109 (by decide) ?_
            refine gd_ild6 dX8_falls_80 ?_
            refine gd_ic3 dX8_falls_82 ?_
            refine gd_icmp_ge_f 112 dX8_falls_83 (by decide) (by decide) ?_
            refine gd_ild5 dX8_falls_86 ?_
            refine gd_ald0 dX8_falls_88 (by decide) ?_
            refine gd_getR (r := 1) dX8_falls_89 fl_8_12 rfl rfl rfl (by decide) ?_
            refine gd_getR (r := 2) dX8_falls_92 fl_8_57 rfl rfl rfl (by decide) ?_
            refine gd_ild2 dX8_falls_95 ?_
            refine gd_ild6 dX8_falls_96 ?_
            refine gd_ild4 dX8_falls_98 ?_
            refine gd_cV3i dX8_falls_100 ct_8_253 rc_2 ⟨Nat.le_of_ble_eq_true rfl, Nat.le_of_ble_eq_true rfl⟩ (Nat.le_of_ble_eq_true rfl) (Nat.le_of_ble_eq_true rfl) (c_fallen2 (by omega) (e5 2 (by decide)) (u5 2 (by decide)) sl) ?_
            refine gd_iadd dX8_falls_103 ?_
            refine gd_ist5 dX8_falls_104 rfl ?_
            refine gd_iinc6 (b := nI 1) dX8_falls_106 (by decide) rfl ?_
            refine gd_goto 80 dX8_falls_109 (by decide) ?_
            refine gd_ild6 dX8_falls_80 ?_
            refine gd_ic3 dX8_falls_82 ?_
            refine gd_icmp_ge_t 112 dX8_falls_83 (by decide) (by decide) ?_
            refine gd_ild5 dX8_falls_112 ?_
            refine gd_iret dX8_falls_114 rfl rfl ?_
            rfl
          · refine gd_ild1 dX9_falls_0 ?_
            refine gd_i2l dX9_falls_1 ?_
            rw [i2l_n (by have := sh_lt hn; omega)]
            refine gd_cS1i dX9_falls_2 ct_9_225 ⟨Nat.le_of_ble_eq_true rfl, Nat.le_of_ble_eq_true rfl⟩ (Nat.le_of_ble_eq_true rfl) (Nat.le_of_ble_eq_true rfl) (m_isShake_t hn _) ?_
            refine gd_if_eq_f 25 dX9_falls_5 (by decide) (by decide) ?_
            refine gd_ald0 dX9_falls_8 (by decide) ?_
            refine gd_ild2 dX9_falls_9 ?_
            refine gd_cV1i dX9_falls_10 ct_9_101 rc_72 ⟨Nat.le_of_ble_eq_true rfl, Nat.le_of_ble_eq_true rfl⟩ (Nat.le_of_ble_eq_true rfl) (Nat.le_of_ble_eq_true rfl) (m_isTown_t (h := h1) (by rw [e1]; exact i.w) (by rw [e1]; exact ht)) ?_
            refine gd_if_eq_f 25 dX9_falls_13 (by decide) (by decide) ?_
            refine gd_ild3 dX9_falls_16 ?_
            refine gd_ic0 dX9_falls_17 ?_
            refine gd_ic3 dX9_falls_18 ?_
            refine gd_cS3i dX9_falls_19 ct_9_79 ⟨Nat.le_of_ble_eq_true rfl, Nat.le_of_ble_eq_true rfl⟩ (Nat.le_of_ble_eq_true rfl) (Nat.le_of_ble_eq_true rfl) (m_in_t (t := 3) (m := 3) (by decide) (by decide) _) ?_
            refine gd_if_ne_t 31 dX9_falls_22 (by decide) (by decide) ?_
            refine gd_ald0 dX9_falls_31 (by decide) ?_
            refine gd_icm1 dX9_falls_32 ?_
            refine gd_cV1v dX9_falls_33 ct_9_216 rc_72 ⟨Nat.le_of_ble_eq_true rfl, Nat.le_of_ble_eq_true rfl⟩ (Nat.le_of_ble_eq_true rfl) (Nat.le_of_ble_eq_true rfl) (gp) ?_
            refine gd_ald0 dX9_falls_36 (by decide) ?_
            refine gd_ild1 dX9_falls_37 ?_
            refine gd_ild2 dX9_falls_38 ?_
            refine gd_cV2i dX9_falls_39 ct_9_219 rc_72 ⟨Nat.le_of_ble_eq_true rfl, Nat.le_of_ble_eq_true rfl⟩ (Nat.le_of_ble_eq_true rfl) (Nat.le_of_ble_eq_true rfl) (m_stepOf i.w v2 ht hn) ?_
            refine gd_ist4 dX9_falls_42 rfl ?_
            refine gd_ic0 dX9_falls_44 ?_
            refine gd_ist5 dX9_falls_45 rfl ?_
            refine gd_ic0 dX9_falls_47 ?_
            refine gd_ist6 dX9_falls_48 rfl ?_
            refine gd_ild6 dX9_falls_50 ?_
            refine gd_ic3 dX9_falls_52 ?_
            refine gd_icmp_ge_f 104 dX9_falls_53 (by decide) (by decide) ?_
            refine gd_ild5 dX9_falls_56 ?_
            refine gd_ild3 dX9_falls_58 ?_
            refine gd_ic3 dX9_falls_59 ?_
            refine gd_icmp_eq_t 69 dX9_falls_60 (by decide) (by decide) ?_
            refine gd_ald0 dX9_falls_69 (by decide) ?_
            refine gd_ild4 dX9_falls_70 ?_
            refine gd_ald0 dX9_falls_72 (by decide) ?_
            refine gd_getR (r := 77) dX9_falls_73 fl_9_22 rfl rfl rfl (by decide) ?_
            refine gd_bipush (v := nI 6) dX9_falls_76 (by decide) ?_
            refine gd_ild2 dX9_falls_78 ?_
            refine gd_imul dX9_falls_79 ?_
            refine gd_ic3 dX9_falls_80 ?_
            refine gd_iadd dX9_falls_81 ?_
            refine gd_ild6 dX9_falls_82 ?_
            refine gd_iadd dX9_falls_84 ?_
            refine gd_iald (n := 96) dX9_falls_85 rfl (by decide) (by repeat' (first | with_reducible rfl | apply ni_add | apply ni_mul)) (by omega) ?_
            rw [show h2.1 77 (6 * t + 3 + 0) = nI (tn (ms h 3 (6 * t + 3 + 0))) by rw [← ms_r3 (by omega), v2.1]; exact w5 0 (by decide)]
            refine gd_ild6 dX9_falls_86 ?_
            refine gd_cV3i dX9_falls_88 ct_9_243 rc_72 ⟨Nat.le_of_ble_eq_true rfl, Nat.le_of_ble_eq_true rfl⟩ (Nat.le_of_ble_eq_true rfl) (Nat.le_of_ble_eq_true rfl) (m_fallOf0 (u5 0 (by decide)) sl _) ?_
            refine gd_goto 95 dX9_falls_91 (by decide) ?_
            refine gd_iadd dX9_falls_95 ?_
            refine gd_ist5 dX9_falls_96 rfl ?_
            refine gd_iinc6 (b := nI 1) dX9_falls_98 (by decide) rfl ?_
            refine gd_goto 50 dX9_falls_101 (by decide) ?_
            refine gd_ild6 dX9_falls_50 ?_
            refine gd_ic3 dX9_falls_52 ?_
            refine gd_icmp_ge_f 104 dX9_falls_53 (by decide) (by decide) ?_
            refine gd_ild5 dX9_falls_56 ?_
            refine gd_ild3 dX9_falls_58 ?_
            refine gd_ic3 dX9_falls_59 ?_
            refine gd_icmp_eq_t 69 dX9_falls_60 (by decide) (by decide) ?_
            refine gd_ald0 dX9_falls_69 (by decide) ?_
            refine gd_ild4 dX9_falls_70 ?_
            refine gd_ald0 dX9_falls_72 (by decide) ?_
            refine gd_getR (r := 77) dX9_falls_73 fl_9_22 rfl rfl rfl (by decide) ?_
            refine gd_bipush (v := nI 6) dX9_falls_76 (by decide) ?_
            refine gd_ild2 dX9_falls_78 ?_
            refine gd_imul dX9_falls_79 ?_
            refine gd_ic3 dX9_falls_80 ?_
            refine gd_iadd dX9_falls_81 ?_
            refine gd_ild6 dX9_falls_82 ?_
            refine gd_iadd dX9_falls_84 ?_
            refine gd_iald (n := 96) dX9_falls_85 rfl (by decide) (by repeat' (first | with_reducible rfl | apply ni_add | apply ni_mul)) (by omega) ?_
            rw [show h2.1 77 (6 * t + 3 + 1) = nI (tn (ms h 3 (6 * t + 3 + 1))) by rw [← ms_r3 (by omega), v2.1]; exact w5 1 (by decide)]
            refine gd_ild6 dX9_falls_86 ?_
            refine gd_cV3i dX9_falls_88 ct_9_243 rc_72 ⟨Nat.le_of_ble_eq_true rfl, Nat.le_of_ble_eq_true rfl⟩ (Nat.le_of_ble_eq_true rfl) (Nat.le_of_ble_eq_true rfl) (m_fallOf1 (u5 1 (by decide)) sl _) ?_
            refine gd_goto 95 dX9_falls_91 (by decide) ?_
            refine gd_iadd dX9_falls_95 ?_
            refine gd_ist5 dX9_falls_96 rfl ?_
            refine gd_iinc6 (b := nI 1) dX9_falls_98 (by decide) rfl ?_
            refine gd_goto 50 dX9_falls_101 (by decide) ?_
            refine gd_ild6 dX9_falls_50 ?_
            refine gd_ic3 dX9_falls_52 ?_
            refine gd_icmp_ge_f 104 dX9_falls_53 (by decide) (by decide) ?_
            refine gd_ild5 dX9_falls_56 ?_
            refine gd_ild3 dX9_falls_58 ?_
            refine gd_ic3 dX9_falls_59 ?_
            refine gd_icmp_eq_t 69 dX9_falls_60 (by decide) (by decide) ?_
            refine gd_ald0 dX9_falls_69 (by decide) ?_
            refine gd_ild4 dX9_falls_70 ?_
            refine gd_ald0 dX9_falls_72 (by decide) ?_
            refine gd_getR (r := 77) dX9_falls_73 fl_9_22 rfl rfl rfl (by decide) ?_
            refine gd_bipush (v := nI 6) dX9_falls_76 (by decide) ?_
            refine gd_ild2 dX9_falls_78 ?_
            refine gd_imul dX9_falls_79 ?_
            refine gd_ic3 dX9_falls_80 ?_
            refine gd_iadd dX9_falls_81 ?_
            refine gd_ild6 dX9_falls_82 ?_
            refine gd_iadd dX9_falls_84 ?_
            refine gd_iald (n := 96) dX9_falls_85 rfl (by decide) (by repeat' (first | with_reducible rfl | apply ni_add | apply ni_mul)) (by omega) ?_
            rw [show h2.1 77 (6 * t + 3 + 2) = nI (tn (ms h 3 (6 * t + 3 + 2))) by rw [← ms_r3 (by omega), v2.1]; exact w5 2 (by decide)]
            refine gd_ild6 dX9_falls_86 ?_
            refine gd_cV3i dX9_falls_88 ct_9_243 rc_72 ⟨Nat.le_of_ble_eq_true rfl, Nat.le_of_ble_eq_true rfl⟩ (Nat.le_of_ble_eq_true rfl) (Nat.le_of_ble_eq_true rfl) (m_fallOf2 (u5 2 (by decide)) sl _) ?_
            refine gd_goto 95 dX9_falls_91 (by decide) ?_
            refine gd_iadd dX9_falls_95 ?_
            refine gd_ist5 dX9_falls_96 rfl ?_
            refine gd_iinc6 (b := nI 1) dX9_falls_98 (by decide) rfl ?_
            refine gd_goto 50 dX9_falls_101 (by decide) ?_
            refine gd_ild6 dX9_falls_50 ?_
            refine gd_ic3 dX9_falls_52 ?_
            refine gd_icmp_ge_t 104 dX9_falls_53 (by decide) (by decide) ?_
            refine gd_ild5 dX9_falls_104 ?_
            refine gd_iret dX9_falls_106 rfl rfl ?_
            rfl
      · refine Pas.find (h1 := h) (h2 := hf (h) 0) (v := -1000000001) (w := (-1000000000 : Int32) - nI 1) 0 i (by decide) (by decide) (by decide) (Same.rf _) (Same.rf _) ?_ ?_
        · refine gd_ild1 dX8_falls_0 ?_
          refine gd_i2l dX8_falls_1 ?_
          rw [i2l_n (by have := sh_lt hn; omega)]
          refine gd_cS1i dX8_falls_2 ct_8_221 ⟨Nat.le_of_ble_eq_true rfl, Nat.le_of_ble_eq_true rfl⟩ (Nat.le_of_ble_eq_true rfl) (Nat.le_of_ble_eq_true rfl) (c_isShake_t hn _) ?_
          refine gd_if_eq_f 24 dX8_falls_5 (by decide) (by decide) ?_
          refine gd_ald0 dX8_falls_8 (by decide) ?_
          refine gd_ild2 dX8_falls_9 ?_
          refine gd_cV1i dX8_falls_10 ct_8_74 rc_0 ⟨Nat.le_of_ble_eq_true rfl, Nat.le_of_ble_eq_true rfl⟩ (Nat.le_of_ble_eq_true rfl) (Nat.le_of_ble_eq_true rfl) (c_isTown_t i.w i.c ht) ?_
          refine gd_if_eq_f 24 dX8_falls_13 (by decide) (by decide) ?_
          refine gd_ild3 dX8_falls_16 ?_
          refine gd_ic4 dX8_falls_17 ?_
          refine gd_cS2i dX8_falls_18 ct_8_48 ⟨Nat.le_of_ble_eq_true rfl, Nat.le_of_ble_eq_true rfl⟩ (Nat.le_of_ble_eq_true rfl) (Nat.le_of_ble_eq_true rfl) (c_isBelow_f hc _) ?_
          refine gd_if_ne_f 31 dX8_falls_21 (by decide) (by decide) ?_
          refine gd_ald0 dX8_falls_24 (by decide) ?_
          refine gd_ldc dX8_falls_25 ld_8_52 ?_
          refine gd_cV1i dX8_falls_27 ct_8_53 rc_0 ⟨Nat.le_of_ble_eq_true rfl, Nat.le_of_ble_eq_true rfl⟩ (Nat.le_of_ble_eq_true rfl) (Nat.le_of_ble_eq_true rfl) (c_f0 _) ?_
          refine gd_iret dX8_falls_30 rfl rfl ?_
          rfl
        · refine gd_ild1 dX9_falls_0 ?_
          refine gd_i2l dX9_falls_1 ?_
          rw [i2l_n (by have := sh_lt hn; omega)]
          refine gd_cS1i dX9_falls_2 ct_9_225 ⟨Nat.le_of_ble_eq_true rfl, Nat.le_of_ble_eq_true rfl⟩ (Nat.le_of_ble_eq_true rfl) (Nat.le_of_ble_eq_true rfl) (m_isShake_t hn _) ?_
          refine gd_if_eq_f 25 dX9_falls_5 (by decide) (by decide) ?_
          refine gd_ald0 dX9_falls_8 (by decide) ?_
          refine gd_ild2 dX9_falls_9 ?_
          refine gd_cV1i dX9_falls_10 ct_9_101 rc_72 ⟨Nat.le_of_ble_eq_true rfl, Nat.le_of_ble_eq_true rfl⟩ (Nat.le_of_ble_eq_true rfl) (Nat.le_of_ble_eq_true rfl) (m_isTown_t (h := hf h 0) (by exact i.w) ht) ?_
          refine gd_if_eq_f 25 dX9_falls_13 (by decide) (by decide) ?_
          refine gd_ild3 dX9_falls_16 ?_
          refine gd_ic0 dX9_falls_17 ?_
          refine gd_ic3 dX9_falls_18 ?_
          refine gd_cS3i dX9_falls_19 ct_9_79 ⟨Nat.le_of_ble_eq_true rfl, Nat.le_of_ble_eq_true rfl⟩ (Nat.le_of_ble_eq_true rfl) (Nat.le_of_ble_eq_true rfl) (m_in_f (n := 4) (by decide) (by decide) hc _) ?_
          refine gd_if_ne_f 31 dX9_falls_22 (by decide) (by decide) ?_
          refine gd_ald0 dX9_falls_25 (by decide) ?_
          refine gd_ic1 dX9_falls_26 ?_
          refine gd_cV1i dX9_falls_27 ct_9_97 rc_72 ⟨Nat.le_of_ble_eq_true rfl, Nat.le_of_ble_eq_true rfl⟩ (Nat.le_of_ble_eq_true rfl) (Nat.le_of_ble_eq_true rfl) (m_f0 _) ?_
          refine gd_iret dX9_falls_30 rfl rfl ?_
          rfl
    · refine Pas.find (h1 := h) (h2 := hf (h) 0) (v := -1000000001) (w := (-1000000000 : Int32) - nI 1) 0 i (by decide) (by decide) (by decide) (Same.rf _) (Same.rf _) ?_ ?_
      · refine gd_ild1 dX8_falls_0 ?_
        refine gd_i2l dX8_falls_1 ?_
        rw [i2l_n (by have := sh_lt hn; omega)]
        refine gd_cS1i dX8_falls_2 ct_8_221 ⟨Nat.le_of_ble_eq_true rfl, Nat.le_of_ble_eq_true rfl⟩ (Nat.le_of_ble_eq_true rfl) (Nat.le_of_ble_eq_true rfl) (c_isShake_t hn _) ?_
        refine gd_if_eq_f 24 dX8_falls_5 (by decide) (by decide) ?_
        refine gd_ald0 dX8_falls_8 (by decide) ?_
        refine gd_ild2 dX8_falls_9 ?_
        refine gd_cV1i dX8_falls_10 ct_8_74 rc_0 ⟨Nat.le_of_ble_eq_true rfl, Nat.le_of_ble_eq_true rfl⟩ (Nat.le_of_ble_eq_true rfl) (Nat.le_of_ble_eq_true rfl) (c_isTown_f i.w i.c ha) ?_
        refine gd_if_eq_t 24 dX8_falls_13 (by decide) (by decide) ?_
        refine gd_ald0 dX8_falls_24 (by decide) ?_
        refine gd_ldc dX8_falls_25 ld_8_52 ?_
        refine gd_cV1i dX8_falls_27 ct_8_53 rc_0 ⟨Nat.le_of_ble_eq_true rfl, Nat.le_of_ble_eq_true rfl⟩ (Nat.le_of_ble_eq_true rfl) (Nat.le_of_ble_eq_true rfl) (c_f0 _) ?_
        refine gd_iret dX8_falls_30 rfl rfl ?_
        rfl
      · refine gd_ild1 dX9_falls_0 ?_
        refine gd_i2l dX9_falls_1 ?_
        rw [i2l_n (by have := sh_lt hn; omega)]
        refine gd_cS1i dX9_falls_2 ct_9_225 ⟨Nat.le_of_ble_eq_true rfl, Nat.le_of_ble_eq_true rfl⟩ (Nat.le_of_ble_eq_true rfl) (Nat.le_of_ble_eq_true rfl) (m_isShake_t hn _) ?_
        refine gd_if_eq_f 25 dX9_falls_5 (by decide) (by decide) ?_
        refine gd_ald0 dX9_falls_8 (by decide) ?_
        refine gd_ild2 dX9_falls_9 ?_
        refine gd_cV1i dX9_falls_10 ct_9_101 rc_72 ⟨Nat.le_of_ble_eq_true rfl, Nat.le_of_ble_eq_true rfl⟩ (Nat.le_of_ble_eq_true rfl) (Nat.le_of_ble_eq_true rfl) (m_isTown_f (h := hf h 0) (by exact i.w) ha) ?_
        refine gd_if_eq_t 25 dX9_falls_13 (by decide) (by decide) ?_
        refine gd_ald0 dX9_falls_25 (by decide) ?_
        refine gd_ic1 dX9_falls_26 ?_
        refine gd_cV1i dX9_falls_27 ct_9_97 rc_72 ⟨Nat.le_of_ble_eq_true rfl, Nat.le_of_ble_eq_true rfl⟩ (Nat.le_of_ble_eq_true rfl) (Nat.le_of_ble_eq_true rfl) (m_f0 _) ?_
        refine gd_iret dX9_falls_30 rfl rfl ?_
        rfl
  · refine Pas.find (h1 := h) (h2 := hf (h) 0) (v := -1000000001) (w := (-1000000000 : Int32) - nI 1) 0 i (by decide) (by decide) (by decide) (Same.rf _) (Same.rf _) ?_ ?_
    · refine gd_ild1 dX8_falls_0 ?_
      refine gd_i2l dX8_falls_1 ?_
      refine gd_cS1i dX8_falls_2 ct_8_221 ⟨Nat.le_of_ble_eq_true rfl, Nat.le_of_ble_eq_true rfl⟩ (Nat.le_of_ble_eq_true rfl) (Nat.le_of_ble_eq_true rfl) (c_isShake_f hs _) ?_
      refine gd_if_eq_t 24 dX8_falls_5 (by decide) (by decide) ?_
      refine gd_ald0 dX8_falls_24 (by decide) ?_
      refine gd_ldc dX8_falls_25 ld_8_52 ?_
      refine gd_cV1i dX8_falls_27 ct_8_53 rc_0 ⟨Nat.le_of_ble_eq_true rfl, Nat.le_of_ble_eq_true rfl⟩ (Nat.le_of_ble_eq_true rfl) (Nat.le_of_ble_eq_true rfl) (c_f0 _) ?_
      refine gd_iret dX8_falls_30 rfl rfl ?_
      rfl
    · refine gd_ild1 dX9_falls_0 ?_
      refine gd_i2l dX9_falls_1 ?_
      refine gd_cS1i dX9_falls_2 ct_9_225 ⟨Nat.le_of_ble_eq_true rfl, Nat.le_of_ble_eq_true rfl⟩ (Nat.le_of_ble_eq_true rfl) (Nat.le_of_ble_eq_true rfl) (m_isShake_f hs _) ?_
      refine gd_if_eq_t 25 dX9_falls_5 (by decide) (by decide) ?_
      refine gd_ald0 dX9_falls_25 (by decide) ?_
      refine gd_ic1 dX9_falls_26 ?_
      refine gd_cV1i dX9_falls_27 ct_9_97 rc_72 ⟨Nat.le_of_ble_eq_true rfl, Nat.le_of_ble_eq_true rfl⟩ (Nat.le_of_ble_eq_true rfl) (Nat.le_of_ble_eq_true rfl) (m_f0 _) ?_
      refine gd_iret dX9_falls_30 rfl rfl ?_
      rfl

theorem one_ok : ∀ f, f < 12 → ∀ l, l < 12 → ∀ z, z < 12 → f ≤ l → (stS f l 0 0 = 2 ^ z ↔ f = l ∧ f = z) := by decide +kernel
def wdN (s : Nat → Nat → Int32) (l : Nat) : Nat := tn (s 4 (9 * l + 2))
def ltN (s : Nat → Nat → Int32) (l : Nat) : Nat := tn (s 4 (9 * l + 1))
theorem lw_ok {s : Nat → Nat → Int32} (w : WF s) {l : Nat} (hl : l < nN s) : s 4 (9 * l + 2) = nI (wdN s l) ∧ wdN s l < 16 ∧ s 4 (9 * l + 1) = nI (ltN s l) ∧ ltN s l < nT s := by
  obtain ⟨k, t, x, d, r, q, z, y, a1, a2, a3, a4, a5, a6, a7, a8, b1, b2, b3, b4, b5, b6, b7, b8, b9, b10⟩ := w.l l hl
  have := w.t.2
  have e1 : wdN s l = x := by unfold wdN; rw [a3]; exact tn_nI (by omega)
  have e2 : ltN s l = t := by unfold ltN; rw [a2]; exact tn_nI (by omega)
  rw [e1, e2]; exact ⟨a3, by omega, a2, b2⟩
def fiP (s : Nat → Nat → Int32) (g : Int32) (n l : Nat) : Bool := cB s g (nN s) l && decide (mF s (wdN s l) = mL s (wdN s l) ∧ mF s (wdN s l) = stN s (ltN s l) (n / 1000) (n / 10 % 100) (n % 10))
set_option maxHeartbeats 2000000 in
theorem p_fits {h : Hp} (i : Inv h) (a : Int32) : Pas mX8_fits mX9_fits [.ref 0, .int a, .null, .null, .null, .null] [.ref 72, .int a, .null, .null, .null, .null] h := by
  rcases shI a with ⟨n, hn, rfl⟩ | hs
  · have lN := i.lN
    have lT := i.lT
    have cl := cS_lt i.w (-1)
    obtain ⟨h1, gt, f1, v1⟩ := c_take i.w i.c (-1)
    have c1 := f1.cr i.c
    have e1 : ms (h1) = ms h := (f1).same.msE
    obtain ⟨h2, gp, f2, v2⟩ := m_prepare (h := h1) (by rw [e1]; exact i.w) (-1)
    rw [e1] at v2
    have en := PV.n i.w v2
    have k8 : ∀ l5, Gd mX8_fits 41 [.ref 0, .int (nI n), .int (nI (cS (ms h) (-1))), .int (nI (bset (fiP (ms h) (-1) n) 0)), .int (nI 0), l5] [] h1 (some (.int (nI (bset (fiP (ms h) (-1) n) (nN (ms h))))), h1) := by
      refine loopG (P := fun l => ∀ l5, Gd mX8_fits 41 [.ref 0, .int (nI n), .int (nI (cS (ms h) (-1))), .int (nI (bset (fiP (ms h) (-1) n) l)), .int (nI l), l5] [] h1 (some (.int (nI (bset (fiP (ms h) (-1) n) (nN (ms h))))), h1)) (n := nN (ms h)) ?_ ?_ 0 (by omega)
      · intro l5
        refine gd_ild4 dX8_fits_41 ?_
        refine gd_ald0 dX8_fits_43 (by decide) ?_
        refine gd_getR (r := 1) dX8_fits_44 fl_8_12 rfl rfl rfl (by decide) ?_
        refine gd_getR (r := 6) dX8_fits_47 fl_8_100 rfl rfl rfl (by decide) ?_
        refine gd_getI dX8_fits_50 fl_8_135 rfl rfl ?_
        refine gd_icmp_ge_t 129 dX8_fits_53 (by decide) (by rw [c1.n1.trans i.w.n.1]; exact nI_le (by omega) (by omega)) ?_
        refine gd_ild3 dX8_fits_129 ?_
        refine gd_iret dX8_fits_130 rfl rfl ?_
        rfl
      · intro l hl ih
        have lw := lw_ok i.w hl
        have sl := stN_le (ms h) (ltN (ms h) l) (n / 1000) (n / 10 % 100) (n % 10)
        have mo := mm_ok i.w lw.2.1
        have oo := one_ok (mF (ms h) (wdN (ms h) l)) (by omega) (mL (ms h) (wdN (ms h) l)) (by omega) (stN (ms h) (ltN (ms h) l) (n / 1000) (n / 10 % 100) (n % 10)) (by omega) mo.1
        intro l5
        cases hb : cB (ms h) (-1) (nN (ms h)) l with
        | false =>
          have hp : (fiP (ms h) (-1) n) l = false := by unfold fiP; rw [hb]; rfl
          refine gd_ild4 dX8_fits_41 ?_
          refine gd_ald0 dX8_fits_43 (by decide) ?_
          refine gd_getR (r := 1) dX8_fits_44 fl_8_12 rfl rfl rfl (by decide) ?_
          refine gd_getR (r := 6) dX8_fits_47 fl_8_100 rfl rfl rfl (by decide) ?_
          refine gd_getI dX8_fits_50 fl_8_135 rfl rfl ?_
          refine gd_icmp_ge_f 129 dX8_fits_53 (by decide) (by rw [c1.n1.trans i.w.n.1]; exact nI_ge (by omega) (by omega)) ?_
          refine gd_ic1 dX8_fits_56 ?_
          refine gd_ald0 dX8_fits_57 (by decide) ?_
          refine gd_getR (r := 60) dX8_fits_58 fl_8_40 rfl rfl rfl (by decide) ?_
          refine gd_ild1 dX8_fits_61 ?_
          refine gd_ald0 dX8_fits_62 (by decide) ?_
          refine gd_getR (r := 1) dX8_fits_63 fl_8_12 rfl rfl rfl (by decide) ?_
          refine gd_getR (r := 6) dX8_fits_66 fl_8_100 rfl rfl rfl (by decide) ?_
          refine gd_getR (r := 8) dX8_fits_69 fl_8_218 rfl rfl rfl (by decide) ?_
          refine gd_ild4 dX8_fits_72 ?_
          refine gd_iald (n := 30) dX8_fits_74 rfl (by decide) (by repeat' (first | with_reducible rfl | apply ni_add | apply ni_mul)) (by omega) ?_
          rw [c1.lt1 l hl, lw.2.2.1]
          refine gd_cV2i dX8_fits_75 ct_8_225 rc_60 ⟨Nat.le_of_ble_eq_true rfl, Nat.le_of_ble_eq_true rfl⟩ (Nat.le_of_ble_eq_true rfl) (Nat.le_of_ble_eq_true rfl) (c_stepOf i.w v1 lw.2.2.2 hn) ?_
          refine gd_ishl dX8_fits_78 ?_
          rw [shl_nI (by omega)]
          refine gd_ist5 dX8_fits_79 rfl ?_
          refine gd_ild2 dX8_fits_81 ?_
          refine gd_ild4 dX8_fits_82 ?_
          refine gd_ishr dX8_fits_84 ?_
          refine gd_ic1 dX8_fits_85 ?_
          refine gd_iand dX8_fits_86 ?_
          rw [bit_nI (by omega) (by omega), cS_bit hl]
          refine gd_ic1 dX8_fits_87 ?_
          refine gd_icmp_ne_t 123 dX8_fits_88 (by decide) (by rw [hb]; decide) ?_
          refine gd_iinc4 (b := nI 1) dX8_fits_123 (by decide) rfl ?_
          rw [nI_add]
          refine gd_goto 41 dX8_fits_126 (by decide) ?_
          have ih := ih (.int (nI (2 ^ (stN (ms h) (ltN (ms h) l) (n / 1000) (n / 10 % 100) (n % 10)))))
          rw [bset_no (p := (fiP (ms h) (-1) n)) hp] at ih
          exact ih
        | true =>
          have sb := stS_lt (mF (ms h) (wdN (ms h) l)) (mL (ms h) (wdN (ms h) l)) 0 0
          have tb : 2 ^ (stN (ms h) (ltN (ms h) l) (n / 1000) (n / 10 % 100) (n % 10)) ≤ 2 ^ 11 := Nat.pow_le_pow_right (by decide) sl
          by_cases e : mF (ms h) (wdN (ms h) l) = mL (ms h) (wdN (ms h) l) ∧ mF (ms h) (wdN (ms h) l) = (stN (ms h) (ltN (ms h) l) (n / 1000) (n / 10 % 100) (n % 10))
          · have hp : (fiP (ms h) (-1) n) l = true := by unfold fiP; rw [hb, decide_eq_true e]; rfl
            refine gd_ild4 dX8_fits_41 ?_
            refine gd_ald0 dX8_fits_43 (by decide) ?_
            refine gd_getR (r := 1) dX8_fits_44 fl_8_12 rfl rfl rfl (by decide) ?_
            refine gd_getR (r := 6) dX8_fits_47 fl_8_100 rfl rfl rfl (by decide) ?_
            refine gd_getI dX8_fits_50 fl_8_135 rfl rfl ?_
            refine gd_icmp_ge_f 129 dX8_fits_53 (by decide) (by rw [c1.n1.trans i.w.n.1]; exact nI_ge (by omega) (by omega)) ?_
            refine gd_ic1 dX8_fits_56 ?_
            refine gd_ald0 dX8_fits_57 (by decide) ?_
            refine gd_getR (r := 60) dX8_fits_58 fl_8_40 rfl rfl rfl (by decide) ?_
            refine gd_ild1 dX8_fits_61 ?_
            refine gd_ald0 dX8_fits_62 (by decide) ?_
            refine gd_getR (r := 1) dX8_fits_63 fl_8_12 rfl rfl rfl (by decide) ?_
            refine gd_getR (r := 6) dX8_fits_66 fl_8_100 rfl rfl rfl (by decide) ?_
            refine gd_getR (r := 8) dX8_fits_69 fl_8_218 rfl rfl rfl (by decide) ?_
            refine gd_ild4 dX8_fits_72 ?_
            refine gd_iald (n := 30) dX8_fits_74 rfl (by decide) (by repeat' (first | with_reducible rfl | apply ni_add | apply ni_mul)) (by omega) ?_
            rw [c1.lt1 l hl, lw.2.2.1]
            refine gd_cV2i dX8_fits_75 ct_8_225 rc_60 ⟨Nat.le_of_ble_eq_true rfl, Nat.le_of_ble_eq_true rfl⟩ (Nat.le_of_ble_eq_true rfl) (Nat.le_of_ble_eq_true rfl) (c_stepOf i.w v1 lw.2.2.2 hn) ?_
            refine gd_ishl dX8_fits_78 ?_
            rw [shl_nI (by omega)]
            refine gd_ist5 dX8_fits_79 rfl ?_
            refine gd_ild2 dX8_fits_81 ?_
            refine gd_ild4 dX8_fits_82 ?_
            refine gd_ishr dX8_fits_84 ?_
            refine gd_ic1 dX8_fits_85 ?_
            refine gd_iand dX8_fits_86 ?_
            rw [bit_nI (by omega) (by omega), cS_bit hl]
            refine gd_ic1 dX8_fits_87 ?_
            refine gd_icmp_ne_f 123 dX8_fits_88 (by decide) (by rw [hb]; decide) ?_
            refine gd_ald0 dX8_fits_91 (by decide) ?_
            refine gd_getR (r := 1) dX8_fits_92 fl_8_12 rfl rfl rfl (by decide) ?_
            refine gd_ald0 dX8_fits_95 (by decide) ?_
            refine gd_getR (r := 1) dX8_fits_96 fl_8_12 rfl rfl rfl (by decide) ?_
            refine gd_getR (r := 6) dX8_fits_99 fl_8_100 rfl rfl rfl (by decide) ?_
            refine gd_getR (r := 9) dX8_fits_102 fl_8_159 rfl rfl rfl (by decide) ?_
            refine gd_ild4 dX8_fits_105 ?_
            refine gd_iald (n := 30) dX8_fits_107 rfl (by decide) (by repeat' (first | with_reducible rfl | apply ni_add | apply ni_mul)) (by omega) ?_
            rw [c1.lw1 l hl, lw.1]
            refine gd_cV1i dX8_fits_108 ct_8_202 rc_1 ⟨Nat.le_of_ble_eq_true rfl, Nat.le_of_ble_eq_true rfl⟩ (Nat.le_of_ble_eq_true rfl) (Nat.le_of_ble_eq_true rfl) (c_meaningSet i.w c1 lw.2.1) ?_
            refine gd_ild5 dX8_fits_111 ?_
            refine gd_icmp_ne_f 123 dX8_fits_113 (by decide) (congrArg nI (oo.mpr e)) ?_
            refine gd_ild3 dX8_fits_116 ?_
            refine gd_ic1 dX8_fits_117 ?_
            refine gd_ild4 dX8_fits_118 ?_
            refine gd_ishl dX8_fits_120 ?_
            refine gd_ior dX8_fits_121 ?_
            rw [bset_or (p := (fiP (ms h) (-1) n)) hp (by omega)]
            refine gd_ist3 dX8_fits_122 rfl ?_
            refine gd_iinc4 (b := nI 1) dX8_fits_123 (by decide) rfl ?_
            rw [nI_add]
            refine gd_goto 41 dX8_fits_126 (by decide) ?_
            exact ih _
          · have hp : (fiP (ms h) (-1) n) l = false := by unfold fiP; rw [hb, decide_eq_false e]; rfl
            refine gd_ild4 dX8_fits_41 ?_
            refine gd_ald0 dX8_fits_43 (by decide) ?_
            refine gd_getR (r := 1) dX8_fits_44 fl_8_12 rfl rfl rfl (by decide) ?_
            refine gd_getR (r := 6) dX8_fits_47 fl_8_100 rfl rfl rfl (by decide) ?_
            refine gd_getI dX8_fits_50 fl_8_135 rfl rfl ?_
            refine gd_icmp_ge_f 129 dX8_fits_53 (by decide) (by rw [c1.n1.trans i.w.n.1]; exact nI_ge (by omega) (by omega)) ?_
            refine gd_ic1 dX8_fits_56 ?_
            refine gd_ald0 dX8_fits_57 (by decide) ?_
            refine gd_getR (r := 60) dX8_fits_58 fl_8_40 rfl rfl rfl (by decide) ?_
            refine gd_ild1 dX8_fits_61 ?_
            refine gd_ald0 dX8_fits_62 (by decide) ?_
            refine gd_getR (r := 1) dX8_fits_63 fl_8_12 rfl rfl rfl (by decide) ?_
            refine gd_getR (r := 6) dX8_fits_66 fl_8_100 rfl rfl rfl (by decide) ?_
            refine gd_getR (r := 8) dX8_fits_69 fl_8_218 rfl rfl rfl (by decide) ?_
            refine gd_ild4 dX8_fits_72 ?_
            refine gd_iald (n := 30) dX8_fits_74 rfl (by decide) (by repeat' (first | with_reducible rfl | apply ni_add | apply ni_mul)) (by omega) ?_
            rw [c1.lt1 l hl, lw.2.2.1]
            refine gd_cV2i dX8_fits_75 ct_8_225 rc_60 ⟨Nat.le_of_ble_eq_true rfl, Nat.le_of_ble_eq_true rfl⟩ (Nat.le_of_ble_eq_true rfl) (Nat.le_of_ble_eq_true rfl) (c_stepOf i.w v1 lw.2.2.2 hn) ?_
            refine gd_ishl dX8_fits_78 ?_
            rw [shl_nI (by omega)]
            refine gd_ist5 dX8_fits_79 rfl ?_
            refine gd_ild2 dX8_fits_81 ?_
            refine gd_ild4 dX8_fits_82 ?_
            refine gd_ishr dX8_fits_84 ?_
            refine gd_ic1 dX8_fits_85 ?_
            refine gd_iand dX8_fits_86 ?_
            rw [bit_nI (by omega) (by omega), cS_bit hl]
            refine gd_ic1 dX8_fits_87 ?_
            refine gd_icmp_ne_f 123 dX8_fits_88 (by decide) (by rw [hb]; decide) ?_
            refine gd_ald0 dX8_fits_91 (by decide) ?_
            refine gd_getR (r := 1) dX8_fits_92 fl_8_12 rfl rfl rfl (by decide) ?_
            refine gd_ald0 dX8_fits_95 (by decide) ?_
            refine gd_getR (r := 1) dX8_fits_96 fl_8_12 rfl rfl rfl (by decide) ?_
            refine gd_getR (r := 6) dX8_fits_99 fl_8_100 rfl rfl rfl (by decide) ?_
            refine gd_getR (r := 9) dX8_fits_102 fl_8_159 rfl rfl rfl (by decide) ?_
            refine gd_ild4 dX8_fits_105 ?_
            refine gd_iald (n := 30) dX8_fits_107 rfl (by decide) (by repeat' (first | with_reducible rfl | apply ni_add | apply ni_mul)) (by omega) ?_
            rw [c1.lw1 l hl, lw.1]
            refine gd_cV1i dX8_fits_108 ct_8_202 rc_1 ⟨Nat.le_of_ble_eq_true rfl, Nat.le_of_ble_eq_true rfl⟩ (Nat.le_of_ble_eq_true rfl) (Nat.le_of_ble_eq_true rfl) (c_meaningSet i.w c1 lw.2.1) ?_
            refine gd_ild5 dX8_fits_111 ?_
            refine gd_icmp_ne_t 123 dX8_fits_113 (by decide) (fun z => e (oo.mp ((nI_eq (by omega) (by omega)).mp z))) ?_
            refine gd_iinc4 (b := nI 1) dX8_fits_123 (by decide) rfl ?_
            rw [nI_add]
            refine gd_goto 41 dX8_fits_126 (by decide) ?_
            have ih := ih (.int (nI (2 ^ (stN (ms h) (ltN (ms h) l) (n / 1000) (n / 10 % 100) (n % 10)))))
            rw [bset_no (p := (fiP (ms h) (-1) n)) hp] at ih
            exact ih
    have k9 : ∀ l4 l5, Gd mX9_fits 23 [.ref 72, .int (nI n), .int (nI (bset (fiP (ms h) (-1) n) 0)), .int (nI 0), l4, l5] [] h2 (some (.int (nI (bset (fiP (ms h) (-1) n) (nN (ms h))))), h2) := by
      refine loopG (P := fun l => ∀ l4 l5, Gd mX9_fits 23 [.ref 72, .int (nI n), .int (nI (bset (fiP (ms h) (-1) n) l)), .int (nI l), l4, l5] [] h2 (some (.int (nI (bset (fiP (ms h) (-1) n) (nN (ms h))))), h2)) (n := nN (ms h)) ?_ ?_ 0 (by omega)
      · intro l4 l5
        refine gd_ild3 dX9_fits_23 ?_
        refine gd_ald0 dX9_fits_24 (by decide) ?_
        refine gd_getR (r := 74) dX9_fits_25 fl_9_13 rfl rfl rfl (by decide) ?_
        refine gd_ic1 dX9_fits_28 ?_
        refine gd_iald (n := 5) dX9_fits_29 rfl (by decide) (by repeat' (first | with_reducible rfl | apply ni_add | apply ni_mul)) (by omega) ?_
        refine gd_icmp_ge_t 138 dX9_fits_30 (by decide) (by rw [en]; exact nI_le (by omega) (by omega)) ?_
        refine gd_ild2 dX9_fits_138 ?_
        refine gd_iret dX9_fits_139 rfl rfl ?_
        rfl
      · intro l hl ih
        have lw := lw_ok i.w hl
        have sl := stN_le (ms h) (ltN (ms h) l) (n / 1000) (n / 10 % 100) (n % 10)
        have mo := mm_ok i.w lw.2.1
        have oo := one_ok (mF (ms h) (wdN (ms h) l)) (by omega) (mL (ms h) (wdN (ms h) l)) (by omega) (stN (ms h) (ltN (ms h) l) (n / 1000) (n / 10 % 100) (n % 10)) (by omega) mo.1
        intro l4 l5
        have E4 : ∀ k, k < 9 → h2.1 78 (9 * l + k) = ms h 4 (9 * l + k) := fun k hk => by rw [← ms_r4 (by omega), v2.1]
        have gr := m_ruleOf (h := h2) (by rw [v2.1]; exact i.w) (nI 0) (nI (wdN (ms h) l))
        rw [v2.1, rk_w] at gr
        cases hr : rk (ms h) (8 + wdN (ms h) l) with
        | none =>
          rw [hr] at gr
          have nn := mm_n hr
          have hp : (fiP (ms h) (-1) n) l = false := by unfold fiP; rw [decide_eq_false (fun z => by rw [nn.1, nn.2] at z; omega), Bool.and_false]
          cases hb : cB (ms h) (-1) (nN (ms h)) l with
          | false =>
            refine gd_ild3 dX9_fits_23 ?_
            refine gd_ald0 dX9_fits_24 (by decide) ?_
            refine gd_getR (r := 74) dX9_fits_25 fl_9_13 rfl rfl rfl (by decide) ?_
            refine gd_ic1 dX9_fits_28 ?_
            refine gd_iald (n := 5) dX9_fits_29 rfl (by decide) (by repeat' (first | with_reducible rfl | apply ni_add | apply ni_mul)) (by omega) ?_
            refine gd_icmp_ge_f 138 dX9_fits_30 (by decide) (by rw [en]; exact nI_ge (by omega) (by omega)) ?_
            refine gd_ald0 dX9_fits_33 (by decide) ?_
            refine gd_ic0 dX9_fits_34 ?_
            refine gd_ald0 dX9_fits_35 (by decide) ?_
            refine gd_ild3 dX9_fits_36 ?_
            refine gd_ic2 dX9_fits_37 ?_
            refine gd_cV2i dX9_fits_38 ct_9_120 rc_72 ⟨Nat.le_of_ble_eq_true rfl, Nat.le_of_ble_eq_true rfl⟩ (Nat.le_of_ble_eq_true rfl) (Nat.le_of_ble_eq_true rfl) (m_its (w := 2) (by omega) (by decide) _) ?_
            rw [E4 2 (by decide), lw.1]
            refine gd_cV2i dX9_fits_41 ct_9_127 rc_72 ⟨Nat.le_of_ble_eq_true rfl, Nat.le_of_ble_eq_true rfl⟩ (Nat.le_of_ble_eq_true rfl) (Nat.le_of_ble_eq_true rfl) (gr) ?_
            refine gd_ist4 dX9_fits_44 rfl ?_
            refine gd_ild4 dX9_fits_46 ?_
            refine gd_if_lt_t 80 dX9_fits_48 (by decide) (by decide) ?_
            refine gd_ic0 dX9_fits_80 ?_
            refine gd_ist5 dX9_fits_81 rfl ?_
            refine gd_ild2 dX9_fits_83 ?_
            refine gd_ald0 dX9_fits_84 (by decide) ?_
            refine gd_getR (r := 82) dX9_fits_85 fl_9_37 rfl rfl rfl (by decide) ?_
            refine gd_ild3 dX9_fits_88 ?_
            refine gd_zald (n := 30) dX9_fits_89 rfl (by decide) (by repeat' (first | with_reducible rfl | apply ni_add | apply ni_mul)) (by omega) ?_
            rw [v2.2.2.2.2 l hl]
            refine gd_if_eq_t 129 dX9_fits_90 (by decide) (by rw [hb]; decide) ?_
            refine gd_ic0 dX9_fits_129 ?_
            refine gd_ior dX9_fits_130 ?_
            rw [or_nI, Nat.or_zero]
            refine gd_ist2 dX9_fits_131 rfl ?_
            refine gd_iinc3 (b := nI 1) dX9_fits_132 (by decide) rfl ?_
            rw [nI_add]
            refine gd_goto 23 dX9_fits_135 (by decide) ?_
            have ih := ih (.int (oI none)) (.int (nI 0))
            rw [bset_no (p := (fiP (ms h) (-1) n)) hp] at ih
            exact ih
          | true =>
            refine gd_ild3 dX9_fits_23 ?_
            refine gd_ald0 dX9_fits_24 (by decide) ?_
            refine gd_getR (r := 74) dX9_fits_25 fl_9_13 rfl rfl rfl (by decide) ?_
            refine gd_ic1 dX9_fits_28 ?_
            refine gd_iald (n := 5) dX9_fits_29 rfl (by decide) (by repeat' (first | with_reducible rfl | apply ni_add | apply ni_mul)) (by omega) ?_
            refine gd_icmp_ge_f 138 dX9_fits_30 (by decide) (by rw [en]; exact nI_ge (by omega) (by omega)) ?_
            refine gd_ald0 dX9_fits_33 (by decide) ?_
            refine gd_ic0 dX9_fits_34 ?_
            refine gd_ald0 dX9_fits_35 (by decide) ?_
            refine gd_ild3 dX9_fits_36 ?_
            refine gd_ic2 dX9_fits_37 ?_
            refine gd_cV2i dX9_fits_38 ct_9_120 rc_72 ⟨Nat.le_of_ble_eq_true rfl, Nat.le_of_ble_eq_true rfl⟩ (Nat.le_of_ble_eq_true rfl) (Nat.le_of_ble_eq_true rfl) (m_its (w := 2) (by omega) (by decide) _) ?_
            rw [E4 2 (by decide), lw.1]
            refine gd_cV2i dX9_fits_41 ct_9_127 rc_72 ⟨Nat.le_of_ble_eq_true rfl, Nat.le_of_ble_eq_true rfl⟩ (Nat.le_of_ble_eq_true rfl) (Nat.le_of_ble_eq_true rfl) (gr) ?_
            refine gd_ist4 dX9_fits_44 rfl ?_
            refine gd_ild4 dX9_fits_46 ?_
            refine gd_if_lt_t 80 dX9_fits_48 (by decide) (by decide) ?_
            refine gd_ic0 dX9_fits_80 ?_
            refine gd_ist5 dX9_fits_81 rfl ?_
            refine gd_ild2 dX9_fits_83 ?_
            refine gd_ald0 dX9_fits_84 (by decide) ?_
            refine gd_getR (r := 82) dX9_fits_85 fl_9_37 rfl rfl rfl (by decide) ?_
            refine gd_ild3 dX9_fits_88 ?_
            refine gd_zald (n := 30) dX9_fits_89 rfl (by decide) (by repeat' (first | with_reducible rfl | apply ni_add | apply ni_mul)) (by omega) ?_
            rw [v2.2.2.2.2 l hl]
            refine gd_if_eq_f 129 dX9_fits_90 (by decide) (by rw [hb]; decide) ?_
            refine gd_ild5 dX9_fits_93 ?_
            refine gd_if_eq_t 129 dX9_fits_95 (by decide) (by decide) ?_
            refine gd_ic0 dX9_fits_129 ?_
            refine gd_ior dX9_fits_130 ?_
            rw [or_nI, Nat.or_zero]
            refine gd_ist2 dX9_fits_131 rfl ?_
            refine gd_iinc3 (b := nI 1) dX9_fits_132 (by decide) rfl ?_
            rw [nI_add]
            refine gd_goto 23 dX9_fits_135 (by decide) ?_
            have ih := ih (.int (oI none)) (.int (nI 0))
            rw [bset_no (p := (fiP (ms h) (-1) n)) hp] at ih
            exact ih
        | some q =>
          rw [hr, show oI (some q) = nI q from rfl] at gr
          have ss := mm_s i.w lw.2.1 hr
          obtain ⟨t1, r1, t2, r2, t3, q48, _, _⟩ := rk_at i.w hr
          have E6 : ∀ k, k < 4 → h2.1 80 (4 * q + k) = ms h 6 (4 * q + k) := fun k hk => by rw [← ms_r6 (by omega), v2.1]
          by_cases f : mF (ms h) (wdN (ms h) l) = mL (ms h) (wdN (ms h) l)
          · cases hb : cB (ms h) (-1) (nN (ms h)) l with
            | false =>
              have hp : (fiP (ms h) (-1) n) l = false := by unfold fiP; rw [hb]; rfl
              refine gd_ild3 dX9_fits_23 ?_
              refine gd_ald0 dX9_fits_24 (by decide) ?_
              refine gd_getR (r := 74) dX9_fits_25 fl_9_13 rfl rfl rfl (by decide) ?_
              refine gd_ic1 dX9_fits_28 ?_
              refine gd_iald (n := 5) dX9_fits_29 rfl (by decide) (by repeat' (first | with_reducible rfl | apply ni_add | apply ni_mul)) (by omega) ?_
              refine gd_icmp_ge_f 138 dX9_fits_30 (by decide) (by rw [en]; exact nI_ge (by omega) (by omega)) ?_
              refine gd_ald0 dX9_fits_33 (by decide) ?_
              refine gd_ic0 dX9_fits_34 ?_
              refine gd_ald0 dX9_fits_35 (by decide) ?_
              refine gd_ild3 dX9_fits_36 ?_
              refine gd_ic2 dX9_fits_37 ?_
              refine gd_cV2i dX9_fits_38 ct_9_120 rc_72 ⟨Nat.le_of_ble_eq_true rfl, Nat.le_of_ble_eq_true rfl⟩ (Nat.le_of_ble_eq_true rfl) (Nat.le_of_ble_eq_true rfl) (m_its (w := 2) (by omega) (by decide) _) ?_
              rw [E4 2 (by decide), lw.1]
              refine gd_cV2i dX9_fits_41 ct_9_127 rc_72 ⟨Nat.le_of_ble_eq_true rfl, Nat.le_of_ble_eq_true rfl⟩ (Nat.le_of_ble_eq_true rfl) (Nat.le_of_ble_eq_true rfl) (gr) ?_
              refine gd_ist4 dX9_fits_44 rfl ?_
              refine gd_ild4 dX9_fits_46 ?_
              refine gd_if_lt_f 80 dX9_fits_48 (by decide) (nI_pos (by omega)) ?_
              refine gd_ald0 dX9_fits_51 (by decide) ?_
              refine gd_getR (r := 80) dX9_fits_52 fl_9_31 rfl rfl rfl (by decide) ?_
              refine gd_ic4 dX9_fits_55 ?_
              refine gd_ild4 dX9_fits_56 ?_
              refine gd_imul dX9_fits_58 ?_
              refine gd_ic2 dX9_fits_59 ?_
              refine gd_iadd dX9_fits_60 ?_
              refine gd_iald (n := 192) dX9_fits_61 rfl (by decide) (by repeat' (first | with_reducible rfl | apply ni_add | apply ni_mul)) (by omega) ?_
              rw [E6 2 (by decide), ss.1]
              refine gd_ald0 dX9_fits_62 (by decide) ?_
              refine gd_getR (r := 80) dX9_fits_63 fl_9_31 rfl rfl rfl (by decide) ?_
              refine gd_ic4 dX9_fits_66 ?_
              refine gd_ild4 dX9_fits_67 ?_
              refine gd_imul dX9_fits_69 ?_
              refine gd_ic3 dX9_fits_70 ?_
              refine gd_iadd dX9_fits_71 ?_
              refine gd_iald (n := 192) dX9_fits_72 rfl (by decide) (by repeat' (first | with_reducible rfl | apply ni_add | apply ni_mul)) (by omega) ?_
              rw [E6 3 (by decide), ss.2.1]
              refine gd_icmp_ne_f 80 dX9_fits_73 (by decide) (by rw [f]) ?_
              refine gd_ic1 dX9_fits_76 ?_
              refine gd_goto 81 dX9_fits_77 (by decide) ?_
              refine gd_ist5 dX9_fits_81 rfl ?_
              refine gd_ild2 dX9_fits_83 ?_
              refine gd_ald0 dX9_fits_84 (by decide) ?_
              refine gd_getR (r := 82) dX9_fits_85 fl_9_37 rfl rfl rfl (by decide) ?_
              refine gd_ild3 dX9_fits_88 ?_
              refine gd_zald (n := 30) dX9_fits_89 rfl (by decide) (by repeat' (first | with_reducible rfl | apply ni_add | apply ni_mul)) (by omega) ?_
              rw [v2.2.2.2.2 l hl]
              refine gd_if_eq_t 129 dX9_fits_90 (by decide) (by rw [hb]; decide) ?_
              refine gd_ic0 dX9_fits_129 ?_
              refine gd_ior dX9_fits_130 ?_
              rw [or_nI, Nat.or_zero]
              refine gd_ist2 dX9_fits_131 rfl ?_
              refine gd_iinc3 (b := nI 1) dX9_fits_132 (by decide) rfl ?_
              rw [nI_add]
              refine gd_goto 23 dX9_fits_135 (by decide) ?_
              have ih := ih (.int (nI q)) (.int (nI 1))
              rw [bset_no (p := (fiP (ms h) (-1) n)) hp] at ih
              exact ih
            | true =>
              by_cases e2 : mF (ms h) (wdN (ms h) l) = (stN (ms h) (ltN (ms h) l) (n / 1000) (n / 10 % 100) (n % 10))
              · have e := And.intro f e2
                have hp : (fiP (ms h) (-1) n) l = true := by unfold fiP; rw [hb, decide_eq_true e]; rfl
                refine gd_ild3 dX9_fits_23 ?_
                refine gd_ald0 dX9_fits_24 (by decide) ?_
                refine gd_getR (r := 74) dX9_fits_25 fl_9_13 rfl rfl rfl (by decide) ?_
                refine gd_ic1 dX9_fits_28 ?_
                refine gd_iald (n := 5) dX9_fits_29 rfl (by decide) (by repeat' (first | with_reducible rfl | apply ni_add | apply ni_mul)) (by omega) ?_
                refine gd_icmp_ge_f 138 dX9_fits_30 (by decide) (by rw [en]; exact nI_ge (by omega) (by omega)) ?_
                refine gd_ald0 dX9_fits_33 (by decide) ?_
                refine gd_ic0 dX9_fits_34 ?_
                refine gd_ald0 dX9_fits_35 (by decide) ?_
                refine gd_ild3 dX9_fits_36 ?_
                refine gd_ic2 dX9_fits_37 ?_
                refine gd_cV2i dX9_fits_38 ct_9_120 rc_72 ⟨Nat.le_of_ble_eq_true rfl, Nat.le_of_ble_eq_true rfl⟩ (Nat.le_of_ble_eq_true rfl) (Nat.le_of_ble_eq_true rfl) (m_its (w := 2) (by omega) (by decide) _) ?_
                rw [E4 2 (by decide), lw.1]
                refine gd_cV2i dX9_fits_41 ct_9_127 rc_72 ⟨Nat.le_of_ble_eq_true rfl, Nat.le_of_ble_eq_true rfl⟩ (Nat.le_of_ble_eq_true rfl) (Nat.le_of_ble_eq_true rfl) (gr) ?_
                refine gd_ist4 dX9_fits_44 rfl ?_
                refine gd_ild4 dX9_fits_46 ?_
                refine gd_if_lt_f 80 dX9_fits_48 (by decide) (nI_pos (by omega)) ?_
                refine gd_ald0 dX9_fits_51 (by decide) ?_
                refine gd_getR (r := 80) dX9_fits_52 fl_9_31 rfl rfl rfl (by decide) ?_
                refine gd_ic4 dX9_fits_55 ?_
                refine gd_ild4 dX9_fits_56 ?_
                refine gd_imul dX9_fits_58 ?_
                refine gd_ic2 dX9_fits_59 ?_
                refine gd_iadd dX9_fits_60 ?_
                refine gd_iald (n := 192) dX9_fits_61 rfl (by decide) (by repeat' (first | with_reducible rfl | apply ni_add | apply ni_mul)) (by omega) ?_
                rw [E6 2 (by decide), ss.1]
                refine gd_ald0 dX9_fits_62 (by decide) ?_
                refine gd_getR (r := 80) dX9_fits_63 fl_9_31 rfl rfl rfl (by decide) ?_
                refine gd_ic4 dX9_fits_66 ?_
                refine gd_ild4 dX9_fits_67 ?_
                refine gd_imul dX9_fits_69 ?_
                refine gd_ic3 dX9_fits_70 ?_
                refine gd_iadd dX9_fits_71 ?_
                refine gd_iald (n := 192) dX9_fits_72 rfl (by decide) (by repeat' (first | with_reducible rfl | apply ni_add | apply ni_mul)) (by omega) ?_
                rw [E6 3 (by decide), ss.2.1]
                refine gd_icmp_ne_f 80 dX9_fits_73 (by decide) (by rw [f]) ?_
                refine gd_ic1 dX9_fits_76 ?_
                refine gd_goto 81 dX9_fits_77 (by decide) ?_
                refine gd_ist5 dX9_fits_81 rfl ?_
                refine gd_ild2 dX9_fits_83 ?_
                refine gd_ald0 dX9_fits_84 (by decide) ?_
                refine gd_getR (r := 82) dX9_fits_85 fl_9_37 rfl rfl rfl (by decide) ?_
                refine gd_ild3 dX9_fits_88 ?_
                refine gd_zald (n := 30) dX9_fits_89 rfl (by decide) (by repeat' (first | with_reducible rfl | apply ni_add | apply ni_mul)) (by omega) ?_
                rw [v2.2.2.2.2 l hl]
                refine gd_if_eq_f 129 dX9_fits_90 (by decide) (by rw [hb]; decide) ?_
                refine gd_ild5 dX9_fits_93 ?_
                refine gd_if_eq_f 129 dX9_fits_95 (by decide) (by decide) ?_
                refine gd_ald0 dX9_fits_98 (by decide) ?_
                refine gd_getR (r := 80) dX9_fits_99 fl_9_31 rfl rfl rfl (by decide) ?_
                refine gd_ic4 dX9_fits_102 ?_
                refine gd_ild4 dX9_fits_103 ?_
                refine gd_imul dX9_fits_105 ?_
                refine gd_ic2 dX9_fits_106 ?_
                refine gd_iadd dX9_fits_107 ?_
                refine gd_iald (n := 192) dX9_fits_108 rfl (by decide) (by repeat' (first | with_reducible rfl | apply ni_add | apply ni_mul)) (by omega) ?_
                rw [E6 2 (by decide), ss.1]
                refine gd_ald0 dX9_fits_109 (by decide) ?_
                refine gd_ild1 dX9_fits_110 ?_
                refine gd_ald0 dX9_fits_111 (by decide) ?_
                refine gd_ild3 dX9_fits_112 ?_
                refine gd_ic1 dX9_fits_113 ?_
                refine gd_cV2i dX9_fits_114 ct_9_120 rc_72 ⟨Nat.le_of_ble_eq_true rfl, Nat.le_of_ble_eq_true rfl⟩ (Nat.le_of_ble_eq_true rfl) (Nat.le_of_ble_eq_true rfl) (m_its (w := 1) (by omega) (by decide) _) ?_
                rw [E4 1 (by decide), lw.2.2.1]
                refine gd_cV2i dX9_fits_117 ct_9_219 rc_72 ⟨Nat.le_of_ble_eq_true rfl, Nat.le_of_ble_eq_true rfl⟩ (Nat.le_of_ble_eq_true rfl) (Nat.le_of_ble_eq_true rfl) (m_stepOf i.w v2 lw.2.2.2 hn) ?_
                refine gd_icmp_ne_f 129 dX9_fits_120 (by decide) (by rw [e2]) ?_
                refine gd_ic1 dX9_fits_123 ?_
                refine gd_ild3 dX9_fits_124 ?_
                refine gd_ishl dX9_fits_125 ?_
                refine gd_goto 130 dX9_fits_126 (by decide) ?_
                refine gd_ior dX9_fits_130 ?_
                rw [bset_or (p := (fiP (ms h) (-1) n)) hp (by omega)]
                refine gd_ist2 dX9_fits_131 rfl ?_
                refine gd_iinc3 (b := nI 1) dX9_fits_132 (by decide) rfl ?_
                rw [nI_add]
                refine gd_goto 23 dX9_fits_135 (by decide) ?_
                exact ih _ _
              · have e : ¬ (mF (ms h) (wdN (ms h) l) = mL (ms h) (wdN (ms h) l) ∧ mF (ms h) (wdN (ms h) l) = (stN (ms h) (ltN (ms h) l) (n / 1000) (n / 10 % 100) (n % 10))) := fun z => e2 z.2
                have hp : (fiP (ms h) (-1) n) l = false := by unfold fiP; rw [hb, decide_eq_false e]; rfl
                refine gd_ild3 dX9_fits_23 ?_
                refine gd_ald0 dX9_fits_24 (by decide) ?_
                refine gd_getR (r := 74) dX9_fits_25 fl_9_13 rfl rfl rfl (by decide) ?_
                refine gd_ic1 dX9_fits_28 ?_
                refine gd_iald (n := 5) dX9_fits_29 rfl (by decide) (by repeat' (first | with_reducible rfl | apply ni_add | apply ni_mul)) (by omega) ?_
                refine gd_icmp_ge_f 138 dX9_fits_30 (by decide) (by rw [en]; exact nI_ge (by omega) (by omega)) ?_
                refine gd_ald0 dX9_fits_33 (by decide) ?_
                refine gd_ic0 dX9_fits_34 ?_
                refine gd_ald0 dX9_fits_35 (by decide) ?_
                refine gd_ild3 dX9_fits_36 ?_
                refine gd_ic2 dX9_fits_37 ?_
                refine gd_cV2i dX9_fits_38 ct_9_120 rc_72 ⟨Nat.le_of_ble_eq_true rfl, Nat.le_of_ble_eq_true rfl⟩ (Nat.le_of_ble_eq_true rfl) (Nat.le_of_ble_eq_true rfl) (m_its (w := 2) (by omega) (by decide) _) ?_
                rw [E4 2 (by decide), lw.1]
                refine gd_cV2i dX9_fits_41 ct_9_127 rc_72 ⟨Nat.le_of_ble_eq_true rfl, Nat.le_of_ble_eq_true rfl⟩ (Nat.le_of_ble_eq_true rfl) (Nat.le_of_ble_eq_true rfl) (gr) ?_
                refine gd_ist4 dX9_fits_44 rfl ?_
                refine gd_ild4 dX9_fits_46 ?_
                refine gd_if_lt_f 80 dX9_fits_48 (by decide) (nI_pos (by omega)) ?_
                refine gd_ald0 dX9_fits_51 (by decide) ?_
                refine gd_getR (r := 80) dX9_fits_52 fl_9_31 rfl rfl rfl (by decide) ?_
                refine gd_ic4 dX9_fits_55 ?_
                refine gd_ild4 dX9_fits_56 ?_
                refine gd_imul dX9_fits_58 ?_
                refine gd_ic2 dX9_fits_59 ?_
                refine gd_iadd dX9_fits_60 ?_
                refine gd_iald (n := 192) dX9_fits_61 rfl (by decide) (by repeat' (first | with_reducible rfl | apply ni_add | apply ni_mul)) (by omega) ?_
                rw [E6 2 (by decide), ss.1]
                refine gd_ald0 dX9_fits_62 (by decide) ?_
                refine gd_getR (r := 80) dX9_fits_63 fl_9_31 rfl rfl rfl (by decide) ?_
                refine gd_ic4 dX9_fits_66 ?_
                refine gd_ild4 dX9_fits_67 ?_
                refine gd_imul dX9_fits_69 ?_
                refine gd_ic3 dX9_fits_70 ?_
                refine gd_iadd dX9_fits_71 ?_
                refine gd_iald (n := 192) dX9_fits_72 rfl (by decide) (by repeat' (first | with_reducible rfl | apply ni_add | apply ni_mul)) (by omega) ?_
                rw [E6 3 (by decide), ss.2.1]
                refine gd_icmp_ne_f 80 dX9_fits_73 (by decide) (by rw [f]) ?_
                refine gd_ic1 dX9_fits_76 ?_
                refine gd_goto 81 dX9_fits_77 (by decide) ?_
                refine gd_ist5 dX9_fits_81 rfl ?_
                refine gd_ild2 dX9_fits_83 ?_
                refine gd_ald0 dX9_fits_84 (by decide) ?_
                refine gd_getR (r := 82) dX9_fits_85 fl_9_37 rfl rfl rfl (by decide) ?_
                refine gd_ild3 dX9_fits_88 ?_
                refine gd_zald (n := 30) dX9_fits_89 rfl (by decide) (by repeat' (first | with_reducible rfl | apply ni_add | apply ni_mul)) (by omega) ?_
                rw [v2.2.2.2.2 l hl]
                refine gd_if_eq_f 129 dX9_fits_90 (by decide) (by rw [hb]; decide) ?_
                refine gd_ild5 dX9_fits_93 ?_
                refine gd_if_eq_f 129 dX9_fits_95 (by decide) (by decide) ?_
                refine gd_ald0 dX9_fits_98 (by decide) ?_
                refine gd_getR (r := 80) dX9_fits_99 fl_9_31 rfl rfl rfl (by decide) ?_
                refine gd_ic4 dX9_fits_102 ?_
                refine gd_ild4 dX9_fits_103 ?_
                refine gd_imul dX9_fits_105 ?_
                refine gd_ic2 dX9_fits_106 ?_
                refine gd_iadd dX9_fits_107 ?_
                refine gd_iald (n := 192) dX9_fits_108 rfl (by decide) (by repeat' (first | with_reducible rfl | apply ni_add | apply ni_mul)) (by omega) ?_
                rw [E6 2 (by decide), ss.1]
                refine gd_ald0 dX9_fits_109 (by decide) ?_
                refine gd_ild1 dX9_fits_110 ?_
                refine gd_ald0 dX9_fits_111 (by decide) ?_
                refine gd_ild3 dX9_fits_112 ?_
                refine gd_ic1 dX9_fits_113 ?_
                refine gd_cV2i dX9_fits_114 ct_9_120 rc_72 ⟨Nat.le_of_ble_eq_true rfl, Nat.le_of_ble_eq_true rfl⟩ (Nat.le_of_ble_eq_true rfl) (Nat.le_of_ble_eq_true rfl) (m_its (w := 1) (by omega) (by decide) _) ?_
                rw [E4 1 (by decide), lw.2.2.1]
                refine gd_cV2i dX9_fits_117 ct_9_219 rc_72 ⟨Nat.le_of_ble_eq_true rfl, Nat.le_of_ble_eq_true rfl⟩ (Nat.le_of_ble_eq_true rfl) (Nat.le_of_ble_eq_true rfl) (m_stepOf i.w v2 lw.2.2.2 hn) ?_
                refine gd_icmp_ne_t 129 dX9_fits_120 (by decide) (fun z => e2 ((nI_eq (by omega) (by omega)).mp z)) ?_
                refine gd_ic0 dX9_fits_129 ?_
                refine gd_ior dX9_fits_130 ?_
                rw [or_nI, Nat.or_zero]
                refine gd_ist2 dX9_fits_131 rfl ?_
                refine gd_iinc3 (b := nI 1) dX9_fits_132 (by decide) rfl ?_
                rw [nI_add]
                refine gd_goto 23 dX9_fits_135 (by decide) ?_
                have ih := ih (.int (nI q)) (.int (nI 1))
                rw [bset_no (p := (fiP (ms h) (-1) n)) hp] at ih
                exact ih
          · have hp : (fiP (ms h) (-1) n) l = false := by unfold fiP; rw [decide_eq_false (fun z => f z.1), Bool.and_false]
            cases hb : cB (ms h) (-1) (nN (ms h)) l with
            | false =>
              refine gd_ild3 dX9_fits_23 ?_
              refine gd_ald0 dX9_fits_24 (by decide) ?_
              refine gd_getR (r := 74) dX9_fits_25 fl_9_13 rfl rfl rfl (by decide) ?_
              refine gd_ic1 dX9_fits_28 ?_
              refine gd_iald (n := 5) dX9_fits_29 rfl (by decide) (by repeat' (first | with_reducible rfl | apply ni_add | apply ni_mul)) (by omega) ?_
              refine gd_icmp_ge_f 138 dX9_fits_30 (by decide) (by rw [en]; exact nI_ge (by omega) (by omega)) ?_
              refine gd_ald0 dX9_fits_33 (by decide) ?_
              refine gd_ic0 dX9_fits_34 ?_
              refine gd_ald0 dX9_fits_35 (by decide) ?_
              refine gd_ild3 dX9_fits_36 ?_
              refine gd_ic2 dX9_fits_37 ?_
              refine gd_cV2i dX9_fits_38 ct_9_120 rc_72 ⟨Nat.le_of_ble_eq_true rfl, Nat.le_of_ble_eq_true rfl⟩ (Nat.le_of_ble_eq_true rfl) (Nat.le_of_ble_eq_true rfl) (m_its (w := 2) (by omega) (by decide) _) ?_
              rw [E4 2 (by decide), lw.1]
              refine gd_cV2i dX9_fits_41 ct_9_127 rc_72 ⟨Nat.le_of_ble_eq_true rfl, Nat.le_of_ble_eq_true rfl⟩ (Nat.le_of_ble_eq_true rfl) (Nat.le_of_ble_eq_true rfl) (gr) ?_
              refine gd_ist4 dX9_fits_44 rfl ?_
              refine gd_ild4 dX9_fits_46 ?_
              refine gd_if_lt_f 80 dX9_fits_48 (by decide) (nI_pos (by omega)) ?_
              refine gd_ald0 dX9_fits_51 (by decide) ?_
              refine gd_getR (r := 80) dX9_fits_52 fl_9_31 rfl rfl rfl (by decide) ?_
              refine gd_ic4 dX9_fits_55 ?_
              refine gd_ild4 dX9_fits_56 ?_
              refine gd_imul dX9_fits_58 ?_
              refine gd_ic2 dX9_fits_59 ?_
              refine gd_iadd dX9_fits_60 ?_
              refine gd_iald (n := 192) dX9_fits_61 rfl (by decide) (by repeat' (first | with_reducible rfl | apply ni_add | apply ni_mul)) (by omega) ?_
              rw [E6 2 (by decide), ss.1]
              refine gd_ald0 dX9_fits_62 (by decide) ?_
              refine gd_getR (r := 80) dX9_fits_63 fl_9_31 rfl rfl rfl (by decide) ?_
              refine gd_ic4 dX9_fits_66 ?_
              refine gd_ild4 dX9_fits_67 ?_
              refine gd_imul dX9_fits_69 ?_
              refine gd_ic3 dX9_fits_70 ?_
              refine gd_iadd dX9_fits_71 ?_
              refine gd_iald (n := 192) dX9_fits_72 rfl (by decide) (by repeat' (first | with_reducible rfl | apply ni_add | apply ni_mul)) (by omega) ?_
              rw [E6 3 (by decide), ss.2.1]
              refine gd_icmp_ne_t 80 dX9_fits_73 (by decide) (fun z => f ((nI_eq (by omega) (by omega)).mp z)) ?_
              refine gd_ic0 dX9_fits_80 ?_
              refine gd_ist5 dX9_fits_81 rfl ?_
              refine gd_ild2 dX9_fits_83 ?_
              refine gd_ald0 dX9_fits_84 (by decide) ?_
              refine gd_getR (r := 82) dX9_fits_85 fl_9_37 rfl rfl rfl (by decide) ?_
              refine gd_ild3 dX9_fits_88 ?_
              refine gd_zald (n := 30) dX9_fits_89 rfl (by decide) (by repeat' (first | with_reducible rfl | apply ni_add | apply ni_mul)) (by omega) ?_
              rw [v2.2.2.2.2 l hl]
              refine gd_if_eq_t 129 dX9_fits_90 (by decide) (by rw [hb]; decide) ?_
              refine gd_ic0 dX9_fits_129 ?_
              refine gd_ior dX9_fits_130 ?_
              rw [or_nI, Nat.or_zero]
              refine gd_ist2 dX9_fits_131 rfl ?_
              refine gd_iinc3 (b := nI 1) dX9_fits_132 (by decide) rfl ?_
              rw [nI_add]
              refine gd_goto 23 dX9_fits_135 (by decide) ?_
              have ih := ih (.int (nI q)) (.int (nI 0))
              rw [bset_no (p := (fiP (ms h) (-1) n)) hp] at ih
              exact ih
            | true =>
              refine gd_ild3 dX9_fits_23 ?_
              refine gd_ald0 dX9_fits_24 (by decide) ?_
              refine gd_getR (r := 74) dX9_fits_25 fl_9_13 rfl rfl rfl (by decide) ?_
              refine gd_ic1 dX9_fits_28 ?_
              refine gd_iald (n := 5) dX9_fits_29 rfl (by decide) (by repeat' (first | with_reducible rfl | apply ni_add | apply ni_mul)) (by omega) ?_
              refine gd_icmp_ge_f 138 dX9_fits_30 (by decide) (by rw [en]; exact nI_ge (by omega) (by omega)) ?_
              refine gd_ald0 dX9_fits_33 (by decide) ?_
              refine gd_ic0 dX9_fits_34 ?_
              refine gd_ald0 dX9_fits_35 (by decide) ?_
              refine gd_ild3 dX9_fits_36 ?_
              refine gd_ic2 dX9_fits_37 ?_
              refine gd_cV2i dX9_fits_38 ct_9_120 rc_72 ⟨Nat.le_of_ble_eq_true rfl, Nat.le_of_ble_eq_true rfl⟩ (Nat.le_of_ble_eq_true rfl) (Nat.le_of_ble_eq_true rfl) (m_its (w := 2) (by omega) (by decide) _) ?_
              rw [E4 2 (by decide), lw.1]
              refine gd_cV2i dX9_fits_41 ct_9_127 rc_72 ⟨Nat.le_of_ble_eq_true rfl, Nat.le_of_ble_eq_true rfl⟩ (Nat.le_of_ble_eq_true rfl) (Nat.le_of_ble_eq_true rfl) (gr) ?_
              refine gd_ist4 dX9_fits_44 rfl ?_
              refine gd_ild4 dX9_fits_46 ?_
              refine gd_if_lt_f 80 dX9_fits_48 (by decide) (nI_pos (by omega)) ?_
              refine gd_ald0 dX9_fits_51 (by decide) ?_
              refine gd_getR (r := 80) dX9_fits_52 fl_9_31 rfl rfl rfl (by decide) ?_
              refine gd_ic4 dX9_fits_55 ?_
              refine gd_ild4 dX9_fits_56 ?_
              refine gd_imul dX9_fits_58 ?_
              refine gd_ic2 dX9_fits_59 ?_
              refine gd_iadd dX9_fits_60 ?_
              refine gd_iald (n := 192) dX9_fits_61 rfl (by decide) (by repeat' (first | with_reducible rfl | apply ni_add | apply ni_mul)) (by omega) ?_
              rw [E6 2 (by decide), ss.1]
              refine gd_ald0 dX9_fits_62 (by decide) ?_
              refine gd_getR (r := 80) dX9_fits_63 fl_9_31 rfl rfl rfl (by decide) ?_
              refine gd_ic4 dX9_fits_66 ?_
              refine gd_ild4 dX9_fits_67 ?_
              refine gd_imul dX9_fits_69 ?_
              refine gd_ic3 dX9_fits_70 ?_
              refine gd_iadd dX9_fits_71 ?_
              refine gd_iald (n := 192) dX9_fits_72 rfl (by decide) (by repeat' (first | with_reducible rfl | apply ni_add | apply ni_mul)) (by omega) ?_
              rw [E6 3 (by decide), ss.2.1]
              refine gd_icmp_ne_t 80 dX9_fits_73 (by decide) (fun z => f ((nI_eq (by omega) (by omega)).mp z)) ?_
              refine gd_ic0 dX9_fits_80 ?_
              refine gd_ist5 dX9_fits_81 rfl ?_
              refine gd_ild2 dX9_fits_83 ?_
              refine gd_ald0 dX9_fits_84 (by decide) ?_
              refine gd_getR (r := 82) dX9_fits_85 fl_9_37 rfl rfl rfl (by decide) ?_
              refine gd_ild3 dX9_fits_88 ?_
              refine gd_zald (n := 30) dX9_fits_89 rfl (by decide) (by repeat' (first | with_reducible rfl | apply ni_add | apply ni_mul)) (by omega) ?_
              rw [v2.2.2.2.2 l hl]
              refine gd_if_eq_f 129 dX9_fits_90 (by decide) (by rw [hb]; decide) ?_
              refine gd_ild5 dX9_fits_93 ?_
              refine gd_if_eq_t 129 dX9_fits_95 (by decide) (by decide) ?_
              refine gd_ic0 dX9_fits_129 ?_
              refine gd_ior dX9_fits_130 ?_
              rw [or_nI, Nat.or_zero]
              refine gd_ist2 dX9_fits_131 rfl ?_
              refine gd_iinc3 (b := nI 1) dX9_fits_132 (by decide) rfl ?_
              rw [nI_add]
              refine gd_goto 23 dX9_fits_135 (by decide) ?_
              have ih := ih (.int (nI q)) (.int (nI 0))
              rw [bset_no (p := (fiP (ms h) (-1) n)) hp] at ih
              exact ih
    refine Pas.read (h1 := h1) (h2 := h2) (r := .int (nI (bset (fiP (ms h) (-1) n) (nN (ms h))))) i rfl (f1).same (f2).same ?_ ?_
    · refine gd_ild1 dX8_fits_0 ?_
      refine gd_i2l dX8_fits_1 ?_
      rw [i2l_n (by have := sh_lt hn; omega)]
      refine gd_cS1i dX8_fits_2 ct_8_221 ⟨Nat.le_of_ble_eq_true rfl, Nat.le_of_ble_eq_true rfl⟩ (Nat.le_of_ble_eq_true rfl) (Nat.le_of_ble_eq_true rfl) (c_isShake_t hn _) ?_
      refine gd_if_ne_t 15 dX8_fits_5 (by decide) (by decide) ?_
      refine gd_ald0 dX8_fits_15 (by decide) ?_
      refine gd_getR (r := 60) dX8_fits_16 fl_8_40 rfl rfl rfl (by decide) ?_
      refine gd_ald0 dX8_fits_19 (by decide) ?_
      refine gd_getR (r := 1) dX8_fits_20 fl_8_12 rfl rfl rfl (by decide) ?_
      refine gd_icm1 dX8_fits_23 ?_
      refine gd_cV2v dX8_fits_24 ct_8_211 rc_60 ⟨Nat.le_of_ble_eq_true rfl, Nat.le_of_ble_eq_true rfl⟩ (Nat.le_of_ble_eq_true rfl) (Nat.le_of_ble_eq_true rfl) (gt) ?_
      refine gd_ald0 dX8_fits_27 (by decide) ?_
      refine gd_getR (r := 1) dX8_fits_28 fl_8_12 rfl rfl rfl (by decide) ?_
      refine gd_icm1 dX8_fits_31 ?_
      refine gd_cV1i dX8_fits_32 ct_8_114 rc_1 ⟨Nat.le_of_ble_eq_true rfl, Nat.le_of_ble_eq_true rfl⟩ (Nat.le_of_ble_eq_true rfl) (Nat.le_of_ble_eq_true rfl) (c_counting i.w c1 _) ?_
      refine gd_ist2 dX8_fits_35 rfl ?_
      refine gd_ic0 dX8_fits_36 ?_
      refine gd_ist3 dX8_fits_37 rfl ?_
      refine gd_ic0 dX8_fits_38 ?_
      refine gd_ist4 dX8_fits_39 rfl ?_
      exact k8 _
    · refine gd_ild1 dX9_fits_0 ?_
      refine gd_i2l dX9_fits_1 ?_
      rw [i2l_n (by have := sh_lt hn; omega)]
      refine gd_cS1i dX9_fits_2 ct_9_225 ⟨Nat.le_of_ble_eq_true rfl, Nat.le_of_ble_eq_true rfl⟩ (Nat.le_of_ble_eq_true rfl) (Nat.le_of_ble_eq_true rfl) (m_isShake_t hn _) ?_
      refine gd_if_ne_t 14 dX9_fits_5 (by decide) (by decide) ?_
      refine gd_ald0 dX9_fits_14 (by decide) ?_
      refine gd_icm1 dX9_fits_15 ?_
      refine gd_cV1v dX9_fits_16 ct_9_216 rc_72 ⟨Nat.le_of_ble_eq_true rfl, Nat.le_of_ble_eq_true rfl⟩ (Nat.le_of_ble_eq_true rfl) (Nat.le_of_ble_eq_true rfl) (gp) ?_
      refine gd_ic0 dX9_fits_19 ?_
      refine gd_ist2 dX9_fits_20 rfl ?_
      refine gd_ic0 dX9_fits_21 ?_
      refine gd_ist3 dX9_fits_22 rfl ?_
      exact k9 _ _
  · refine Pas.find (h1 := h) (h2 := hf (h) 0) (v := -1000000001) (w := (-1000000000 : Int32) - nI 1) 0 i (by decide) (by decide) (by decide) (Same.rf _) (Same.rf _) ?_ ?_
    · refine gd_ild1 dX8_fits_0 ?_
      refine gd_i2l dX8_fits_1 ?_
      refine gd_cS1i dX8_fits_2 ct_8_221 ⟨Nat.le_of_ble_eq_true rfl, Nat.le_of_ble_eq_true rfl⟩ (Nat.le_of_ble_eq_true rfl) (Nat.le_of_ble_eq_true rfl) (c_isShake_f hs _) ?_
      refine gd_if_ne_f 15 dX8_fits_5 (by decide) (by decide) ?_
      refine gd_ald0 dX8_fits_8 (by decide) ?_
      refine gd_ldc dX8_fits_9 ld_8_52 ?_
      refine gd_cV1i dX8_fits_11 ct_8_53 rc_0 ⟨Nat.le_of_ble_eq_true rfl, Nat.le_of_ble_eq_true rfl⟩ (Nat.le_of_ble_eq_true rfl) (Nat.le_of_ble_eq_true rfl) (c_f0 _) ?_
      refine gd_iret dX8_fits_14 rfl rfl ?_
      rfl
    · refine gd_ild1 dX9_fits_0 ?_
      refine gd_i2l dX9_fits_1 ?_
      refine gd_cS1i dX9_fits_2 ct_9_225 ⟨Nat.le_of_ble_eq_true rfl, Nat.le_of_ble_eq_true rfl⟩ (Nat.le_of_ble_eq_true rfl) (Nat.le_of_ble_eq_true rfl) (m_isShake_f hs _) ?_
      refine gd_if_ne_f 14 dX9_fits_5 (by decide) (by decide) ?_
      refine gd_ald0 dX9_fits_8 (by decide) ?_
      refine gd_ic1 dX9_fits_9 ?_
      refine gd_cV1i dX9_fits_10 ct_9_97 rc_72 ⟨Nat.le_of_ble_eq_true rfl, Nat.le_of_ble_eq_true rfl⟩ (Nat.le_of_ble_eq_true rfl) (Nat.le_of_ble_eq_true rfl) (m_f0 _) ?_
      refine gd_iret dX9_fits_13 rfl rfl ?_
      rfl
