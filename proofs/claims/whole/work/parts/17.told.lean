theorem nI_z {q : Nat} (h : q < 2 ^ 31) : nI q = 0 ↔ q = 0 := nI_eq (b := 0) h (by decide)
abbrev isK (k q : Nat) : Prop := q = 0 ∨ k = q ∨ (q = 2 ∧ k = 3)
theorem c_isOfKind {h : Hp} {k q l : Nat} (hl : l < 30) (hk : h.1 7 l = nI k) (k6 : k < 6) (q6 : q < 6) : Gd mX1_isOfKind 0 [.ref 6, .int (nI l), .int (nI q), .null, .null] [] h (some (.int (bi (decide (isK k q)))), h) := by
  rcases (show k = 0 ∨ k = 1 ∨ k = 2 ∨ k = 3 ∨ k = 4 ∨ k = 5 by omega) with rfl | rfl | rfl | rfl | rfl | rfl
  · refine gd_ald0 dX1_isOfKind_0 (by decide) ?_
    refine gd_getR (r := 7) dX1_isOfKind_1 fl_1_9 rfl rfl rfl (by decide) ?_
    refine gd_ild1 dX1_isOfKind_4 ?_
    refine gd_iald (n := 30) dX1_isOfKind_5 rfl (by decide) (by repeat' (first | with_reducible rfl | apply ni_add | apply ni_mul)) (by omega) ?_
    rw [hk]
    refine gd_ist3 dX1_isOfKind_6 rfl ?_
    refine gd_ic0 dX1_isOfKind_7 ?_
    refine gd_ist4 dX1_isOfKind_8 rfl ?_
    refine gd_ild4 dX1_isOfKind_10 ?_
    refine gd_bipush (v := nI 6) dX1_isOfKind_12 (by decide) ?_
    refine gd_icmp_ge_f 40 dX1_isOfKind_14 (by decide) (by decide) ?_
    refine gd_ild3 dX1_isOfKind_17 ?_
    refine gd_if_lt_f 40 dX1_isOfKind_18 (by decide) (by decide) ?_
    refine gd_ild3 dX1_isOfKind_21 ?_
    refine gd_ild2 dX1_isOfKind_22 ?_
    refine gd_icmp_ne 28 dX1_isOfKind_23 (by decide) (fun c23 => ?_) (fun c23 => ?_)
    · refine gd_gsU rfl dX1_isOfKind_28 ?_
      refine gd_ild3 dX1_isOfKind_31 ?_
      refine gd_uald dX1_isOfKind_32 (by repeat' (first | with_reducible rfl | apply ni_add | apply ni_mul)) (by omega) ?_
      rw [show (stI 96).getD 0 0 = -1 from by decide]
      refine gd_ist3 dX1_isOfKind_33 rfl ?_
      refine gd_iinc4 (b := nI 1) dX1_isOfKind_34 (by decide) rfl ?_
      refine gd_goto 10 dX1_isOfKind_37 (by decide) ?_
      refine gd_ild4 dX1_isOfKind_10 ?_
      refine gd_bipush (v := nI 6) dX1_isOfKind_12 (by decide) ?_
      refine gd_icmp_ge_f 40 dX1_isOfKind_14 (by decide) (by decide) ?_
      refine gd_ild3 dX1_isOfKind_17 ?_
      refine gd_if_lt_t 40 dX1_isOfKind_18 (by decide) (by decide) ?_
      refine gd_ic0 dX1_isOfKind_40 ?_
      refine gd_iret dX1_isOfKind_41 rfl (by first | rfl | decide | exact nar_bi _ | assumption) ?_
      have n0 : q ≠ 0 := fun e => c23 (by rw [e])
      rw [bi_df (by omega)]
    · refine gd_ic1 dX1_isOfKind_26 ?_
      refine gd_iret dX1_isOfKind_27 rfl (by first | rfl | decide | exact nar_bi _ | assumption) ?_
      rw [bi_dt (by have := (nI_eq (by decide) (by omega)).mp c23; omega)]
  · refine gd_ald0 dX1_isOfKind_0 (by decide) ?_
    refine gd_getR (r := 7) dX1_isOfKind_1 fl_1_9 rfl rfl rfl (by decide) ?_
    refine gd_ild1 dX1_isOfKind_4 ?_
    refine gd_iald (n := 30) dX1_isOfKind_5 rfl (by decide) (by repeat' (first | with_reducible rfl | apply ni_add | apply ni_mul)) (by omega) ?_
    rw [hk]
    refine gd_ist3 dX1_isOfKind_6 rfl ?_
    refine gd_ic0 dX1_isOfKind_7 ?_
    refine gd_ist4 dX1_isOfKind_8 rfl ?_
    refine gd_ild4 dX1_isOfKind_10 ?_
    refine gd_bipush (v := nI 6) dX1_isOfKind_12 (by decide) ?_
    refine gd_icmp_ge_f 40 dX1_isOfKind_14 (by decide) (by decide) ?_
    refine gd_ild3 dX1_isOfKind_17 ?_
    refine gd_if_lt_f 40 dX1_isOfKind_18 (by decide) (by decide) ?_
    refine gd_ild3 dX1_isOfKind_21 ?_
    refine gd_ild2 dX1_isOfKind_22 ?_
    refine gd_icmp_ne 28 dX1_isOfKind_23 (by decide) (fun c23 => ?_) (fun c23 => ?_)
    · refine gd_gsU rfl dX1_isOfKind_28 ?_
      refine gd_ild3 dX1_isOfKind_31 ?_
      refine gd_uald dX1_isOfKind_32 (by repeat' (first | with_reducible rfl | apply ni_add | apply ni_mul)) (by omega) ?_
      rw [show (stI 96).getD 1 0 = nI 0 from by decide]
      refine gd_ist3 dX1_isOfKind_33 rfl ?_
      refine gd_iinc4 (b := nI 1) dX1_isOfKind_34 (by decide) rfl ?_
      refine gd_goto 10 dX1_isOfKind_37 (by decide) ?_
      refine gd_ild4 dX1_isOfKind_10 ?_
      refine gd_bipush (v := nI 6) dX1_isOfKind_12 (by decide) ?_
      refine gd_icmp_ge_f 40 dX1_isOfKind_14 (by decide) (by decide) ?_
      refine gd_ild3 dX1_isOfKind_17 ?_
      refine gd_if_lt_f 40 dX1_isOfKind_18 (by decide) (by decide) ?_
      refine gd_ild3 dX1_isOfKind_21 ?_
      refine gd_ild2 dX1_isOfKind_22 ?_
      refine gd_icmp_ne 28 dX1_isOfKind_23 (by decide) (fun c23x1 => ?_) (fun c23x1 => ?_)
      · refine gd_gsU rfl dX1_isOfKind_28 ?_
        refine gd_ild3 dX1_isOfKind_31 ?_
        refine gd_uald dX1_isOfKind_32 (by repeat' (first | with_reducible rfl | apply ni_add | apply ni_mul)) (by omega) ?_
        rw [show (stI 96).getD 0 0 = -1 from by decide]
        refine gd_ist3 dX1_isOfKind_33 rfl ?_
        refine gd_iinc4 (b := nI 1) dX1_isOfKind_34 (by decide) rfl ?_
        refine gd_goto 10 dX1_isOfKind_37 (by decide) ?_
        refine gd_ild4 dX1_isOfKind_10 ?_
        refine gd_bipush (v := nI 6) dX1_isOfKind_12 (by decide) ?_
        refine gd_icmp_ge_f 40 dX1_isOfKind_14 (by decide) (by decide) ?_
        refine gd_ild3 dX1_isOfKind_17 ?_
        refine gd_if_lt_t 40 dX1_isOfKind_18 (by decide) (by decide) ?_
        refine gd_ic0 dX1_isOfKind_40 ?_
        refine gd_iret dX1_isOfKind_41 rfl (by first | rfl | decide | exact nar_bi _ | assumption) ?_
        have n0 : q ≠ 1 := fun e => c23 (by rw [e])
        have n1 : q ≠ 0 := fun e => c23x1 (by rw [e])
        rw [bi_df (by omega)]
      · refine gd_ic1 dX1_isOfKind_26 ?_
        refine gd_iret dX1_isOfKind_27 rfl (by first | rfl | decide | exact nar_bi _ | assumption) ?_
        rw [bi_dt (by have := (nI_eq (by decide) (by omega)).mp c23x1; omega)]
    · refine gd_ic1 dX1_isOfKind_26 ?_
      refine gd_iret dX1_isOfKind_27 rfl (by first | rfl | decide | exact nar_bi _ | assumption) ?_
      rw [bi_dt (by have := (nI_eq (by decide) (by omega)).mp c23; omega)]
  · refine gd_ald0 dX1_isOfKind_0 (by decide) ?_
    refine gd_getR (r := 7) dX1_isOfKind_1 fl_1_9 rfl rfl rfl (by decide) ?_
    refine gd_ild1 dX1_isOfKind_4 ?_
    refine gd_iald (n := 30) dX1_isOfKind_5 rfl (by decide) (by repeat' (first | with_reducible rfl | apply ni_add | apply ni_mul)) (by omega) ?_
    rw [hk]
    refine gd_ist3 dX1_isOfKind_6 rfl ?_
    refine gd_ic0 dX1_isOfKind_7 ?_
    refine gd_ist4 dX1_isOfKind_8 rfl ?_
    refine gd_ild4 dX1_isOfKind_10 ?_
    refine gd_bipush (v := nI 6) dX1_isOfKind_12 (by decide) ?_
    refine gd_icmp_ge_f 40 dX1_isOfKind_14 (by decide) (by decide) ?_
    refine gd_ild3 dX1_isOfKind_17 ?_
    refine gd_if_lt_f 40 dX1_isOfKind_18 (by decide) (by decide) ?_
    refine gd_ild3 dX1_isOfKind_21 ?_
    refine gd_ild2 dX1_isOfKind_22 ?_
    refine gd_icmp_ne 28 dX1_isOfKind_23 (by decide) (fun c23 => ?_) (fun c23 => ?_)
    · refine gd_gsU rfl dX1_isOfKind_28 ?_
      refine gd_ild3 dX1_isOfKind_31 ?_
      refine gd_uald dX1_isOfKind_32 (by repeat' (first | with_reducible rfl | apply ni_add | apply ni_mul)) (by omega) ?_
      rw [show (stI 96).getD 2 0 = nI 0 from by decide]
      refine gd_ist3 dX1_isOfKind_33 rfl ?_
      refine gd_iinc4 (b := nI 1) dX1_isOfKind_34 (by decide) rfl ?_
      refine gd_goto 10 dX1_isOfKind_37 (by decide) ?_
      refine gd_ild4 dX1_isOfKind_10 ?_
      refine gd_bipush (v := nI 6) dX1_isOfKind_12 (by decide) ?_
      refine gd_icmp_ge_f 40 dX1_isOfKind_14 (by decide) (by decide) ?_
      refine gd_ild3 dX1_isOfKind_17 ?_
      refine gd_if_lt_f 40 dX1_isOfKind_18 (by decide) (by decide) ?_
      refine gd_ild3 dX1_isOfKind_21 ?_
      refine gd_ild2 dX1_isOfKind_22 ?_
      refine gd_icmp_ne 28 dX1_isOfKind_23 (by decide) (fun c23x1 => ?_) (fun c23x1 => ?_)
      · refine gd_gsU rfl dX1_isOfKind_28 ?_
        refine gd_ild3 dX1_isOfKind_31 ?_
        refine gd_uald dX1_isOfKind_32 (by repeat' (first | with_reducible rfl | apply ni_add | apply ni_mul)) (by omega) ?_
        rw [show (stI 96).getD 0 0 = -1 from by decide]
        refine gd_ist3 dX1_isOfKind_33 rfl ?_
        refine gd_iinc4 (b := nI 1) dX1_isOfKind_34 (by decide) rfl ?_
        refine gd_goto 10 dX1_isOfKind_37 (by decide) ?_
        refine gd_ild4 dX1_isOfKind_10 ?_
        refine gd_bipush (v := nI 6) dX1_isOfKind_12 (by decide) ?_
        refine gd_icmp_ge_f 40 dX1_isOfKind_14 (by decide) (by decide) ?_
        refine gd_ild3 dX1_isOfKind_17 ?_
        refine gd_if_lt_t 40 dX1_isOfKind_18 (by decide) (by decide) ?_
        refine gd_ic0 dX1_isOfKind_40 ?_
        refine gd_iret dX1_isOfKind_41 rfl (by first | rfl | decide | exact nar_bi _ | assumption) ?_
        have n0 : q ≠ 2 := fun e => c23 (by rw [e])
        have n1 : q ≠ 0 := fun e => c23x1 (by rw [e])
        rw [bi_df (by omega)]
      · refine gd_ic1 dX1_isOfKind_26 ?_
        refine gd_iret dX1_isOfKind_27 rfl (by first | rfl | decide | exact nar_bi _ | assumption) ?_
        rw [bi_dt (by have := (nI_eq (by decide) (by omega)).mp c23x1; omega)]
    · refine gd_ic1 dX1_isOfKind_26 ?_
      refine gd_iret dX1_isOfKind_27 rfl (by first | rfl | decide | exact nar_bi _ | assumption) ?_
      rw [bi_dt (by have := (nI_eq (by decide) (by omega)).mp c23; omega)]
  · refine gd_ald0 dX1_isOfKind_0 (by decide) ?_
    refine gd_getR (r := 7) dX1_isOfKind_1 fl_1_9 rfl rfl rfl (by decide) ?_
    refine gd_ild1 dX1_isOfKind_4 ?_
    refine gd_iald (n := 30) dX1_isOfKind_5 rfl (by decide) (by repeat' (first | with_reducible rfl | apply ni_add | apply ni_mul)) (by omega) ?_
    rw [hk]
    refine gd_ist3 dX1_isOfKind_6 rfl ?_
    refine gd_ic0 dX1_isOfKind_7 ?_
    refine gd_ist4 dX1_isOfKind_8 rfl ?_
    refine gd_ild4 dX1_isOfKind_10 ?_
    refine gd_bipush (v := nI 6) dX1_isOfKind_12 (by decide) ?_
    refine gd_icmp_ge_f 40 dX1_isOfKind_14 (by decide) (by decide) ?_
    refine gd_ild3 dX1_isOfKind_17 ?_
    refine gd_if_lt_f 40 dX1_isOfKind_18 (by decide) (by decide) ?_
    refine gd_ild3 dX1_isOfKind_21 ?_
    refine gd_ild2 dX1_isOfKind_22 ?_
    refine gd_icmp_ne 28 dX1_isOfKind_23 (by decide) (fun c23 => ?_) (fun c23 => ?_)
    · refine gd_gsU rfl dX1_isOfKind_28 ?_
      refine gd_ild3 dX1_isOfKind_31 ?_
      refine gd_uald dX1_isOfKind_32 (by repeat' (first | with_reducible rfl | apply ni_add | apply ni_mul)) (by omega) ?_
      rw [show (stI 96).getD 3 0 = nI 2 from by decide]
      refine gd_ist3 dX1_isOfKind_33 rfl ?_
      refine gd_iinc4 (b := nI 1) dX1_isOfKind_34 (by decide) rfl ?_
      refine gd_goto 10 dX1_isOfKind_37 (by decide) ?_
      refine gd_ild4 dX1_isOfKind_10 ?_
      refine gd_bipush (v := nI 6) dX1_isOfKind_12 (by decide) ?_
      refine gd_icmp_ge_f 40 dX1_isOfKind_14 (by decide) (by decide) ?_
      refine gd_ild3 dX1_isOfKind_17 ?_
      refine gd_if_lt_f 40 dX1_isOfKind_18 (by decide) (by decide) ?_
      refine gd_ild3 dX1_isOfKind_21 ?_
      refine gd_ild2 dX1_isOfKind_22 ?_
      refine gd_icmp_ne 28 dX1_isOfKind_23 (by decide) (fun c23x1 => ?_) (fun c23x1 => ?_)
      · refine gd_gsU rfl dX1_isOfKind_28 ?_
        refine gd_ild3 dX1_isOfKind_31 ?_
        refine gd_uald dX1_isOfKind_32 (by repeat' (first | with_reducible rfl | apply ni_add | apply ni_mul)) (by omega) ?_
        rw [show (stI 96).getD 2 0 = nI 0 from by decide]
        refine gd_ist3 dX1_isOfKind_33 rfl ?_
        refine gd_iinc4 (b := nI 1) dX1_isOfKind_34 (by decide) rfl ?_
        refine gd_goto 10 dX1_isOfKind_37 (by decide) ?_
        refine gd_ild4 dX1_isOfKind_10 ?_
        refine gd_bipush (v := nI 6) dX1_isOfKind_12 (by decide) ?_
        refine gd_icmp_ge_f 40 dX1_isOfKind_14 (by decide) (by decide) ?_
        refine gd_ild3 dX1_isOfKind_17 ?_
        refine gd_if_lt_f 40 dX1_isOfKind_18 (by decide) (by decide) ?_
        refine gd_ild3 dX1_isOfKind_21 ?_
        refine gd_ild2 dX1_isOfKind_22 ?_
        refine gd_icmp_ne 28 dX1_isOfKind_23 (by decide) (fun c23x2 => ?_) (fun c23x2 => ?_)
        · refine gd_gsU rfl dX1_isOfKind_28 ?_
          refine gd_ild3 dX1_isOfKind_31 ?_
          refine gd_uald dX1_isOfKind_32 (by repeat' (first | with_reducible rfl | apply ni_add | apply ni_mul)) (by omega) ?_
          rw [show (stI 96).getD 0 0 = -1 from by decide]
          refine gd_ist3 dX1_isOfKind_33 rfl ?_
          refine gd_iinc4 (b := nI 1) dX1_isOfKind_34 (by decide) rfl ?_
          refine gd_goto 10 dX1_isOfKind_37 (by decide) ?_
          refine gd_ild4 dX1_isOfKind_10 ?_
          refine gd_bipush (v := nI 6) dX1_isOfKind_12 (by decide) ?_
          refine gd_icmp_ge_f 40 dX1_isOfKind_14 (by decide) (by decide) ?_
          refine gd_ild3 dX1_isOfKind_17 ?_
          refine gd_if_lt_t 40 dX1_isOfKind_18 (by decide) (by decide) ?_
          refine gd_ic0 dX1_isOfKind_40 ?_
          refine gd_iret dX1_isOfKind_41 rfl (by first | rfl | decide | exact nar_bi _ | assumption) ?_
          have n0 : q ≠ 3 := fun e => c23 (by rw [e])
          have n1 : q ≠ 2 := fun e => c23x1 (by rw [e])
          have n2 : q ≠ 0 := fun e => c23x2 (by rw [e])
          rw [bi_df (by omega)]
        · refine gd_ic1 dX1_isOfKind_26 ?_
          refine gd_iret dX1_isOfKind_27 rfl (by first | rfl | decide | exact nar_bi _ | assumption) ?_
          rw [bi_dt (by have := (nI_eq (by decide) (by omega)).mp c23x2; omega)]
      · refine gd_ic1 dX1_isOfKind_26 ?_
        refine gd_iret dX1_isOfKind_27 rfl (by first | rfl | decide | exact nar_bi _ | assumption) ?_
        rw [bi_dt (by have := (nI_eq (by decide) (by omega)).mp c23x1; omega)]
    · refine gd_ic1 dX1_isOfKind_26 ?_
      refine gd_iret dX1_isOfKind_27 rfl (by first | rfl | decide | exact nar_bi _ | assumption) ?_
      rw [bi_dt (by have := (nI_eq (by decide) (by omega)).mp c23; omega)]
  · refine gd_ald0 dX1_isOfKind_0 (by decide) ?_
    refine gd_getR (r := 7) dX1_isOfKind_1 fl_1_9 rfl rfl rfl (by decide) ?_
    refine gd_ild1 dX1_isOfKind_4 ?_
    refine gd_iald (n := 30) dX1_isOfKind_5 rfl (by decide) (by repeat' (first | with_reducible rfl | apply ni_add | apply ni_mul)) (by omega) ?_
    rw [hk]
    refine gd_ist3 dX1_isOfKind_6 rfl ?_
    refine gd_ic0 dX1_isOfKind_7 ?_
    refine gd_ist4 dX1_isOfKind_8 rfl ?_
    refine gd_ild4 dX1_isOfKind_10 ?_
    refine gd_bipush (v := nI 6) dX1_isOfKind_12 (by decide) ?_
    refine gd_icmp_ge_f 40 dX1_isOfKind_14 (by decide) (by decide) ?_
    refine gd_ild3 dX1_isOfKind_17 ?_
    refine gd_if_lt_f 40 dX1_isOfKind_18 (by decide) (by decide) ?_
    refine gd_ild3 dX1_isOfKind_21 ?_
    refine gd_ild2 dX1_isOfKind_22 ?_
    refine gd_icmp_ne 28 dX1_isOfKind_23 (by decide) (fun c23 => ?_) (fun c23 => ?_)
    · refine gd_gsU rfl dX1_isOfKind_28 ?_
      refine gd_ild3 dX1_isOfKind_31 ?_
      refine gd_uald dX1_isOfKind_32 (by repeat' (first | with_reducible rfl | apply ni_add | apply ni_mul)) (by omega) ?_
      rw [show (stI 96).getD 4 0 = nI 0 from by decide]
      refine gd_ist3 dX1_isOfKind_33 rfl ?_
      refine gd_iinc4 (b := nI 1) dX1_isOfKind_34 (by decide) rfl ?_
      refine gd_goto 10 dX1_isOfKind_37 (by decide) ?_
      refine gd_ild4 dX1_isOfKind_10 ?_
      refine gd_bipush (v := nI 6) dX1_isOfKind_12 (by decide) ?_
      refine gd_icmp_ge_f 40 dX1_isOfKind_14 (by decide) (by decide) ?_
      refine gd_ild3 dX1_isOfKind_17 ?_
      refine gd_if_lt_f 40 dX1_isOfKind_18 (by decide) (by decide) ?_
      refine gd_ild3 dX1_isOfKind_21 ?_
      refine gd_ild2 dX1_isOfKind_22 ?_
      refine gd_icmp_ne 28 dX1_isOfKind_23 (by decide) (fun c23x1 => ?_) (fun c23x1 => ?_)
      · refine gd_gsU rfl dX1_isOfKind_28 ?_
        refine gd_ild3 dX1_isOfKind_31 ?_
        refine gd_uald dX1_isOfKind_32 (by repeat' (first | with_reducible rfl | apply ni_add | apply ni_mul)) (by omega) ?_
        rw [show (stI 96).getD 0 0 = -1 from by decide]
        refine gd_ist3 dX1_isOfKind_33 rfl ?_
        refine gd_iinc4 (b := nI 1) dX1_isOfKind_34 (by decide) rfl ?_
        refine gd_goto 10 dX1_isOfKind_37 (by decide) ?_
        refine gd_ild4 dX1_isOfKind_10 ?_
        refine gd_bipush (v := nI 6) dX1_isOfKind_12 (by decide) ?_
        refine gd_icmp_ge_f 40 dX1_isOfKind_14 (by decide) (by decide) ?_
        refine gd_ild3 dX1_isOfKind_17 ?_
        refine gd_if_lt_t 40 dX1_isOfKind_18 (by decide) (by decide) ?_
        refine gd_ic0 dX1_isOfKind_40 ?_
        refine gd_iret dX1_isOfKind_41 rfl (by first | rfl | decide | exact nar_bi _ | assumption) ?_
        have n0 : q ≠ 4 := fun e => c23 (by rw [e])
        have n1 : q ≠ 0 := fun e => c23x1 (by rw [e])
        rw [bi_df (by omega)]
      · refine gd_ic1 dX1_isOfKind_26 ?_
        refine gd_iret dX1_isOfKind_27 rfl (by first | rfl | decide | exact nar_bi _ | assumption) ?_
        rw [bi_dt (by have := (nI_eq (by decide) (by omega)).mp c23x1; omega)]
    · refine gd_ic1 dX1_isOfKind_26 ?_
      refine gd_iret dX1_isOfKind_27 rfl (by first | rfl | decide | exact nar_bi _ | assumption) ?_
      rw [bi_dt (by have := (nI_eq (by decide) (by omega)).mp c23; omega)]
  · refine gd_ald0 dX1_isOfKind_0 (by decide) ?_
    refine gd_getR (r := 7) dX1_isOfKind_1 fl_1_9 rfl rfl rfl (by decide) ?_
    refine gd_ild1 dX1_isOfKind_4 ?_
    refine gd_iald (n := 30) dX1_isOfKind_5 rfl (by decide) (by repeat' (first | with_reducible rfl | apply ni_add | apply ni_mul)) (by omega) ?_
    rw [hk]
    refine gd_ist3 dX1_isOfKind_6 rfl ?_
    refine gd_ic0 dX1_isOfKind_7 ?_
    refine gd_ist4 dX1_isOfKind_8 rfl ?_
    refine gd_ild4 dX1_isOfKind_10 ?_
    refine gd_bipush (v := nI 6) dX1_isOfKind_12 (by decide) ?_
    refine gd_icmp_ge_f 40 dX1_isOfKind_14 (by decide) (by decide) ?_
    refine gd_ild3 dX1_isOfKind_17 ?_
    refine gd_if_lt_f 40 dX1_isOfKind_18 (by decide) (by decide) ?_
    refine gd_ild3 dX1_isOfKind_21 ?_
    refine gd_ild2 dX1_isOfKind_22 ?_
    refine gd_icmp_ne 28 dX1_isOfKind_23 (by decide) (fun c23 => ?_) (fun c23 => ?_)
    · refine gd_gsU rfl dX1_isOfKind_28 ?_
      refine gd_ild3 dX1_isOfKind_31 ?_
      refine gd_uald dX1_isOfKind_32 (by repeat' (first | with_reducible rfl | apply ni_add | apply ni_mul)) (by omega) ?_
      rw [show (stI 96).getD 5 0 = nI 0 from by decide]
      refine gd_ist3 dX1_isOfKind_33 rfl ?_
      refine gd_iinc4 (b := nI 1) dX1_isOfKind_34 (by decide) rfl ?_
      refine gd_goto 10 dX1_isOfKind_37 (by decide) ?_
      refine gd_ild4 dX1_isOfKind_10 ?_
      refine gd_bipush (v := nI 6) dX1_isOfKind_12 (by decide) ?_
      refine gd_icmp_ge_f 40 dX1_isOfKind_14 (by decide) (by decide) ?_
      refine gd_ild3 dX1_isOfKind_17 ?_
      refine gd_if_lt_f 40 dX1_isOfKind_18 (by decide) (by decide) ?_
      refine gd_ild3 dX1_isOfKind_21 ?_
      refine gd_ild2 dX1_isOfKind_22 ?_
      refine gd_icmp_ne 28 dX1_isOfKind_23 (by decide) (fun c23x1 => ?_) (fun c23x1 => ?_)
      · refine gd_gsU rfl dX1_isOfKind_28 ?_
        refine gd_ild3 dX1_isOfKind_31 ?_
        refine gd_uald dX1_isOfKind_32 (by repeat' (first | with_reducible rfl | apply ni_add | apply ni_mul)) (by omega) ?_
        rw [show (stI 96).getD 0 0 = -1 from by decide]
        refine gd_ist3 dX1_isOfKind_33 rfl ?_
        refine gd_iinc4 (b := nI 1) dX1_isOfKind_34 (by decide) rfl ?_
        refine gd_goto 10 dX1_isOfKind_37 (by decide) ?_
        refine gd_ild4 dX1_isOfKind_10 ?_
        refine gd_bipush (v := nI 6) dX1_isOfKind_12 (by decide) ?_
        refine gd_icmp_ge_f 40 dX1_isOfKind_14 (by decide) (by decide) ?_
        refine gd_ild3 dX1_isOfKind_17 ?_
        refine gd_if_lt_t 40 dX1_isOfKind_18 (by decide) (by decide) ?_
        refine gd_ic0 dX1_isOfKind_40 ?_
        refine gd_iret dX1_isOfKind_41 rfl (by first | rfl | decide | exact nar_bi _ | assumption) ?_
        have n0 : q ≠ 5 := fun e => c23 (by rw [e])
        have n1 : q ≠ 0 := fun e => c23x1 (by rw [e])
        rw [bi_df (by omega)]
      · refine gd_ic1 dX1_isOfKind_26 ?_
        refine gd_iret dX1_isOfKind_27 rfl (by first | rfl | decide | exact nar_bi _ | assumption) ?_
        rw [bi_dt (by have := (nI_eq (by decide) (by omega)).mp c23x1; omega)]
    · refine gd_ic1 dX1_isOfKind_26 ?_
      refine gd_iret dX1_isOfKind_27 rfl (by first | rfl | decide | exact nar_bi _ | assumption) ?_
      rw [bi_dt (by have := (nI_eq (by decide) (by omega)).mp c23; omega)]
theorem m_isOf {h : Hp} {k q l : Nat} (hl : l < 30) (hk : h.1 78 (9 * l) = nI k) (k6 : k < 6) (q6 : q < 6) : Gd mX9_isOf 0 [.ref 72, .int (nI l), .int (nI q), .null] [] h (some (.int (bi (decide (isK k q)))), h) := by
  refine gd_ald0 dX9_isOf_0 (by decide) ?_
  refine gd_ild1 dX9_isOf_1 ?_
  refine gd_ic0 dX9_isOf_2 ?_
  refine gd_cV2i dX9_isOf_3 ct_9_120 rc_72 ⟨Nat.le_of_ble_eq_true rfl, Nat.le_of_ble_eq_true rfl⟩ (Nat.le_of_ble_eq_true rfl) (Nat.le_of_ble_eq_true rfl) (m_its (l := l) (w := 0) hl (by decide) _) ?_
  rw [show h.1 78 (9 * l + 0) = nI k from hk]
  refine gd_ist3 dX9_isOf_6 rfl ?_
  refine gd_ild2 dX9_isOf_7 ?_
  refine gd_if_eq 26 dX9_isOf_8 (by decide) (fun c8 => ?_) (fun c8 => ?_)
  · refine gd_ic1 dX9_isOf_26 ?_
    refine gd_goto 31 dX9_isOf_27 (by decide) ?_
    refine gd_iret dX9_isOf_31 rfl (by first | rfl | decide | exact nar_bi _ | assumption) ?_
    have z0 := (nI_z (by omega)).mp c8
    rw [bi_dt (by omega)]
  · refine gd_ild3 dX9_isOf_11 ?_
    refine gd_ild2 dX9_isOf_12 ?_
    refine gd_icmp_eq 26 dX9_isOf_13 (by decide) (fun c13 => ?_) (fun c13 => ?_)
    · refine gd_ic1 dX9_isOf_26 ?_
      refine gd_goto 31 dX9_isOf_27 (by decide) ?_
      refine gd_iret dX9_isOf_31 rfl (by first | rfl | decide | exact nar_bi _ | assumption) ?_
      have z1 := (nI_eq (by omega) (by omega)).mp c13
      rw [bi_dt (by omega)]
    · refine gd_ild2 dX9_isOf_16 ?_
      refine gd_ic2 dX9_isOf_17 ?_
      refine gd_icmp_ne 30 dX9_isOf_18 (by decide) (fun c18 => ?_) (fun c18 => ?_)
      · refine gd_ic0 dX9_isOf_30 ?_
        refine gd_iret dX9_isOf_31 rfl (by first | rfl | decide | exact nar_bi _ | assumption) ?_
        have z0 : q ≠ 0 := fun e => c8 ((nI_z (by omega)).mpr e)
        have z1 : k ≠ q := fun e => c13 (by rw [e])
        have z2 : q ≠ 2 := fun e => c18 (by rw [e])
        rw [bi_df (by omega)]
      · refine gd_ild3 dX9_isOf_21 ?_
        refine gd_ic3 dX9_isOf_22 ?_
        refine gd_icmp_ne 30 dX9_isOf_23 (by decide) (fun c23 => ?_) (fun c23 => ?_)
        · refine gd_ic0 dX9_isOf_30 ?_
          refine gd_iret dX9_isOf_31 rfl (by first | rfl | decide | exact nar_bi _ | assumption) ?_
          have z0 : q ≠ 0 := fun e => c8 ((nI_z (by omega)).mpr e)
          have z1 : k ≠ q := fun e => c13 (by rw [e])
          have z2 : k ≠ 3 := fun e => c23 (by rw [e])
          rw [bi_df (by omega)]
        · refine gd_ic1 dX9_isOf_26 ?_
          refine gd_goto 31 dX9_isOf_27 (by decide) ?_
          refine gd_iret dX9_isOf_31 rfl (by first | rfl | decide | exact nar_bi _ | assumption) ?_
          have z1 := (nI_eq (by omega) (by decide)).mp c18
          have z2 := (nI_eq (by omega) (by decide)).mp c23
          rw [bi_dt (by omega)]
set_option maxHeartbeats 1000000 in
theorem p_as {h : Hp} (i : Inv h) (a b : Int32) : Pas mX8_as mX9_as [.ref 0, .int a, .int b] [.ref 72, .int a, .int b] h := by
  have lN := i.lN
  rcases rng a (nN (ms h)) (by omega) with ⟨l, hl, rfl⟩ | ha
  · rcases rng b (6) (by decide) with ⟨q, hq, rfl⟩ | hb
    · obtain ⟨k, _, _, _, _, _, _, _, hk, _, _, _, _, _, _, _, k5, _⟩ := i.w.l l hl
      by_cases hkk : isK k q
      · refine Pas.read (r := .int (nI l)) (r2 := .int (nI l)) (h1 := h) (h2 := h) i rfl (Same.rf _) (Same.rf _) ?_ ?_
        · refine gd_ald0 dX8_as_0 (by decide) ?_
          refine gd_ild1 dX8_as_1 ?_
          refine gd_cV1i dX8_as_2 ct_8_142 rc_0 ⟨Nat.le_of_ble_eq_true rfl, Nat.le_of_ble_eq_true rfl⟩ (Nat.le_of_ble_eq_true rfl) (Nat.le_of_ble_eq_true rfl) (c_isLetter_t i.w i.c hl) ?_
          refine gd_if_eq_f 17 dX8_as_5 (by decide) (by decide) ?_
          refine gd_ild2 dX8_as_8 ?_
          refine gd_bipush (v := nI 6) dX8_as_9 (by decide) ?_
          refine gd_cS2i dX8_as_11 ct_8_48 ⟨Nat.le_of_ble_eq_true rfl, Nat.le_of_ble_eq_true rfl⟩ (Nat.le_of_ble_eq_true rfl) (Nat.le_of_ble_eq_true rfl) (c_isBelow_t hq (by decide) _) ?_
          refine gd_if_ne_t 24 dX8_as_14 (by decide) (by decide) ?_
          refine gd_ald0 dX8_as_24 (by decide) ?_
          refine gd_getR (r := 1) dX8_as_25 fl_8_12 rfl rfl rfl (by decide) ?_
          refine gd_getR (r := 6) dX8_as_28 fl_8_100 rfl rfl rfl (by decide) ?_
          refine gd_ild1 dX8_as_31 ?_
          refine gd_ild2 dX8_as_32 ?_
          refine gd_cV2i dX8_as_33 ct_8_145 rc_6 ⟨Nat.le_of_ble_eq_true rfl, Nat.le_of_ble_eq_true rfl⟩ (Nat.le_of_ble_eq_true rfl) (Nat.le_of_ble_eq_true rfl) (c_isOfKind (by omega) (by rw [i.c.lk1 l hl]; exact hk) (by omega) hq) ?_
          rw [bi_dt hkk]
          refine gd_if_ne_t 46 dX8_as_36 (by decide) (by decide) ?_
          refine gd_ild1 dX8_as_46 ?_
          refine gd_iret dX8_as_47 rfl rfl ?_
          rfl
        · refine gd_ald0 dX9_as_0 (by decide) ?_
          refine gd_ild1 dX9_as_1 ?_
          refine gd_cV1i dX9_as_2 ct_9_113 rc_72 ⟨Nat.le_of_ble_eq_true rfl, Nat.le_of_ble_eq_true rfl⟩ (Nat.le_of_ble_eq_true rfl) (Nat.le_of_ble_eq_true rfl) (m_isLetter_t (h := h) (by exact i.w) hl) ?_
          refine gd_if_eq_f 17 dX9_as_5 (by decide) (by decide) ?_
          refine gd_ild2 dX9_as_8 ?_
          refine gd_ic0 dX9_as_9 ?_
          refine gd_ic5 dX9_as_10 ?_
          refine gd_cS3i dX9_as_11 ct_9_79 ⟨Nat.le_of_ble_eq_true rfl, Nat.le_of_ble_eq_true rfl⟩ (Nat.le_of_ble_eq_true rfl) (Nat.le_of_ble_eq_true rfl) (m_in_t (m := 5) (by omega) (by decide) _) ?_
          refine gd_if_ne_t 23 dX9_as_14 (by decide) (by decide) ?_
          refine gd_ald0 dX9_as_23 (by decide) ?_
          refine gd_ild1 dX9_as_24 ?_
          refine gd_ild2 dX9_as_25 ?_
          refine gd_cV2i dX9_as_26 ct_9_124 rc_72 ⟨Nat.le_of_ble_eq_true rfl, Nat.le_of_ble_eq_true rfl⟩ (Nat.le_of_ble_eq_true rfl) (Nat.le_of_ble_eq_true rfl) (m_isOf (h := h) (by omega) (by show h.1 78 (9 * l) = _; rw [← ms_r4 (by omega)]; exact hk) (by omega) hq) ?_
          rw [bi_dt hkk]
          refine gd_if_eq_f 36 dX9_as_29 (by decide) (by decide) ?_
          refine gd_ild1 dX9_as_32 ?_
          refine gd_goto 41 dX9_as_33 (by decide) ?_
          refine gd_iret dX9_as_41 rfl rfl ?_
          rfl
      · refine Pas.find (h1 := h) (h2 := hf (h) 2) (v := -1000000003) (w := (-1000000000 : Int32) - nI 3) 2 i (by decide) (by decide) (by decide) (Same.rf _) (Same.rf _) ?_ ?_
        · refine gd_ald0 dX8_as_0 (by decide) ?_
          refine gd_ild1 dX8_as_1 ?_
          refine gd_cV1i dX8_as_2 ct_8_142 rc_0 ⟨Nat.le_of_ble_eq_true rfl, Nat.le_of_ble_eq_true rfl⟩ (Nat.le_of_ble_eq_true rfl) (Nat.le_of_ble_eq_true rfl) (c_isLetter_t i.w i.c hl) ?_
          refine gd_if_eq_f 17 dX8_as_5 (by decide) (by decide) ?_
          refine gd_ild2 dX8_as_8 ?_
          refine gd_bipush (v := nI 6) dX8_as_9 (by decide) ?_
          refine gd_cS2i dX8_as_11 ct_8_48 ⟨Nat.le_of_ble_eq_true rfl, Nat.le_of_ble_eq_true rfl⟩ (Nat.le_of_ble_eq_true rfl) (Nat.le_of_ble_eq_true rfl) (c_isBelow_t hq (by decide) _) ?_
          refine gd_if_ne_t 24 dX8_as_14 (by decide) (by decide) ?_
          refine gd_ald0 dX8_as_24 (by decide) ?_
          refine gd_getR (r := 1) dX8_as_25 fl_8_12 rfl rfl rfl (by decide) ?_
          refine gd_getR (r := 6) dX8_as_28 fl_8_100 rfl rfl rfl (by decide) ?_
          refine gd_ild1 dX8_as_31 ?_
          refine gd_ild2 dX8_as_32 ?_
          refine gd_cV2i dX8_as_33 ct_8_145 rc_6 ⟨Nat.le_of_ble_eq_true rfl, Nat.le_of_ble_eq_true rfl⟩ (Nat.le_of_ble_eq_true rfl) (Nat.le_of_ble_eq_true rfl) (c_isOfKind (by omega) (by rw [i.c.lk1 l hl]; exact hk) (by omega) hq) ?_
          rw [bi_df hkk]
          refine gd_if_ne_f 46 dX8_as_36 (by decide) (by decide) ?_
          refine gd_ald0 dX8_as_39 (by decide) ?_
          refine gd_ldc dX8_as_40 ld_8_148 ?_
          refine gd_cV1i dX8_as_42 ct_8_53 rc_0 ⟨Nat.le_of_ble_eq_true rfl, Nat.le_of_ble_eq_true rfl⟩ (Nat.le_of_ble_eq_true rfl) (Nat.le_of_ble_eq_true rfl) (c_f2 _) ?_
          refine gd_iret dX8_as_45 rfl rfl ?_
          rfl
        · refine gd_ald0 dX9_as_0 (by decide) ?_
          refine gd_ild1 dX9_as_1 ?_
          refine gd_cV1i dX9_as_2 ct_9_113 rc_72 ⟨Nat.le_of_ble_eq_true rfl, Nat.le_of_ble_eq_true rfl⟩ (Nat.le_of_ble_eq_true rfl) (Nat.le_of_ble_eq_true rfl) (m_isLetter_t (h := hf h 2) (by exact i.w) hl) ?_
          refine gd_if_eq_f 17 dX9_as_5 (by decide) (by decide) ?_
          refine gd_ild2 dX9_as_8 ?_
          refine gd_ic0 dX9_as_9 ?_
          refine gd_ic5 dX9_as_10 ?_
          refine gd_cS3i dX9_as_11 ct_9_79 ⟨Nat.le_of_ble_eq_true rfl, Nat.le_of_ble_eq_true rfl⟩ (Nat.le_of_ble_eq_true rfl) (Nat.le_of_ble_eq_true rfl) (m_in_t (m := 5) (by omega) (by decide) _) ?_
          refine gd_if_ne_t 23 dX9_as_14 (by decide) (by decide) ?_
          refine gd_ald0 dX9_as_23 (by decide) ?_
          refine gd_ild1 dX9_as_24 ?_
          refine gd_ild2 dX9_as_25 ?_
          refine gd_cV2i dX9_as_26 ct_9_124 rc_72 ⟨Nat.le_of_ble_eq_true rfl, Nat.le_of_ble_eq_true rfl⟩ (Nat.le_of_ble_eq_true rfl) (Nat.le_of_ble_eq_true rfl) (m_isOf (h := hf h 2) (by omega) (by show h.1 78 (9 * l) = _; rw [← ms_r4 (by omega)]; exact hk) (by omega) hq) ?_
          rw [bi_df hkk]
          refine gd_if_eq_t 36 dX9_as_29 (by decide) (by decide) ?_
          refine gd_ald0 dX9_as_36 (by decide) ?_
          refine gd_ic3 dX9_as_37 ?_
          refine gd_cV1i dX9_as_38 ct_9_97 rc_72 ⟨Nat.le_of_ble_eq_true rfl, Nat.le_of_ble_eq_true rfl⟩ (Nat.le_of_ble_eq_true rfl) (Nat.le_of_ble_eq_true rfl) (m_f2 _) ?_
          refine gd_iret dX9_as_41 rfl rfl ?_
          rfl
    · refine Pas.find (h1 := h) (h2 := hf (h) 0) (v := -1000000001) (w := (-1000000000 : Int32) - nI 1) 0 i (by decide) (by decide) (by decide) (Same.rf _) (Same.rf _) ?_ ?_
      · refine gd_ald0 dX8_as_0 (by decide) ?_
        refine gd_ild1 dX8_as_1 ?_
        refine gd_cV1i dX8_as_2 ct_8_142 rc_0 ⟨Nat.le_of_ble_eq_true rfl, Nat.le_of_ble_eq_true rfl⟩ (Nat.le_of_ble_eq_true rfl) (Nat.le_of_ble_eq_true rfl) (c_isLetter_t i.w i.c hl) ?_
        refine gd_if_eq_f 17 dX8_as_5 (by decide) (by decide) ?_
        refine gd_ild2 dX8_as_8 ?_
        refine gd_bipush (v := nI 6) dX8_as_9 (by decide) ?_
        refine gd_cS2i dX8_as_11 ct_8_48 ⟨Nat.le_of_ble_eq_true rfl, Nat.le_of_ble_eq_true rfl⟩ (Nat.le_of_ble_eq_true rfl) (Nat.le_of_ble_eq_true rfl) (c_isBelow_f hb _) ?_
        refine gd_if_ne_f 24 dX8_as_14 (by decide) (by decide) ?_
        refine gd_ald0 dX8_as_17 (by decide) ?_
        refine gd_ldc dX8_as_18 ld_8_52 ?_
        refine gd_cV1i dX8_as_20 ct_8_53 rc_0 ⟨Nat.le_of_ble_eq_true rfl, Nat.le_of_ble_eq_true rfl⟩ (Nat.le_of_ble_eq_true rfl) (Nat.le_of_ble_eq_true rfl) (c_f0 _) ?_
        refine gd_iret dX8_as_23 rfl rfl ?_
        rfl
      · refine gd_ald0 dX9_as_0 (by decide) ?_
        refine gd_ild1 dX9_as_1 ?_
        refine gd_cV1i dX9_as_2 ct_9_113 rc_72 ⟨Nat.le_of_ble_eq_true rfl, Nat.le_of_ble_eq_true rfl⟩ (Nat.le_of_ble_eq_true rfl) (Nat.le_of_ble_eq_true rfl) (m_isLetter_t (h := hf h 0) (by exact i.w) hl) ?_
        refine gd_if_eq_f 17 dX9_as_5 (by decide) (by decide) ?_
        refine gd_ild2 dX9_as_8 ?_
        refine gd_ic0 dX9_as_9 ?_
        refine gd_ic5 dX9_as_10 ?_
        refine gd_cS3i dX9_as_11 ct_9_79 ⟨Nat.le_of_ble_eq_true rfl, Nat.le_of_ble_eq_true rfl⟩ (Nat.le_of_ble_eq_true rfl) (Nat.le_of_ble_eq_true rfl) (m_in_f (n := 6) (by decide) (by decide) hb _) ?_
        refine gd_if_ne_f 23 dX9_as_14 (by decide) (by decide) ?_
        refine gd_ald0 dX9_as_17 (by decide) ?_
        refine gd_ic1 dX9_as_18 ?_
        refine gd_cV1i dX9_as_19 ct_9_97 rc_72 ⟨Nat.le_of_ble_eq_true rfl, Nat.le_of_ble_eq_true rfl⟩ (Nat.le_of_ble_eq_true rfl) (Nat.le_of_ble_eq_true rfl) (m_f0 _) ?_
        refine gd_iret dX9_as_22 rfl rfl ?_
        rfl
  · refine Pas.find (h1 := h) (h2 := hf (h) 0) (v := -1000000001) (w := (-1000000000 : Int32) - nI 1) 0 i (by decide) (by decide) (by decide) (Same.rf _) (Same.rf _) ?_ ?_
    · refine gd_ald0 dX8_as_0 (by decide) ?_
      refine gd_ild1 dX8_as_1 ?_
      refine gd_cV1i dX8_as_2 ct_8_142 rc_0 ⟨Nat.le_of_ble_eq_true rfl, Nat.le_of_ble_eq_true rfl⟩ (Nat.le_of_ble_eq_true rfl) (Nat.le_of_ble_eq_true rfl) (c_isLetter_f i.w i.c ha) ?_
      refine gd_if_eq_t 17 dX8_as_5 (by decide) (by decide) ?_
      refine gd_ald0 dX8_as_17 (by decide) ?_
      refine gd_ldc dX8_as_18 ld_8_52 ?_
      refine gd_cV1i dX8_as_20 ct_8_53 rc_0 ⟨Nat.le_of_ble_eq_true rfl, Nat.le_of_ble_eq_true rfl⟩ (Nat.le_of_ble_eq_true rfl) (Nat.le_of_ble_eq_true rfl) (c_f0 _) ?_
      refine gd_iret dX8_as_23 rfl rfl ?_
      rfl
    · refine gd_ald0 dX9_as_0 (by decide) ?_
      refine gd_ild1 dX9_as_1 ?_
      refine gd_cV1i dX9_as_2 ct_9_113 rc_72 ⟨Nat.le_of_ble_eq_true rfl, Nat.le_of_ble_eq_true rfl⟩ (Nat.le_of_ble_eq_true rfl) (Nat.le_of_ble_eq_true rfl) (m_isLetter_f (h := hf h 0) (by exact i.w) ha) ?_
      refine gd_if_eq_t 17 dX9_as_5 (by decide) (by decide) ?_
      refine gd_ald0 dX9_as_17 (by decide) ?_
      refine gd_ic1 dX9_as_18 ?_
      refine gd_cV1i dX9_as_19 ct_9_97 rc_72 ⟨Nat.le_of_ble_eq_true rfl, Nat.le_of_ble_eq_true rfl⟩ (Nat.le_of_ble_eq_true rfl) (Nat.le_of_ble_eq_true rfl) (m_f0 _) ?_
      refine gd_iret dX9_as_22 rfl rfl ?_
      rfl
theorem c_fieldOf0 {h : Hp} {s : Nat → Nat → Int32} (w : WF s) (c : CR h 1 s) {l : Nat} (hl : l < nN s) : Gd mX1_fieldOf 0 [.ref 6, .int (nI l), .int (nI 0)] [] h (some (.int (s 4 (9 * l))), h) := by
  have lN := w.n.2
  refine gd_ild2 dX1_fieldOf_0 ?_
  refine gd_tabIn (off := 47) 48 dX1_fieldOf_1 (by decide) (by decide) (by decide) (by decide) ?_
  refine gd_ald0 dX1_fieldOf_48 (by decide) ?_
  refine gd_getR (r := 7) dX1_fieldOf_49 fl_1_9 rfl rfl rfl (by decide) ?_
  refine gd_ild1 dX1_fieldOf_52 ?_
  refine gd_iald (n := 30) dX1_fieldOf_53 rfl (by decide) (by repeat' (first | with_reducible rfl | apply ni_add | apply ni_mul)) (by omega) ?_
  refine gd_iret dX1_fieldOf_54 rfl rfl ?_
  rw [c.lk1 l hl]
theorem c_fieldOf1 {h : Hp} {s : Nat → Nat → Int32} (w : WF s) (c : CR h 1 s) {l : Nat} (hl : l < nN s) : Gd mX1_fieldOf 0 [.ref 6, .int (nI l), .int (nI 1)] [] h (some (.int (s 4 (9 * l + 1))), h) := by
  have lN := w.n.2
  refine gd_ild2 dX1_fieldOf_0 ?_
  refine gd_tabIn (off := 54) 55 dX1_fieldOf_1 (by decide) (by decide) (by decide) (by decide) ?_
  refine gd_ald0 dX1_fieldOf_55 (by decide) ?_
  refine gd_getR (r := 8) dX1_fieldOf_56 fl_1_15 rfl rfl rfl (by decide) ?_
  refine gd_ild1 dX1_fieldOf_59 ?_
  refine gd_iald (n := 30) dX1_fieldOf_60 rfl (by decide) (by repeat' (first | with_reducible rfl | apply ni_add | apply ni_mul)) (by omega) ?_
  refine gd_iret dX1_fieldOf_61 rfl rfl ?_
  rw [c.lt1 l hl]
theorem c_fieldOf2 {h : Hp} {s : Nat → Nat → Int32} (w : WF s) (c : CR h 1 s) {l : Nat} (hl : l < nN s) : Gd mX1_fieldOf 0 [.ref 6, .int (nI l), .int (nI 2)] [] h (some (.int (s 4 (9 * l + 2))), h) := by
  have lN := w.n.2
  refine gd_ild2 dX1_fieldOf_0 ?_
  refine gd_tabIn (off := 61) 62 dX1_fieldOf_1 (by decide) (by decide) (by decide) (by decide) ?_
  refine gd_ald0 dX1_fieldOf_62 (by decide) ?_
  refine gd_getR (r := 9) dX1_fieldOf_63 fl_1_18 rfl rfl rfl (by decide) ?_
  refine gd_ild1 dX1_fieldOf_66 ?_
  refine gd_iald (n := 30) dX1_fieldOf_67 rfl (by decide) (by repeat' (first | with_reducible rfl | apply ni_add | apply ni_mul)) (by omega) ?_
  refine gd_iret dX1_fieldOf_68 rfl rfl ?_
  rw [c.lw1 l hl]
theorem c_fieldOf3 {h : Hp} {s : Nat → Nat → Int32} (w : WF s) (c : CR h 1 s) {l : Nat} (hl : l < nN s) : Gd mX1_fieldOf 0 [.ref 6, .int (nI l), .int (nI 3)] [] h (some (.int (s 4 (9 * l + 3))), h) := by
  have lN := w.n.2
  refine gd_ild2 dX1_fieldOf_0 ?_
  refine gd_tabIn (off := 68) 69 dX1_fieldOf_1 (by decide) (by decide) (by decide) (by decide) ?_
  refine gd_ald0 dX1_fieldOf_69 (by decide) ?_
  refine gd_getR (r := 10) dX1_fieldOf_70 fl_1_21 rfl rfl rfl (by decide) ?_
  refine gd_ild1 dX1_fieldOf_73 ?_
  refine gd_iald (n := 30) dX1_fieldOf_74 rfl (by decide) (by repeat' (first | with_reducible rfl | apply ni_add | apply ni_mul)) (by omega) ?_
  refine gd_iret dX1_fieldOf_75 rfl rfl ?_
  rw [c.ld1 l hl]
theorem c_fieldOf4 {h : Hp} {s : Nat → Nat → Int32} (w : WF s) (c : CR h 1 s) {l : Nat} (hl : l < nN s) : Gd mX1_fieldOf 0 [.ref 6, .int (nI l), .int (nI 4)] [] h (some (.int (s 4 (9 * l + 4))), h) := by
  have lN := w.n.2
  refine gd_ild2 dX1_fieldOf_0 ?_
  refine gd_tabIn (off := 75) 76 dX1_fieldOf_1 (by decide) (by decide) (by decide) (by decide) ?_
  refine gd_ald0 dX1_fieldOf_76 (by decide) ?_
  refine gd_getR (r := 11) dX1_fieldOf_77 fl_1_24 rfl rfl rfl (by decide) ?_
  refine gd_ild1 dX1_fieldOf_80 ?_
  refine gd_iald (n := 30) dX1_fieldOf_81 rfl (by decide) (by repeat' (first | with_reducible rfl | apply ni_add | apply ni_mul)) (by omega) ?_
  refine gd_iret dX1_fieldOf_82 rfl rfl ?_
  rw [c.lr1 l hl]
theorem c_fieldOf5 {h : Hp} {s : Nat → Nat → Int32} (w : WF s) (c : CR h 1 s) {l : Nat} (hl : l < nN s) : Gd mX1_fieldOf 0 [.ref 6, .int (nI l), .int (nI 5)] [] h (some (.int (s 4 (9 * l + 5))), h) := by
  have lN := w.n.2
  refine gd_ild2 dX1_fieldOf_0 ?_
  refine gd_tabIn (off := 82) 83 dX1_fieldOf_1 (by decide) (by decide) (by decide) (by decide) ?_
  refine gd_ald0 dX1_fieldOf_83 (by decide) ?_
  refine gd_getR (r := 12) dX1_fieldOf_84 fl_1_27 rfl rfl rfl (by decide) ?_
  refine gd_ild1 dX1_fieldOf_87 ?_
  refine gd_iald (n := 30) dX1_fieldOf_88 rfl (by decide) (by repeat' (first | with_reducible rfl | apply ni_add | apply ni_mul)) (by omega) ?_
  refine gd_iret dX1_fieldOf_89 rfl rfl ?_
  rw [c.lq1 l hl]
theorem c_fieldOf6 {h : Hp} {s : Nat → Nat → Int32} (w : WF s) (c : CR h 1 s) {l : Nat} (hl : l < nN s) : Gd mX1_fieldOf 0 [.ref 6, .int (nI l), .int (nI 6)] [] h (some (.int (s 4 (9 * l + 6))), h) := by
  have lN := w.n.2
  refine gd_ild2 dX1_fieldOf_0 ?_
  refine gd_tabIn (off := 89) 90 dX1_fieldOf_1 (by decide) (by decide) (by decide) (by decide) ?_
  refine gd_ald0 dX1_fieldOf_90 (by decide) ?_
  refine gd_ild1 dX1_fieldOf_91 ?_
  refine gd_cV1i dX1_fieldOf_92 ct_1_49 rc_6 ⟨Nat.le_of_ble_eq_true rfl, Nat.le_of_ble_eq_true rfl⟩ (Nat.le_of_ble_eq_true rfl) (Nat.le_of_ble_eq_true rfl) (c_isLost w c hl) ?_
  refine gd_if_eq 102 dX1_fieldOf_95 (by decide) (fun c95 => ?_) (fun c95 => ?_)
  · refine gd_ic0 dX1_fieldOf_102 ?_
    refine gd_iret dX1_fieldOf_103 rfl rfl ?_
    obtain ⟨_, _, _, _, _, _, oo, _, _, _, _, _, _, _, h7, _, _, _, _, _, _, _, h8, _⟩ := w.l l hl
    rw [bi_e0, decide_eq_false_iff_not, h7] at c95
    have : oo ≠ 1 := fun e => c95 (by rw [e])
    rw [h7, show oo = 0 by omega]
  · refine gd_ic1 dX1_fieldOf_98 ?_
    refine gd_goto 103 dX1_fieldOf_99 (by decide) ?_
    refine gd_iret dX1_fieldOf_103 rfl rfl ?_
    rw [bi_n0, decide_eq_true_iff] at c95
    rw [c95]
theorem c_fieldOf7 {h : Hp} {s : Nat → Nat → Int32} (w : WF s) (c : CR h 1 s) {l : Nat} (hl : l < nN s) : Gd mX1_fieldOf 0 [.ref 6, .int (nI l), .int (nI 7)] [] h (some (.int (s 4 (9 * l + 7))), h) := by
  have lN := w.n.2
  refine gd_ild2 dX1_fieldOf_0 ?_
  refine gd_tabIn (off := 103) 104 dX1_fieldOf_1 (by decide) (by decide) (by decide) (by decide) ?_
  refine gd_ald0 dX1_fieldOf_104 (by decide) ?_
  refine gd_getR (r := 13) dX1_fieldOf_105 fl_1_30 rfl rfl rfl (by decide) ?_
  refine gd_ild1 dX1_fieldOf_108 ?_
  refine gd_iald (n := 30) dX1_fieldOf_109 rfl (by decide) (by repeat' (first | with_reducible rfl | apply ni_add | apply ni_mul)) (by omega) ?_
  refine gd_iret dX1_fieldOf_110 rfl rfl ?_
  rw [c.lf1 l hl]
theorem c_fieldOf8 {h : Hp} {s : Nat → Nat → Int32} (w : WF s) (c : CR h 1 s) {l : Nat} (hl : l < nN s) : Gd mX1_fieldOf 0 [.ref 6, .int (nI l), .int (nI 8)] [] h (some (.int (s 4 (9 * l + 8))), h) := by
  have lN := w.n.2
  refine gd_ild2 dX1_fieldOf_0 ?_
  refine gd_tabOut 111 dX1_fieldOf_1 (by decide) (by decide) ?_
  refine gd_ald0 dX1_fieldOf_111 (by decide) ?_
  refine gd_getR (r := 14) dX1_fieldOf_112 fl_1_33 rfl rfl rfl (by decide) ?_
  refine gd_ild1 dX1_fieldOf_115 ?_
  refine gd_iald (n := 30) dX1_fieldOf_116 rfl (by decide) (by repeat' (first | with_reducible rfl | apply ni_add | apply ni_mul)) (by omega) ?_
  refine gd_iret dX1_fieldOf_117 rfl rfl ?_
  rw [c.le1 l hl]
set_option maxHeartbeats 1000000 in
theorem p_told {h : Hp} (i : Inv h) (a b : Int32) : Pas mX8_told mX9_told [.ref 0, .int a, .int b] [.ref 72, .int a, .int b] h := by
  have lN := i.lN
  rcases rng a (nN (ms h)) (by omega) with ⟨l, hl, rfl⟩ | ha
  · rcases rng b (9) (by decide) with ⟨q, hq, rfl⟩ | hb
    · rcases (show q = 0 ∨ q = 1 ∨ q = 2 ∨ q = 3 ∨ q = 4 ∨ q = 5 ∨ q = 6 ∨ q = 7 ∨ q = 8 by omega) with rfl | rfl | rfl | rfl | rfl | rfl | rfl | rfl | rfl
      · refine Pas.read (r := .int (ms h 4 (9 * l))) (r2 := .int (ms h 4 (9 * l))) (h1 := h) (h2 := h) i rfl (Same.rf _) (Same.rf _) ?_ ?_
        · refine gd_ald0 dX8_told_0 (by decide) ?_
          refine gd_ild1 dX8_told_1 ?_
          refine gd_cV1i dX8_told_2 ct_8_142 rc_0 ⟨Nat.le_of_ble_eq_true rfl, Nat.le_of_ble_eq_true rfl⟩ (Nat.le_of_ble_eq_true rfl) (Nat.le_of_ble_eq_true rfl) (c_isLetter_t i.w i.c hl) ?_
          refine gd_if_eq_f 17 dX8_told_5 (by decide) (by decide) ?_
          refine gd_ild2 dX8_told_8 ?_
          refine gd_bipush (v := nI 9) dX8_told_9 (by decide) ?_
          refine gd_cS2i dX8_told_11 ct_8_48 ⟨Nat.le_of_ble_eq_true rfl, Nat.le_of_ble_eq_true rfl⟩ (Nat.le_of_ble_eq_true rfl) (Nat.le_of_ble_eq_true rfl) (c_isBelow_t (by decide) (by decide) _) ?_
          refine gd_if_ne_t 24 dX8_told_14 (by decide) (by decide) ?_
          refine gd_ild2 dX8_told_24 ?_
          refine gd_bipush (v := nI 7) dX8_told_25 (by decide) ?_
          refine gd_icmp_ne_t 52 dX8_told_27 (by decide) (by decide) ?_
          refine gd_ild2 dX8_told_52 ?_
          refine gd_bipush (v := nI 8) dX8_told_53 (by decide) ?_
          refine gd_icmp_ne_t 80 dX8_told_55 (by decide) (by decide) ?_
          refine gd_ald0 dX8_told_80 (by decide) ?_
          refine gd_getR (r := 1) dX8_told_81 fl_8_12 rfl rfl rfl (by decide) ?_
          refine gd_getR (r := 6) dX8_told_84 fl_8_100 rfl rfl rfl (by decide) ?_
          refine gd_ild1 dX8_told_87 ?_
          refine gd_ild2 dX8_told_88 ?_
          refine gd_cV2i dX8_told_89 ct_8_149 rc_6 ⟨Nat.le_of_ble_eq_true rfl, Nat.le_of_ble_eq_true rfl⟩ (Nat.le_of_ble_eq_true rfl) (Nat.le_of_ble_eq_true rfl) (c_fieldOf0 i.w i.c hl) ?_
          refine gd_iret dX8_told_92 rfl rfl ?_
          rfl
        · refine gd_ald0 dX9_told_0 (by decide) ?_
          refine gd_ild1 dX9_told_1 ?_
          refine gd_cV1i dX9_told_2 ct_9_113 rc_72 ⟨Nat.le_of_ble_eq_true rfl, Nat.le_of_ble_eq_true rfl⟩ (Nat.le_of_ble_eq_true rfl) (Nat.le_of_ble_eq_true rfl) (m_isLetter_t (h := h) (by exact i.w) hl) ?_
          refine gd_if_eq_f 18 dX9_told_5 (by decide) (by decide) ?_
          refine gd_ild2 dX9_told_8 ?_
          refine gd_ic0 dX9_told_9 ?_
          refine gd_bipush (v := nI 8) dX9_told_10 (by decide) ?_
          refine gd_cS3i dX9_told_12 ct_9_79 ⟨Nat.le_of_ble_eq_true rfl, Nat.le_of_ble_eq_true rfl⟩ (Nat.le_of_ble_eq_true rfl) (Nat.le_of_ble_eq_true rfl) (m_in_t (m := 8) (by decide) (by decide) _) ?_
          refine gd_if_ne_t 24 dX9_told_15 (by decide) (by decide) ?_
          refine gd_ild2 dX9_told_24 ?_
          refine gd_bipush (v := nI 7) dX9_told_25 (by decide) ?_
          refine gd_icmp_ne_t 39 dX9_told_27 (by decide) (by decide) ?_
          refine gd_ild2 dX9_told_39 ?_
          refine gd_bipush (v := nI 8) dX9_told_40 (by decide) ?_
          refine gd_icmp_ne_t 60 dX9_told_42 (by decide) (by decide) ?_
          refine gd_ald0 dX9_told_60 (by decide) ?_
          refine gd_ild1 dX9_told_61 ?_
          refine gd_ild2 dX9_told_62 ?_
          refine gd_cV2i dX9_told_63 ct_9_120 rc_72 ⟨Nat.le_of_ble_eq_true rfl, Nat.le_of_ble_eq_true rfl⟩ (Nat.le_of_ble_eq_true rfl) (Nat.le_of_ble_eq_true rfl) (m_its (l := l) (w := 0) (by omega) (by decide) _) ?_
          refine gd_iret dX9_told_66 rfl rfl ?_
          rw [ms_r4 (by omega)]; rfl
      · refine Pas.read (r := .int (ms h 4 (9 * l + 1))) (r2 := .int (ms h 4 (9 * l + 1))) (h1 := h) (h2 := h) i rfl (Same.rf _) (Same.rf _) ?_ ?_
        · refine gd_ald0 dX8_told_0 (by decide) ?_
          refine gd_ild1 dX8_told_1 ?_
          refine gd_cV1i dX8_told_2 ct_8_142 rc_0 ⟨Nat.le_of_ble_eq_true rfl, Nat.le_of_ble_eq_true rfl⟩ (Nat.le_of_ble_eq_true rfl) (Nat.le_of_ble_eq_true rfl) (c_isLetter_t i.w i.c hl) ?_
          refine gd_if_eq_f 17 dX8_told_5 (by decide) (by decide) ?_
          refine gd_ild2 dX8_told_8 ?_
          refine gd_bipush (v := nI 9) dX8_told_9 (by decide) ?_
          refine gd_cS2i dX8_told_11 ct_8_48 ⟨Nat.le_of_ble_eq_true rfl, Nat.le_of_ble_eq_true rfl⟩ (Nat.le_of_ble_eq_true rfl) (Nat.le_of_ble_eq_true rfl) (c_isBelow_t (by decide) (by decide) _) ?_
          refine gd_if_ne_t 24 dX8_told_14 (by decide) (by decide) ?_
          refine gd_ild2 dX8_told_24 ?_
          refine gd_bipush (v := nI 7) dX8_told_25 (by decide) ?_
          refine gd_icmp_ne_t 52 dX8_told_27 (by decide) (by decide) ?_
          refine gd_ild2 dX8_told_52 ?_
          refine gd_bipush (v := nI 8) dX8_told_53 (by decide) ?_
          refine gd_icmp_ne_t 80 dX8_told_55 (by decide) (by decide) ?_
          refine gd_ald0 dX8_told_80 (by decide) ?_
          refine gd_getR (r := 1) dX8_told_81 fl_8_12 rfl rfl rfl (by decide) ?_
          refine gd_getR (r := 6) dX8_told_84 fl_8_100 rfl rfl rfl (by decide) ?_
          refine gd_ild1 dX8_told_87 ?_
          refine gd_ild2 dX8_told_88 ?_
          refine gd_cV2i dX8_told_89 ct_8_149 rc_6 ⟨Nat.le_of_ble_eq_true rfl, Nat.le_of_ble_eq_true rfl⟩ (Nat.le_of_ble_eq_true rfl) (Nat.le_of_ble_eq_true rfl) (c_fieldOf1 i.w i.c hl) ?_
          refine gd_iret dX8_told_92 rfl rfl ?_
          rfl
        · refine gd_ald0 dX9_told_0 (by decide) ?_
          refine gd_ild1 dX9_told_1 ?_
          refine gd_cV1i dX9_told_2 ct_9_113 rc_72 ⟨Nat.le_of_ble_eq_true rfl, Nat.le_of_ble_eq_true rfl⟩ (Nat.le_of_ble_eq_true rfl) (Nat.le_of_ble_eq_true rfl) (m_isLetter_t (h := h) (by exact i.w) hl) ?_
          refine gd_if_eq_f 18 dX9_told_5 (by decide) (by decide) ?_
          refine gd_ild2 dX9_told_8 ?_
          refine gd_ic0 dX9_told_9 ?_
          refine gd_bipush (v := nI 8) dX9_told_10 (by decide) ?_
          refine gd_cS3i dX9_told_12 ct_9_79 ⟨Nat.le_of_ble_eq_true rfl, Nat.le_of_ble_eq_true rfl⟩ (Nat.le_of_ble_eq_true rfl) (Nat.le_of_ble_eq_true rfl) (m_in_t (m := 8) (by decide) (by decide) _) ?_
          refine gd_if_ne_t 24 dX9_told_15 (by decide) (by decide) ?_
          refine gd_ild2 dX9_told_24 ?_
          refine gd_bipush (v := nI 7) dX9_told_25 (by decide) ?_
          refine gd_icmp_ne_t 39 dX9_told_27 (by decide) (by decide) ?_
          refine gd_ild2 dX9_told_39 ?_
          refine gd_bipush (v := nI 8) dX9_told_40 (by decide) ?_
          refine gd_icmp_ne_t 60 dX9_told_42 (by decide) (by decide) ?_
          refine gd_ald0 dX9_told_60 (by decide) ?_
          refine gd_ild1 dX9_told_61 ?_
          refine gd_ild2 dX9_told_62 ?_
          refine gd_cV2i dX9_told_63 ct_9_120 rc_72 ⟨Nat.le_of_ble_eq_true rfl, Nat.le_of_ble_eq_true rfl⟩ (Nat.le_of_ble_eq_true rfl) (Nat.le_of_ble_eq_true rfl) (m_its (l := l) (w := 1) (by omega) (by decide) _) ?_
          refine gd_iret dX9_told_66 rfl rfl ?_
          rw [ms_r4 (by omega)]
      · refine Pas.read (r := .int (ms h 4 (9 * l + 2))) (r2 := .int (ms h 4 (9 * l + 2))) (h1 := h) (h2 := h) i rfl (Same.rf _) (Same.rf _) ?_ ?_
        · refine gd_ald0 dX8_told_0 (by decide) ?_
          refine gd_ild1 dX8_told_1 ?_
          refine gd_cV1i dX8_told_2 ct_8_142 rc_0 ⟨Nat.le_of_ble_eq_true rfl, Nat.le_of_ble_eq_true rfl⟩ (Nat.le_of_ble_eq_true rfl) (Nat.le_of_ble_eq_true rfl) (c_isLetter_t i.w i.c hl) ?_
          refine gd_if_eq_f 17 dX8_told_5 (by decide) (by decide) ?_
          refine gd_ild2 dX8_told_8 ?_
          refine gd_bipush (v := nI 9) dX8_told_9 (by decide) ?_
          refine gd_cS2i dX8_told_11 ct_8_48 ⟨Nat.le_of_ble_eq_true rfl, Nat.le_of_ble_eq_true rfl⟩ (Nat.le_of_ble_eq_true rfl) (Nat.le_of_ble_eq_true rfl) (c_isBelow_t (by decide) (by decide) _) ?_
          refine gd_if_ne_t 24 dX8_told_14 (by decide) (by decide) ?_
          refine gd_ild2 dX8_told_24 ?_
          refine gd_bipush (v := nI 7) dX8_told_25 (by decide) ?_
          refine gd_icmp_ne_t 52 dX8_told_27 (by decide) (by decide) ?_
          refine gd_ild2 dX8_told_52 ?_
          refine gd_bipush (v := nI 8) dX8_told_53 (by decide) ?_
          refine gd_icmp_ne_t 80 dX8_told_55 (by decide) (by decide) ?_
          refine gd_ald0 dX8_told_80 (by decide) ?_
          refine gd_getR (r := 1) dX8_told_81 fl_8_12 rfl rfl rfl (by decide) ?_
          refine gd_getR (r := 6) dX8_told_84 fl_8_100 rfl rfl rfl (by decide) ?_
          refine gd_ild1 dX8_told_87 ?_
          refine gd_ild2 dX8_told_88 ?_
          refine gd_cV2i dX8_told_89 ct_8_149 rc_6 ⟨Nat.le_of_ble_eq_true rfl, Nat.le_of_ble_eq_true rfl⟩ (Nat.le_of_ble_eq_true rfl) (Nat.le_of_ble_eq_true rfl) (c_fieldOf2 i.w i.c hl) ?_
          refine gd_iret dX8_told_92 rfl rfl ?_
          rfl
        · refine gd_ald0 dX9_told_0 (by decide) ?_
          refine gd_ild1 dX9_told_1 ?_
          refine gd_cV1i dX9_told_2 ct_9_113 rc_72 ⟨Nat.le_of_ble_eq_true rfl, Nat.le_of_ble_eq_true rfl⟩ (Nat.le_of_ble_eq_true rfl) (Nat.le_of_ble_eq_true rfl) (m_isLetter_t (h := h) (by exact i.w) hl) ?_
          refine gd_if_eq_f 18 dX9_told_5 (by decide) (by decide) ?_
          refine gd_ild2 dX9_told_8 ?_
          refine gd_ic0 dX9_told_9 ?_
          refine gd_bipush (v := nI 8) dX9_told_10 (by decide) ?_
          refine gd_cS3i dX9_told_12 ct_9_79 ⟨Nat.le_of_ble_eq_true rfl, Nat.le_of_ble_eq_true rfl⟩ (Nat.le_of_ble_eq_true rfl) (Nat.le_of_ble_eq_true rfl) (m_in_t (m := 8) (by decide) (by decide) _) ?_
          refine gd_if_ne_t 24 dX9_told_15 (by decide) (by decide) ?_
          refine gd_ild2 dX9_told_24 ?_
          refine gd_bipush (v := nI 7) dX9_told_25 (by decide) ?_
          refine gd_icmp_ne_t 39 dX9_told_27 (by decide) (by decide) ?_
          refine gd_ild2 dX9_told_39 ?_
          refine gd_bipush (v := nI 8) dX9_told_40 (by decide) ?_
          refine gd_icmp_ne_t 60 dX9_told_42 (by decide) (by decide) ?_
          refine gd_ald0 dX9_told_60 (by decide) ?_
          refine gd_ild1 dX9_told_61 ?_
          refine gd_ild2 dX9_told_62 ?_
          refine gd_cV2i dX9_told_63 ct_9_120 rc_72 ⟨Nat.le_of_ble_eq_true rfl, Nat.le_of_ble_eq_true rfl⟩ (Nat.le_of_ble_eq_true rfl) (Nat.le_of_ble_eq_true rfl) (m_its (l := l) (w := 2) (by omega) (by decide) _) ?_
          refine gd_iret dX9_told_66 rfl rfl ?_
          rw [ms_r4 (by omega)]
      · refine Pas.read (r := .int (ms h 4 (9 * l + 3))) (r2 := .int (ms h 4 (9 * l + 3))) (h1 := h) (h2 := h) i rfl (Same.rf _) (Same.rf _) ?_ ?_
        · refine gd_ald0 dX8_told_0 (by decide) ?_
          refine gd_ild1 dX8_told_1 ?_
          refine gd_cV1i dX8_told_2 ct_8_142 rc_0 ⟨Nat.le_of_ble_eq_true rfl, Nat.le_of_ble_eq_true rfl⟩ (Nat.le_of_ble_eq_true rfl) (Nat.le_of_ble_eq_true rfl) (c_isLetter_t i.w i.c hl) ?_
          refine gd_if_eq_f 17 dX8_told_5 (by decide) (by decide) ?_
          refine gd_ild2 dX8_told_8 ?_
          refine gd_bipush (v := nI 9) dX8_told_9 (by decide) ?_
          refine gd_cS2i dX8_told_11 ct_8_48 ⟨Nat.le_of_ble_eq_true rfl, Nat.le_of_ble_eq_true rfl⟩ (Nat.le_of_ble_eq_true rfl) (Nat.le_of_ble_eq_true rfl) (c_isBelow_t (by decide) (by decide) _) ?_
          refine gd_if_ne_t 24 dX8_told_14 (by decide) (by decide) ?_
          refine gd_ild2 dX8_told_24 ?_
          refine gd_bipush (v := nI 7) dX8_told_25 (by decide) ?_
          refine gd_icmp_ne_t 52 dX8_told_27 (by decide) (by decide) ?_
          refine gd_ild2 dX8_told_52 ?_
          refine gd_bipush (v := nI 8) dX8_told_53 (by decide) ?_
          refine gd_icmp_ne_t 80 dX8_told_55 (by decide) (by decide) ?_
          refine gd_ald0 dX8_told_80 (by decide) ?_
          refine gd_getR (r := 1) dX8_told_81 fl_8_12 rfl rfl rfl (by decide) ?_
          refine gd_getR (r := 6) dX8_told_84 fl_8_100 rfl rfl rfl (by decide) ?_
          refine gd_ild1 dX8_told_87 ?_
          refine gd_ild2 dX8_told_88 ?_
          refine gd_cV2i dX8_told_89 ct_8_149 rc_6 ⟨Nat.le_of_ble_eq_true rfl, Nat.le_of_ble_eq_true rfl⟩ (Nat.le_of_ble_eq_true rfl) (Nat.le_of_ble_eq_true rfl) (c_fieldOf3 i.w i.c hl) ?_
          refine gd_iret dX8_told_92 rfl rfl ?_
          rfl
        · refine gd_ald0 dX9_told_0 (by decide) ?_
          refine gd_ild1 dX9_told_1 ?_
          refine gd_cV1i dX9_told_2 ct_9_113 rc_72 ⟨Nat.le_of_ble_eq_true rfl, Nat.le_of_ble_eq_true rfl⟩ (Nat.le_of_ble_eq_true rfl) (Nat.le_of_ble_eq_true rfl) (m_isLetter_t (h := h) (by exact i.w) hl) ?_
          refine gd_if_eq_f 18 dX9_told_5 (by decide) (by decide) ?_
          refine gd_ild2 dX9_told_8 ?_
          refine gd_ic0 dX9_told_9 ?_
          refine gd_bipush (v := nI 8) dX9_told_10 (by decide) ?_
          refine gd_cS3i dX9_told_12 ct_9_79 ⟨Nat.le_of_ble_eq_true rfl, Nat.le_of_ble_eq_true rfl⟩ (Nat.le_of_ble_eq_true rfl) (Nat.le_of_ble_eq_true rfl) (m_in_t (m := 8) (by decide) (by decide) _) ?_
          refine gd_if_ne_t 24 dX9_told_15 (by decide) (by decide) ?_
          refine gd_ild2 dX9_told_24 ?_
          refine gd_bipush (v := nI 7) dX9_told_25 (by decide) ?_
          refine gd_icmp_ne_t 39 dX9_told_27 (by decide) (by decide) ?_
          refine gd_ild2 dX9_told_39 ?_
          refine gd_bipush (v := nI 8) dX9_told_40 (by decide) ?_
          refine gd_icmp_ne_t 60 dX9_told_42 (by decide) (by decide) ?_
          refine gd_ald0 dX9_told_60 (by decide) ?_
          refine gd_ild1 dX9_told_61 ?_
          refine gd_ild2 dX9_told_62 ?_
          refine gd_cV2i dX9_told_63 ct_9_120 rc_72 ⟨Nat.le_of_ble_eq_true rfl, Nat.le_of_ble_eq_true rfl⟩ (Nat.le_of_ble_eq_true rfl) (Nat.le_of_ble_eq_true rfl) (m_its (l := l) (w := 3) (by omega) (by decide) _) ?_
          refine gd_iret dX9_told_66 rfl rfl ?_
          rw [ms_r4 (by omega)]
      · refine Pas.read (r := .int (ms h 4 (9 * l + 4))) (r2 := .int (ms h 4 (9 * l + 4))) (h1 := h) (h2 := h) i rfl (Same.rf _) (Same.rf _) ?_ ?_
        · refine gd_ald0 dX8_told_0 (by decide) ?_
          refine gd_ild1 dX8_told_1 ?_
          refine gd_cV1i dX8_told_2 ct_8_142 rc_0 ⟨Nat.le_of_ble_eq_true rfl, Nat.le_of_ble_eq_true rfl⟩ (Nat.le_of_ble_eq_true rfl) (Nat.le_of_ble_eq_true rfl) (c_isLetter_t i.w i.c hl) ?_
          refine gd_if_eq_f 17 dX8_told_5 (by decide) (by decide) ?_
          refine gd_ild2 dX8_told_8 ?_
          refine gd_bipush (v := nI 9) dX8_told_9 (by decide) ?_
          refine gd_cS2i dX8_told_11 ct_8_48 ⟨Nat.le_of_ble_eq_true rfl, Nat.le_of_ble_eq_true rfl⟩ (Nat.le_of_ble_eq_true rfl) (Nat.le_of_ble_eq_true rfl) (c_isBelow_t (by decide) (by decide) _) ?_
          refine gd_if_ne_t 24 dX8_told_14 (by decide) (by decide) ?_
          refine gd_ild2 dX8_told_24 ?_
          refine gd_bipush (v := nI 7) dX8_told_25 (by decide) ?_
          refine gd_icmp_ne_t 52 dX8_told_27 (by decide) (by decide) ?_
          refine gd_ild2 dX8_told_52 ?_
          refine gd_bipush (v := nI 8) dX8_told_53 (by decide) ?_
          refine gd_icmp_ne_t 80 dX8_told_55 (by decide) (by decide) ?_
          refine gd_ald0 dX8_told_80 (by decide) ?_
          refine gd_getR (r := 1) dX8_told_81 fl_8_12 rfl rfl rfl (by decide) ?_
          refine gd_getR (r := 6) dX8_told_84 fl_8_100 rfl rfl rfl (by decide) ?_
          refine gd_ild1 dX8_told_87 ?_
          refine gd_ild2 dX8_told_88 ?_
          refine gd_cV2i dX8_told_89 ct_8_149 rc_6 ⟨Nat.le_of_ble_eq_true rfl, Nat.le_of_ble_eq_true rfl⟩ (Nat.le_of_ble_eq_true rfl) (Nat.le_of_ble_eq_true rfl) (c_fieldOf4 i.w i.c hl) ?_
          refine gd_iret dX8_told_92 rfl rfl ?_
          rfl
        · refine gd_ald0 dX9_told_0 (by decide) ?_
          refine gd_ild1 dX9_told_1 ?_
          refine gd_cV1i dX9_told_2 ct_9_113 rc_72 ⟨Nat.le_of_ble_eq_true rfl, Nat.le_of_ble_eq_true rfl⟩ (Nat.le_of_ble_eq_true rfl) (Nat.le_of_ble_eq_true rfl) (m_isLetter_t (h := h) (by exact i.w) hl) ?_
          refine gd_if_eq_f 18 dX9_told_5 (by decide) (by decide) ?_
          refine gd_ild2 dX9_told_8 ?_
          refine gd_ic0 dX9_told_9 ?_
          refine gd_bipush (v := nI 8) dX9_told_10 (by decide) ?_
          refine gd_cS3i dX9_told_12 ct_9_79 ⟨Nat.le_of_ble_eq_true rfl, Nat.le_of_ble_eq_true rfl⟩ (Nat.le_of_ble_eq_true rfl) (Nat.le_of_ble_eq_true rfl) (m_in_t (m := 8) (by decide) (by decide) _) ?_
          refine gd_if_ne_t 24 dX9_told_15 (by decide) (by decide) ?_
          refine gd_ild2 dX9_told_24 ?_
          refine gd_bipush (v := nI 7) dX9_told_25 (by decide) ?_
          refine gd_icmp_ne_t 39 dX9_told_27 (by decide) (by decide) ?_
          refine gd_ild2 dX9_told_39 ?_
          refine gd_bipush (v := nI 8) dX9_told_40 (by decide) ?_
          refine gd_icmp_ne_t 60 dX9_told_42 (by decide) (by decide) ?_
          refine gd_ald0 dX9_told_60 (by decide) ?_
          refine gd_ild1 dX9_told_61 ?_
          refine gd_ild2 dX9_told_62 ?_
          refine gd_cV2i dX9_told_63 ct_9_120 rc_72 ⟨Nat.le_of_ble_eq_true rfl, Nat.le_of_ble_eq_true rfl⟩ (Nat.le_of_ble_eq_true rfl) (Nat.le_of_ble_eq_true rfl) (m_its (l := l) (w := 4) (by omega) (by decide) _) ?_
          refine gd_iret dX9_told_66 rfl rfl ?_
          rw [ms_r4 (by omega)]
      · refine Pas.read (r := .int (ms h 4 (9 * l + 5))) (r2 := .int (ms h 4 (9 * l + 5))) (h1 := h) (h2 := h) i rfl (Same.rf _) (Same.rf _) ?_ ?_
        · refine gd_ald0 dX8_told_0 (by decide) ?_
          refine gd_ild1 dX8_told_1 ?_
          refine gd_cV1i dX8_told_2 ct_8_142 rc_0 ⟨Nat.le_of_ble_eq_true rfl, Nat.le_of_ble_eq_true rfl⟩ (Nat.le_of_ble_eq_true rfl) (Nat.le_of_ble_eq_true rfl) (c_isLetter_t i.w i.c hl) ?_
          refine gd_if_eq_f 17 dX8_told_5 (by decide) (by decide) ?_
          refine gd_ild2 dX8_told_8 ?_
          refine gd_bipush (v := nI 9) dX8_told_9 (by decide) ?_
          refine gd_cS2i dX8_told_11 ct_8_48 ⟨Nat.le_of_ble_eq_true rfl, Nat.le_of_ble_eq_true rfl⟩ (Nat.le_of_ble_eq_true rfl) (Nat.le_of_ble_eq_true rfl) (c_isBelow_t (by decide) (by decide) _) ?_
          refine gd_if_ne_t 24 dX8_told_14 (by decide) (by decide) ?_
          refine gd_ild2 dX8_told_24 ?_
          refine gd_bipush (v := nI 7) dX8_told_25 (by decide) ?_
          refine gd_icmp_ne_t 52 dX8_told_27 (by decide) (by decide) ?_
          refine gd_ild2 dX8_told_52 ?_
          refine gd_bipush (v := nI 8) dX8_told_53 (by decide) ?_
          refine gd_icmp_ne_t 80 dX8_told_55 (by decide) (by decide) ?_
          refine gd_ald0 dX8_told_80 (by decide) ?_
          refine gd_getR (r := 1) dX8_told_81 fl_8_12 rfl rfl rfl (by decide) ?_
          refine gd_getR (r := 6) dX8_told_84 fl_8_100 rfl rfl rfl (by decide) ?_
          refine gd_ild1 dX8_told_87 ?_
          refine gd_ild2 dX8_told_88 ?_
          refine gd_cV2i dX8_told_89 ct_8_149 rc_6 ⟨Nat.le_of_ble_eq_true rfl, Nat.le_of_ble_eq_true rfl⟩ (Nat.le_of_ble_eq_true rfl) (Nat.le_of_ble_eq_true rfl) (c_fieldOf5 i.w i.c hl) ?_
          refine gd_iret dX8_told_92 rfl rfl ?_
          rfl
        · refine gd_ald0 dX9_told_0 (by decide) ?_
          refine gd_ild1 dX9_told_1 ?_
          refine gd_cV1i dX9_told_2 ct_9_113 rc_72 ⟨Nat.le_of_ble_eq_true rfl, Nat.le_of_ble_eq_true rfl⟩ (Nat.le_of_ble_eq_true rfl) (Nat.le_of_ble_eq_true rfl) (m_isLetter_t (h := h) (by exact i.w) hl) ?_
          refine gd_if_eq_f 18 dX9_told_5 (by decide) (by decide) ?_
          refine gd_ild2 dX9_told_8 ?_
          refine gd_ic0 dX9_told_9 ?_
          refine gd_bipush (v := nI 8) dX9_told_10 (by decide) ?_
          refine gd_cS3i dX9_told_12 ct_9_79 ⟨Nat.le_of_ble_eq_true rfl, Nat.le_of_ble_eq_true rfl⟩ (Nat.le_of_ble_eq_true rfl) (Nat.le_of_ble_eq_true rfl) (m_in_t (m := 8) (by decide) (by decide) _) ?_
          refine gd_if_ne_t 24 dX9_told_15 (by decide) (by decide) ?_
          refine gd_ild2 dX9_told_24 ?_
          refine gd_bipush (v := nI 7) dX9_told_25 (by decide) ?_
          refine gd_icmp_ne_t 39 dX9_told_27 (by decide) (by decide) ?_
          refine gd_ild2 dX9_told_39 ?_
          refine gd_bipush (v := nI 8) dX9_told_40 (by decide) ?_
          refine gd_icmp_ne_t 60 dX9_told_42 (by decide) (by decide) ?_
          refine gd_ald0 dX9_told_60 (by decide) ?_
          refine gd_ild1 dX9_told_61 ?_
          refine gd_ild2 dX9_told_62 ?_
          refine gd_cV2i dX9_told_63 ct_9_120 rc_72 ⟨Nat.le_of_ble_eq_true rfl, Nat.le_of_ble_eq_true rfl⟩ (Nat.le_of_ble_eq_true rfl) (Nat.le_of_ble_eq_true rfl) (m_its (l := l) (w := 5) (by omega) (by decide) _) ?_
          refine gd_iret dX9_told_66 rfl rfl ?_
          rw [ms_r4 (by omega)]
      · refine Pas.read (r := .int (ms h 4 (9 * l + 6))) (r2 := .int (ms h 4 (9 * l + 6))) (h1 := h) (h2 := h) i rfl (Same.rf _) (Same.rf _) ?_ ?_
        · refine gd_ald0 dX8_told_0 (by decide) ?_
          refine gd_ild1 dX8_told_1 ?_
          refine gd_cV1i dX8_told_2 ct_8_142 rc_0 ⟨Nat.le_of_ble_eq_true rfl, Nat.le_of_ble_eq_true rfl⟩ (Nat.le_of_ble_eq_true rfl) (Nat.le_of_ble_eq_true rfl) (c_isLetter_t i.w i.c hl) ?_
          refine gd_if_eq_f 17 dX8_told_5 (by decide) (by decide) ?_
          refine gd_ild2 dX8_told_8 ?_
          refine gd_bipush (v := nI 9) dX8_told_9 (by decide) ?_
          refine gd_cS2i dX8_told_11 ct_8_48 ⟨Nat.le_of_ble_eq_true rfl, Nat.le_of_ble_eq_true rfl⟩ (Nat.le_of_ble_eq_true rfl) (Nat.le_of_ble_eq_true rfl) (c_isBelow_t (by decide) (by decide) _) ?_
          refine gd_if_ne_t 24 dX8_told_14 (by decide) (by decide) ?_
          refine gd_ild2 dX8_told_24 ?_
          refine gd_bipush (v := nI 7) dX8_told_25 (by decide) ?_
          refine gd_icmp_ne_t 52 dX8_told_27 (by decide) (by decide) ?_
          refine gd_ild2 dX8_told_52 ?_
          refine gd_bipush (v := nI 8) dX8_told_53 (by decide) ?_
          refine gd_icmp_ne_t 80 dX8_told_55 (by decide) (by decide) ?_
          refine gd_ald0 dX8_told_80 (by decide) ?_
          refine gd_getR (r := 1) dX8_told_81 fl_8_12 rfl rfl rfl (by decide) ?_
          refine gd_getR (r := 6) dX8_told_84 fl_8_100 rfl rfl rfl (by decide) ?_
          refine gd_ild1 dX8_told_87 ?_
          refine gd_ild2 dX8_told_88 ?_
          refine gd_cV2i dX8_told_89 ct_8_149 rc_6 ⟨Nat.le_of_ble_eq_true rfl, Nat.le_of_ble_eq_true rfl⟩ (Nat.le_of_ble_eq_true rfl) (Nat.le_of_ble_eq_true rfl) (c_fieldOf6 i.w i.c hl) ?_
          refine gd_iret dX8_told_92 rfl rfl ?_
          rfl
        · refine gd_ald0 dX9_told_0 (by decide) ?_
          refine gd_ild1 dX9_told_1 ?_
          refine gd_cV1i dX9_told_2 ct_9_113 rc_72 ⟨Nat.le_of_ble_eq_true rfl, Nat.le_of_ble_eq_true rfl⟩ (Nat.le_of_ble_eq_true rfl) (Nat.le_of_ble_eq_true rfl) (m_isLetter_t (h := h) (by exact i.w) hl) ?_
          refine gd_if_eq_f 18 dX9_told_5 (by decide) (by decide) ?_
          refine gd_ild2 dX9_told_8 ?_
          refine gd_ic0 dX9_told_9 ?_
          refine gd_bipush (v := nI 8) dX9_told_10 (by decide) ?_
          refine gd_cS3i dX9_told_12 ct_9_79 ⟨Nat.le_of_ble_eq_true rfl, Nat.le_of_ble_eq_true rfl⟩ (Nat.le_of_ble_eq_true rfl) (Nat.le_of_ble_eq_true rfl) (m_in_t (m := 8) (by decide) (by decide) _) ?_
          refine gd_if_ne_t 24 dX9_told_15 (by decide) (by decide) ?_
          refine gd_ild2 dX9_told_24 ?_
          refine gd_bipush (v := nI 7) dX9_told_25 (by decide) ?_
          refine gd_icmp_ne_t 39 dX9_told_27 (by decide) (by decide) ?_
          refine gd_ild2 dX9_told_39 ?_
          refine gd_bipush (v := nI 8) dX9_told_40 (by decide) ?_
          refine gd_icmp_ne_t 60 dX9_told_42 (by decide) (by decide) ?_
          refine gd_ald0 dX9_told_60 (by decide) ?_
          refine gd_ild1 dX9_told_61 ?_
          refine gd_ild2 dX9_told_62 ?_
          refine gd_cV2i dX9_told_63 ct_9_120 rc_72 ⟨Nat.le_of_ble_eq_true rfl, Nat.le_of_ble_eq_true rfl⟩ (Nat.le_of_ble_eq_true rfl) (Nat.le_of_ble_eq_true rfl) (m_its (l := l) (w := 6) (by omega) (by decide) _) ?_
          refine gd_iret dX9_told_66 rfl rfl ?_
          rw [ms_r4 (by omega)]
      · obtain ⟨k, _, _, _, _, _, _, _, hk, _, _, _, _, _, _, _, k5, _⟩ := i.w.l l hl
        by_cases hkk : isK k 2
        · refine Pas.read (r := .int (ms h 4 (9 * l + 7))) (r2 := .int (ms h 4 (9 * l + 7))) (h1 := h) (h2 := h) i rfl (Same.rf _) (Same.rf _) ?_ ?_
          · refine gd_ald0 dX8_told_0 (by decide) ?_
            refine gd_ild1 dX8_told_1 ?_
            refine gd_cV1i dX8_told_2 ct_8_142 rc_0 ⟨Nat.le_of_ble_eq_true rfl, Nat.le_of_ble_eq_true rfl⟩ (Nat.le_of_ble_eq_true rfl) (Nat.le_of_ble_eq_true rfl) (c_isLetter_t i.w i.c hl) ?_
            refine gd_if_eq_f 17 dX8_told_5 (by decide) (by decide) ?_
            refine gd_ild2 dX8_told_8 ?_
            refine gd_bipush (v := nI 9) dX8_told_9 (by decide) ?_
            refine gd_cS2i dX8_told_11 ct_8_48 ⟨Nat.le_of_ble_eq_true rfl, Nat.le_of_ble_eq_true rfl⟩ (Nat.le_of_ble_eq_true rfl) (Nat.le_of_ble_eq_true rfl) (c_isBelow_t (by decide) (by decide) _) ?_
            refine gd_if_ne_t 24 dX8_told_14 (by decide) (by decide) ?_
            refine gd_ild2 dX8_told_24 ?_
            refine gd_bipush (v := nI 7) dX8_told_25 (by decide) ?_
            refine gd_icmp_ne_f 52 dX8_told_27 (by decide) (by decide) ?_
            refine gd_ald0 dX8_told_30 (by decide) ?_
            refine gd_getR (r := 1) dX8_told_31 fl_8_12 rfl rfl rfl (by decide) ?_
            refine gd_getR (r := 6) dX8_told_34 fl_8_100 rfl rfl rfl (by decide) ?_
            refine gd_ild1 dX8_told_37 ?_
            refine gd_ic2 dX8_told_38 ?_
            refine gd_cV2i dX8_told_39 ct_8_145 rc_6 ⟨Nat.le_of_ble_eq_true rfl, Nat.le_of_ble_eq_true rfl⟩ (Nat.le_of_ble_eq_true rfl) (Nat.le_of_ble_eq_true rfl) (c_isOfKind (by omega) (by rw [i.c.lk1 l hl]; exact hk) (by omega) (by decide)) ?_
            rw [bi_dt hkk]
            refine gd_if_ne_t 52 dX8_told_42 (by decide) (by decide) ?_
            refine gd_ild2 dX8_told_52 ?_
            refine gd_bipush (v := nI 8) dX8_told_53 (by decide) ?_
            refine gd_icmp_ne_t 80 dX8_told_55 (by decide) (by decide) ?_
            refine gd_ald0 dX8_told_80 (by decide) ?_
            refine gd_getR (r := 1) dX8_told_81 fl_8_12 rfl rfl rfl (by decide) ?_
            refine gd_getR (r := 6) dX8_told_84 fl_8_100 rfl rfl rfl (by decide) ?_
            refine gd_ild1 dX8_told_87 ?_
            refine gd_ild2 dX8_told_88 ?_
            refine gd_cV2i dX8_told_89 ct_8_149 rc_6 ⟨Nat.le_of_ble_eq_true rfl, Nat.le_of_ble_eq_true rfl⟩ (Nat.le_of_ble_eq_true rfl) (Nat.le_of_ble_eq_true rfl) (c_fieldOf7 i.w i.c hl) ?_
            refine gd_iret dX8_told_92 rfl rfl ?_
            rfl
          · refine gd_ald0 dX9_told_0 (by decide) ?_
            refine gd_ild1 dX9_told_1 ?_
            refine gd_cV1i dX9_told_2 ct_9_113 rc_72 ⟨Nat.le_of_ble_eq_true rfl, Nat.le_of_ble_eq_true rfl⟩ (Nat.le_of_ble_eq_true rfl) (Nat.le_of_ble_eq_true rfl) (m_isLetter_t (h := h) (by exact i.w) hl) ?_
            refine gd_if_eq_f 18 dX9_told_5 (by decide) (by decide) ?_
            refine gd_ild2 dX9_told_8 ?_
            refine gd_ic0 dX9_told_9 ?_
            refine gd_bipush (v := nI 8) dX9_told_10 (by decide) ?_
            refine gd_cS3i dX9_told_12 ct_9_79 ⟨Nat.le_of_ble_eq_true rfl, Nat.le_of_ble_eq_true rfl⟩ (Nat.le_of_ble_eq_true rfl) (Nat.le_of_ble_eq_true rfl) (m_in_t (m := 8) (by decide) (by decide) _) ?_
            refine gd_if_ne_t 24 dX9_told_15 (by decide) (by decide) ?_
            refine gd_ild2 dX9_told_24 ?_
            refine gd_bipush (v := nI 7) dX9_told_25 (by decide) ?_
            refine gd_icmp_ne_f 39 dX9_told_27 (by decide) (by decide) ?_
            refine gd_ald0 dX9_told_30 (by decide) ?_
            refine gd_ild1 dX9_told_31 ?_
            refine gd_ic2 dX9_told_32 ?_
            refine gd_cV2i dX9_told_33 ct_9_124 rc_72 ⟨Nat.le_of_ble_eq_true rfl, Nat.le_of_ble_eq_true rfl⟩ (Nat.le_of_ble_eq_true rfl) (Nat.le_of_ble_eq_true rfl) (m_isOf (h := h) (by omega) (by show h.1 78 (9 * l) = _; rw [← ms_r4 (by omega)]; exact hk) (by omega) (by decide)) ?_
            rw [bi_dt hkk]
            refine gd_if_eq_f 54 dX9_told_36 (by decide) (by decide) ?_
            refine gd_ild2 dX9_told_39 ?_
            refine gd_bipush (v := nI 8) dX9_told_40 (by decide) ?_
            refine gd_icmp_ne_t 60 dX9_told_42 (by decide) (by decide) ?_
            refine gd_ald0 dX9_told_60 (by decide) ?_
            refine gd_ild1 dX9_told_61 ?_
            refine gd_ild2 dX9_told_62 ?_
            refine gd_cV2i dX9_told_63 ct_9_120 rc_72 ⟨Nat.le_of_ble_eq_true rfl, Nat.le_of_ble_eq_true rfl⟩ (Nat.le_of_ble_eq_true rfl) (Nat.le_of_ble_eq_true rfl) (m_its (l := l) (w := 7) (by omega) (by decide) _) ?_
            refine gd_iret dX9_told_66 rfl rfl ?_
            rw [ms_r4 (by omega)]
        · refine Pas.find (h1 := h) (h2 := hf (h) 2) (v := -1000000003) (w := (-1000000000 : Int32) - nI 3) 2 i (by decide) (by decide) (by decide) (Same.rf _) (Same.rf _) ?_ ?_
          · refine gd_ald0 dX8_told_0 (by decide) ?_
            refine gd_ild1 dX8_told_1 ?_
            refine gd_cV1i dX8_told_2 ct_8_142 rc_0 ⟨Nat.le_of_ble_eq_true rfl, Nat.le_of_ble_eq_true rfl⟩ (Nat.le_of_ble_eq_true rfl) (Nat.le_of_ble_eq_true rfl) (c_isLetter_t i.w i.c hl) ?_
            refine gd_if_eq_f 17 dX8_told_5 (by decide) (by decide) ?_
            refine gd_ild2 dX8_told_8 ?_
            refine gd_bipush (v := nI 9) dX8_told_9 (by decide) ?_
            refine gd_cS2i dX8_told_11 ct_8_48 ⟨Nat.le_of_ble_eq_true rfl, Nat.le_of_ble_eq_true rfl⟩ (Nat.le_of_ble_eq_true rfl) (Nat.le_of_ble_eq_true rfl) (c_isBelow_t (by decide) (by decide) _) ?_
            refine gd_if_ne_t 24 dX8_told_14 (by decide) (by decide) ?_
            refine gd_ild2 dX8_told_24 ?_
            refine gd_bipush (v := nI 7) dX8_told_25 (by decide) ?_
            refine gd_icmp_ne_f 52 dX8_told_27 (by decide) (by decide) ?_
            refine gd_ald0 dX8_told_30 (by decide) ?_
            refine gd_getR (r := 1) dX8_told_31 fl_8_12 rfl rfl rfl (by decide) ?_
            refine gd_getR (r := 6) dX8_told_34 fl_8_100 rfl rfl rfl (by decide) ?_
            refine gd_ild1 dX8_told_37 ?_
            refine gd_ic2 dX8_told_38 ?_
            refine gd_cV2i dX8_told_39 ct_8_145 rc_6 ⟨Nat.le_of_ble_eq_true rfl, Nat.le_of_ble_eq_true rfl⟩ (Nat.le_of_ble_eq_true rfl) (Nat.le_of_ble_eq_true rfl) (c_isOfKind (by omega) (by rw [i.c.lk1 l hl]; exact hk) (by omega) (by decide)) ?_
            rw [bi_df hkk]
            refine gd_if_ne_f 52 dX8_told_42 (by decide) (by decide) ?_
            refine gd_ald0 dX8_told_45 (by decide) ?_
            refine gd_ldc dX8_told_46 ld_8_148 ?_
            refine gd_cV1i dX8_told_48 ct_8_53 rc_0 ⟨Nat.le_of_ble_eq_true rfl, Nat.le_of_ble_eq_true rfl⟩ (Nat.le_of_ble_eq_true rfl) (Nat.le_of_ble_eq_true rfl) (c_f2 _) ?_
            refine gd_iret dX8_told_51 rfl rfl ?_
            rfl
          · refine gd_ald0 dX9_told_0 (by decide) ?_
            refine gd_ild1 dX9_told_1 ?_
            refine gd_cV1i dX9_told_2 ct_9_113 rc_72 ⟨Nat.le_of_ble_eq_true rfl, Nat.le_of_ble_eq_true rfl⟩ (Nat.le_of_ble_eq_true rfl) (Nat.le_of_ble_eq_true rfl) (m_isLetter_t (h := hf h 2) (by exact i.w) hl) ?_
            refine gd_if_eq_f 18 dX9_told_5 (by decide) (by decide) ?_
            refine gd_ild2 dX9_told_8 ?_
            refine gd_ic0 dX9_told_9 ?_
            refine gd_bipush (v := nI 8) dX9_told_10 (by decide) ?_
            refine gd_cS3i dX9_told_12 ct_9_79 ⟨Nat.le_of_ble_eq_true rfl, Nat.le_of_ble_eq_true rfl⟩ (Nat.le_of_ble_eq_true rfl) (Nat.le_of_ble_eq_true rfl) (m_in_t (m := 8) (by decide) (by decide) _) ?_
            refine gd_if_ne_t 24 dX9_told_15 (by decide) (by decide) ?_
            refine gd_ild2 dX9_told_24 ?_
            refine gd_bipush (v := nI 7) dX9_told_25 (by decide) ?_
            refine gd_icmp_ne_f 39 dX9_told_27 (by decide) (by decide) ?_
            refine gd_ald0 dX9_told_30 (by decide) ?_
            refine gd_ild1 dX9_told_31 ?_
            refine gd_ic2 dX9_told_32 ?_
            refine gd_cV2i dX9_told_33 ct_9_124 rc_72 ⟨Nat.le_of_ble_eq_true rfl, Nat.le_of_ble_eq_true rfl⟩ (Nat.le_of_ble_eq_true rfl) (Nat.le_of_ble_eq_true rfl) (m_isOf (h := hf h 2) (by omega) (by show h.1 78 (9 * l) = _; rw [← ms_r4 (by omega)]; exact hk) (by omega) (by decide)) ?_
            rw [bi_df hkk]
            refine gd_if_eq_t 54 dX9_told_36 (by decide) (by decide) ?_
            refine gd_ald0 dX9_told_54 (by decide) ?_
            refine gd_ic3 dX9_told_55 ?_
            refine gd_cV1i dX9_told_56 ct_9_97 rc_72 ⟨Nat.le_of_ble_eq_true rfl, Nat.le_of_ble_eq_true rfl⟩ (Nat.le_of_ble_eq_true rfl) (Nat.le_of_ble_eq_true rfl) (m_f2 _) ?_
            refine gd_iret dX9_told_59 rfl rfl ?_
            rfl
      · obtain ⟨k, _, _, _, _, _, _, _, hk, _, _, _, _, _, _, _, k5, _⟩ := i.w.l l hl
        by_cases hkk : isK k 4
        · refine Pas.read (r := .int (ms h 4 (9 * l + 8))) (r2 := .int (ms h 4 (9 * l + 8))) (h1 := h) (h2 := h) i rfl (Same.rf _) (Same.rf _) ?_ ?_
          · refine gd_ald0 dX8_told_0 (by decide) ?_
            refine gd_ild1 dX8_told_1 ?_
            refine gd_cV1i dX8_told_2 ct_8_142 rc_0 ⟨Nat.le_of_ble_eq_true rfl, Nat.le_of_ble_eq_true rfl⟩ (Nat.le_of_ble_eq_true rfl) (Nat.le_of_ble_eq_true rfl) (c_isLetter_t i.w i.c hl) ?_
            refine gd_if_eq_f 17 dX8_told_5 (by decide) (by decide) ?_
            refine gd_ild2 dX8_told_8 ?_
            refine gd_bipush (v := nI 9) dX8_told_9 (by decide) ?_
            refine gd_cS2i dX8_told_11 ct_8_48 ⟨Nat.le_of_ble_eq_true rfl, Nat.le_of_ble_eq_true rfl⟩ (Nat.le_of_ble_eq_true rfl) (Nat.le_of_ble_eq_true rfl) (c_isBelow_t (by decide) (by decide) _) ?_
            refine gd_if_ne_t 24 dX8_told_14 (by decide) (by decide) ?_
            refine gd_ild2 dX8_told_24 ?_
            refine gd_bipush (v := nI 7) dX8_told_25 (by decide) ?_
            refine gd_icmp_ne_t 52 dX8_told_27 (by decide) (by decide) ?_
            refine gd_ild2 dX8_told_52 ?_
            refine gd_bipush (v := nI 8) dX8_told_53 (by decide) ?_
            refine gd_icmp_ne_f 80 dX8_told_55 (by decide) (by decide) ?_
            refine gd_ald0 dX8_told_58 (by decide) ?_
            refine gd_getR (r := 1) dX8_told_59 fl_8_12 rfl rfl rfl (by decide) ?_
            refine gd_getR (r := 6) dX8_told_62 fl_8_100 rfl rfl rfl (by decide) ?_
            refine gd_ild1 dX8_told_65 ?_
            refine gd_ic4 dX8_told_66 ?_
            refine gd_cV2i dX8_told_67 ct_8_145 rc_6 ⟨Nat.le_of_ble_eq_true rfl, Nat.le_of_ble_eq_true rfl⟩ (Nat.le_of_ble_eq_true rfl) (Nat.le_of_ble_eq_true rfl) (c_isOfKind (by omega) (by rw [i.c.lk1 l hl]; exact hk) (by omega) (by decide)) ?_
            rw [bi_dt hkk]
            refine gd_if_ne_t 80 dX8_told_70 (by decide) (by decide) ?_
            refine gd_ald0 dX8_told_80 (by decide) ?_
            refine gd_getR (r := 1) dX8_told_81 fl_8_12 rfl rfl rfl (by decide) ?_
            refine gd_getR (r := 6) dX8_told_84 fl_8_100 rfl rfl rfl (by decide) ?_
            refine gd_ild1 dX8_told_87 ?_
            refine gd_ild2 dX8_told_88 ?_
            refine gd_cV2i dX8_told_89 ct_8_149 rc_6 ⟨Nat.le_of_ble_eq_true rfl, Nat.le_of_ble_eq_true rfl⟩ (Nat.le_of_ble_eq_true rfl) (Nat.le_of_ble_eq_true rfl) (c_fieldOf8 i.w i.c hl) ?_
            refine gd_iret dX8_told_92 rfl rfl ?_
            rfl
          · refine gd_ald0 dX9_told_0 (by decide) ?_
            refine gd_ild1 dX9_told_1 ?_
            refine gd_cV1i dX9_told_2 ct_9_113 rc_72 ⟨Nat.le_of_ble_eq_true rfl, Nat.le_of_ble_eq_true rfl⟩ (Nat.le_of_ble_eq_true rfl) (Nat.le_of_ble_eq_true rfl) (m_isLetter_t (h := h) (by exact i.w) hl) ?_
            refine gd_if_eq_f 18 dX9_told_5 (by decide) (by decide) ?_
            refine gd_ild2 dX9_told_8 ?_
            refine gd_ic0 dX9_told_9 ?_
            refine gd_bipush (v := nI 8) dX9_told_10 (by decide) ?_
            refine gd_cS3i dX9_told_12 ct_9_79 ⟨Nat.le_of_ble_eq_true rfl, Nat.le_of_ble_eq_true rfl⟩ (Nat.le_of_ble_eq_true rfl) (Nat.le_of_ble_eq_true rfl) (m_in_t (m := 8) (by decide) (by decide) _) ?_
            refine gd_if_ne_t 24 dX9_told_15 (by decide) (by decide) ?_
            refine gd_ild2 dX9_told_24 ?_
            refine gd_bipush (v := nI 7) dX9_told_25 (by decide) ?_
            refine gd_icmp_ne_t 39 dX9_told_27 (by decide) (by decide) ?_
            refine gd_ild2 dX9_told_39 ?_
            refine gd_bipush (v := nI 8) dX9_told_40 (by decide) ?_
            refine gd_icmp_ne_f 60 dX9_told_42 (by decide) (by decide) ?_
            refine gd_ald0 dX9_told_45 (by decide) ?_
            refine gd_ild1 dX9_told_46 ?_
            refine gd_ic4 dX9_told_47 ?_
            refine gd_cV2i dX9_told_48 ct_9_124 rc_72 ⟨Nat.le_of_ble_eq_true rfl, Nat.le_of_ble_eq_true rfl⟩ (Nat.le_of_ble_eq_true rfl) (Nat.le_of_ble_eq_true rfl) (m_isOf (h := h) (by omega) (by show h.1 78 (9 * l) = _; rw [← ms_r4 (by omega)]; exact hk) (by omega) (by decide)) ?_
            rw [bi_dt hkk]
            refine gd_if_ne_t 60 dX9_told_51 (by decide) (by decide) ?_
            refine gd_ald0 dX9_told_60 (by decide) ?_
            refine gd_ild1 dX9_told_61 ?_
            refine gd_ild2 dX9_told_62 ?_
            refine gd_cV2i dX9_told_63 ct_9_120 rc_72 ⟨Nat.le_of_ble_eq_true rfl, Nat.le_of_ble_eq_true rfl⟩ (Nat.le_of_ble_eq_true rfl) (Nat.le_of_ble_eq_true rfl) (m_its (l := l) (w := 8) (by omega) (by decide) _) ?_
            refine gd_iret dX9_told_66 rfl rfl ?_
            rw [ms_r4 (by omega)]
        · refine Pas.find (h1 := h) (h2 := hf (h) 2) (v := -1000000003) (w := (-1000000000 : Int32) - nI 3) 2 i (by decide) (by decide) (by decide) (Same.rf _) (Same.rf _) ?_ ?_
          · refine gd_ald0 dX8_told_0 (by decide) ?_
            refine gd_ild1 dX8_told_1 ?_
            refine gd_cV1i dX8_told_2 ct_8_142 rc_0 ⟨Nat.le_of_ble_eq_true rfl, Nat.le_of_ble_eq_true rfl⟩ (Nat.le_of_ble_eq_true rfl) (Nat.le_of_ble_eq_true rfl) (c_isLetter_t i.w i.c hl) ?_
            refine gd_if_eq_f 17 dX8_told_5 (by decide) (by decide) ?_
            refine gd_ild2 dX8_told_8 ?_
            refine gd_bipush (v := nI 9) dX8_told_9 (by decide) ?_
            refine gd_cS2i dX8_told_11 ct_8_48 ⟨Nat.le_of_ble_eq_true rfl, Nat.le_of_ble_eq_true rfl⟩ (Nat.le_of_ble_eq_true rfl) (Nat.le_of_ble_eq_true rfl) (c_isBelow_t (by decide) (by decide) _) ?_
            refine gd_if_ne_t 24 dX8_told_14 (by decide) (by decide) ?_
            refine gd_ild2 dX8_told_24 ?_
            refine gd_bipush (v := nI 7) dX8_told_25 (by decide) ?_
            refine gd_icmp_ne_t 52 dX8_told_27 (by decide) (by decide) ?_
            refine gd_ild2 dX8_told_52 ?_
            refine gd_bipush (v := nI 8) dX8_told_53 (by decide) ?_
            refine gd_icmp_ne_f 80 dX8_told_55 (by decide) (by decide) ?_
            refine gd_ald0 dX8_told_58 (by decide) ?_
            refine gd_getR (r := 1) dX8_told_59 fl_8_12 rfl rfl rfl (by decide) ?_
            refine gd_getR (r := 6) dX8_told_62 fl_8_100 rfl rfl rfl (by decide) ?_
            refine gd_ild1 dX8_told_65 ?_
            refine gd_ic4 dX8_told_66 ?_
            refine gd_cV2i dX8_told_67 ct_8_145 rc_6 ⟨Nat.le_of_ble_eq_true rfl, Nat.le_of_ble_eq_true rfl⟩ (Nat.le_of_ble_eq_true rfl) (Nat.le_of_ble_eq_true rfl) (c_isOfKind (by omega) (by rw [i.c.lk1 l hl]; exact hk) (by omega) (by decide)) ?_
            rw [bi_df hkk]
            refine gd_if_ne_f 80 dX8_told_70 (by decide) (by decide) ?_
            refine gd_ald0 dX8_told_73 (by decide) ?_
            refine gd_ldc dX8_told_74 ld_8_148 ?_
            refine gd_cV1i dX8_told_76 ct_8_53 rc_0 ⟨Nat.le_of_ble_eq_true rfl, Nat.le_of_ble_eq_true rfl⟩ (Nat.le_of_ble_eq_true rfl) (Nat.le_of_ble_eq_true rfl) (c_f2 _) ?_
            refine gd_iret dX8_told_79 rfl rfl ?_
            rfl
          · refine gd_ald0 dX9_told_0 (by decide) ?_
            refine gd_ild1 dX9_told_1 ?_
            refine gd_cV1i dX9_told_2 ct_9_113 rc_72 ⟨Nat.le_of_ble_eq_true rfl, Nat.le_of_ble_eq_true rfl⟩ (Nat.le_of_ble_eq_true rfl) (Nat.le_of_ble_eq_true rfl) (m_isLetter_t (h := hf h 2) (by exact i.w) hl) ?_
            refine gd_if_eq_f 18 dX9_told_5 (by decide) (by decide) ?_
            refine gd_ild2 dX9_told_8 ?_
            refine gd_ic0 dX9_told_9 ?_
            refine gd_bipush (v := nI 8) dX9_told_10 (by decide) ?_
            refine gd_cS3i dX9_told_12 ct_9_79 ⟨Nat.le_of_ble_eq_true rfl, Nat.le_of_ble_eq_true rfl⟩ (Nat.le_of_ble_eq_true rfl) (Nat.le_of_ble_eq_true rfl) (m_in_t (m := 8) (by decide) (by decide) _) ?_
            refine gd_if_ne_t 24 dX9_told_15 (by decide) (by decide) ?_
            refine gd_ild2 dX9_told_24 ?_
            refine gd_bipush (v := nI 7) dX9_told_25 (by decide) ?_
            refine gd_icmp_ne_t 39 dX9_told_27 (by decide) (by decide) ?_
            refine gd_ild2 dX9_told_39 ?_
            refine gd_bipush (v := nI 8) dX9_told_40 (by decide) ?_
            refine gd_icmp_ne_f 60 dX9_told_42 (by decide) (by decide) ?_
            refine gd_ald0 dX9_told_45 (by decide) ?_
            refine gd_ild1 dX9_told_46 ?_
            refine gd_ic4 dX9_told_47 ?_
            refine gd_cV2i dX9_told_48 ct_9_124 rc_72 ⟨Nat.le_of_ble_eq_true rfl, Nat.le_of_ble_eq_true rfl⟩ (Nat.le_of_ble_eq_true rfl) (Nat.le_of_ble_eq_true rfl) (m_isOf (h := hf h 2) (by omega) (by show h.1 78 (9 * l) = _; rw [← ms_r4 (by omega)]; exact hk) (by omega) (by decide)) ?_
            rw [bi_df hkk]
            refine gd_if_ne_f 60 dX9_told_51 (by decide) (by decide) ?_
            refine gd_ald0 dX9_told_54 (by decide) ?_
            refine gd_ic3 dX9_told_55 ?_
            refine gd_cV1i dX9_told_56 ct_9_97 rc_72 ⟨Nat.le_of_ble_eq_true rfl, Nat.le_of_ble_eq_true rfl⟩ (Nat.le_of_ble_eq_true rfl) (Nat.le_of_ble_eq_true rfl) (m_f2 _) ?_
            refine gd_iret dX9_told_59 rfl rfl ?_
            rfl
    · refine Pas.find (h1 := h) (h2 := hf (h) 0) (v := -1000000001) (w := (-1000000000 : Int32) - nI 1) 0 i (by decide) (by decide) (by decide) (Same.rf _) (Same.rf _) ?_ ?_
      · refine gd_ald0 dX8_told_0 (by decide) ?_
        refine gd_ild1 dX8_told_1 ?_
        refine gd_cV1i dX8_told_2 ct_8_142 rc_0 ⟨Nat.le_of_ble_eq_true rfl, Nat.le_of_ble_eq_true rfl⟩ (Nat.le_of_ble_eq_true rfl) (Nat.le_of_ble_eq_true rfl) (c_isLetter_t i.w i.c hl) ?_
        refine gd_if_eq_f 17 dX8_told_5 (by decide) (by decide) ?_
        refine gd_ild2 dX8_told_8 ?_
        refine gd_bipush (v := nI 9) dX8_told_9 (by decide) ?_
        refine gd_cS2i dX8_told_11 ct_8_48 ⟨Nat.le_of_ble_eq_true rfl, Nat.le_of_ble_eq_true rfl⟩ (Nat.le_of_ble_eq_true rfl) (Nat.le_of_ble_eq_true rfl) (c_isBelow_f hb _) ?_
        refine gd_if_ne_f 24 dX8_told_14 (by decide) (by decide) ?_
        refine gd_ald0 dX8_told_17 (by decide) ?_
        refine gd_ldc dX8_told_18 ld_8_52 ?_
        refine gd_cV1i dX8_told_20 ct_8_53 rc_0 ⟨Nat.le_of_ble_eq_true rfl, Nat.le_of_ble_eq_true rfl⟩ (Nat.le_of_ble_eq_true rfl) (Nat.le_of_ble_eq_true rfl) (c_f0 _) ?_
        refine gd_iret dX8_told_23 rfl rfl ?_
        rfl
      · refine gd_ald0 dX9_told_0 (by decide) ?_
        refine gd_ild1 dX9_told_1 ?_
        refine gd_cV1i dX9_told_2 ct_9_113 rc_72 ⟨Nat.le_of_ble_eq_true rfl, Nat.le_of_ble_eq_true rfl⟩ (Nat.le_of_ble_eq_true rfl) (Nat.le_of_ble_eq_true rfl) (m_isLetter_t (h := hf h 0) (by exact i.w) hl) ?_
        refine gd_if_eq_f 18 dX9_told_5 (by decide) (by decide) ?_
        refine gd_ild2 dX9_told_8 ?_
        refine gd_ic0 dX9_told_9 ?_
        refine gd_bipush (v := nI 8) dX9_told_10 (by decide) ?_
        refine gd_cS3i dX9_told_12 ct_9_79 ⟨Nat.le_of_ble_eq_true rfl, Nat.le_of_ble_eq_true rfl⟩ (Nat.le_of_ble_eq_true rfl) (Nat.le_of_ble_eq_true rfl) (m_in_f (n := 9) (by decide) (by decide) hb _) ?_
        refine gd_if_ne_f 24 dX9_told_15 (by decide) (by decide) ?_
        refine gd_ald0 dX9_told_18 (by decide) ?_
        refine gd_ic1 dX9_told_19 ?_
        refine gd_cV1i dX9_told_20 ct_9_97 rc_72 ⟨Nat.le_of_ble_eq_true rfl, Nat.le_of_ble_eq_true rfl⟩ (Nat.le_of_ble_eq_true rfl) (Nat.le_of_ble_eq_true rfl) (m_f0 _) ?_
        refine gd_iret dX9_told_23 rfl rfl ?_
        rfl
  · refine Pas.find (h1 := h) (h2 := hf (h) 0) (v := -1000000001) (w := (-1000000000 : Int32) - nI 1) 0 i (by decide) (by decide) (by decide) (Same.rf _) (Same.rf _) ?_ ?_
    · refine gd_ald0 dX8_told_0 (by decide) ?_
      refine gd_ild1 dX8_told_1 ?_
      refine gd_cV1i dX8_told_2 ct_8_142 rc_0 ⟨Nat.le_of_ble_eq_true rfl, Nat.le_of_ble_eq_true rfl⟩ (Nat.le_of_ble_eq_true rfl) (Nat.le_of_ble_eq_true rfl) (c_isLetter_f i.w i.c ha) ?_
      refine gd_if_eq_t 17 dX8_told_5 (by decide) (by decide) ?_
      refine gd_ald0 dX8_told_17 (by decide) ?_
      refine gd_ldc dX8_told_18 ld_8_52 ?_
      refine gd_cV1i dX8_told_20 ct_8_53 rc_0 ⟨Nat.le_of_ble_eq_true rfl, Nat.le_of_ble_eq_true rfl⟩ (Nat.le_of_ble_eq_true rfl) (Nat.le_of_ble_eq_true rfl) (c_f0 _) ?_
      refine gd_iret dX8_told_23 rfl rfl ?_
      rfl
    · refine gd_ald0 dX9_told_0 (by decide) ?_
      refine gd_ild1 dX9_told_1 ?_
      refine gd_cV1i dX9_told_2 ct_9_113 rc_72 ⟨Nat.le_of_ble_eq_true rfl, Nat.le_of_ble_eq_true rfl⟩ (Nat.le_of_ble_eq_true rfl) (Nat.le_of_ble_eq_true rfl) (m_isLetter_f (h := hf h 0) (by exact i.w) ha) ?_
      refine gd_if_eq_t 18 dX9_told_5 (by decide) (by decide) ?_
      refine gd_ald0 dX9_told_18 (by decide) ?_
      refine gd_ic1 dX9_told_19 ?_
      refine gd_cV1i dX9_told_20 ct_9_97 rc_72 ⟨Nat.le_of_ble_eq_true rfl, Nat.le_of_ble_eq_true rfl⟩ (Nat.le_of_ble_eq_true rfl) (Nat.le_of_ble_eq_true rfl) (m_f0 _) ?_
      refine gd_iret dX9_told_23 rfl rfl ?_
      rfl
