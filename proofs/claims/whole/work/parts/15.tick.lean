theorem dayE {h : Hp} (i : Inv h) {t : Nat} : h.1 2 4 + nI t = nI (nD (ms h) + t) := by rw [i.cD, nI_add]
theorem dayM {h : Hp} (i : Inv h) {t : Nat} : h.1 74 4 + nI t = nI (nD (ms h) + t) := by rw [i.mD, nI_add]
theorem m_in_1 {t m : Nat} (h1 : 1 ≤ t) (ht : t ≤ m) (hm : m < 2 ^ 31) (h : Hp) : Gd mX9_in 0 [.int (nI t), .int (nI 1), .int (nI m)] [] h (some (.int (nI 1)), h) := by
  have := m_in (nI t) (nI 1) (nI m) h
  rwa [decide_eq_true ⟨nI_le h1 (by omega), nI_le ht hm⟩] at this
theorem m_in_1f {a : Int32} {m : Int32} (ha : ¬ (nI 1 ≤ a ∧ a ≤ m)) (h : Hp) : Gd mX9_in 0 [.int a, .int (nI 1), .int m] [] h (some (.int (nI 0)), h) := by
  have := m_in a (nI 1) m h
  rwa [decide_eq_false ha] at this
theorem rng1 (a : Int32) (m : Nat) (hm : m < 2 ^ 31) : (∃ t, 1 ≤ t ∧ t ≤ m ∧ a = nI t) ∨ (¬ (nI 1 ≤ a ∧ a ≤ nI m) ∧ (a < nI 1 ∨ (¬ a < nI 1 ∧ ¬ a ≤ nI m))) := by
  by_cases h1 : a < nI 1
  · exact Or.inr ⟨fun z => absurd z.1 (Int32.not_le.mpr h1), Or.inl h1⟩
  · by_cases h2 : a ≤ nI m
    · obtain ⟨j, hj, rfl⟩ := nI_of (x := a) (fun z => h1 (by rw [Int32.lt_iff_toInt_lt] at z ⊢; rw [show (nI 1).toInt = 1 by decide]; rw [show (0 : Int32).toInt = 0 by decide] at z; omega))
      rw [nI_leI hj hm] at h2
      rw [nI_ltI hj (by decide)] at h1
      exact Or.inl ⟨j, by omega, h2, rfl⟩
    · exact Or.inr ⟨fun z => h2 z.2, Or.inr ⟨h1, h2⟩⟩
set_option maxHeartbeats 1000000 in
theorem p_tick {h : Hp} (i : Inv h) (a : Int32) : Pas mX8_tick mX9_tick [.ref 0, .int a] [.ref 72, .int a] h := by
  have lD := i.lD
  rcases rng1 a 400 (by decide) with ⟨t, t1, t2, rfl⟩ | ⟨ha, hb⟩
  · by_cases hd : nD (ms h) + t ≤ 9999
    · refine ⟨.int (nI (nD (ms h) + t)), sI h 2 (upd (h.1 2) 4 (nI (nD (ms h) + t))), sI (sI h 2 (upd (h.1 2) 4 (nI (nD (ms h) + t)))) 74 (upd (h.1 74) 4 (nI (nD (ms h) + t))), ?_, ?_, ?_, rfl, rfl⟩
      · refine gd_ild1 dX8_tick_0 ?_
        refine gd_ic1 dX8_tick_1 ?_
        refine gd_icmp_lt_f 12 dX8_tick_2 (by decide) (by exact nI_nlt (by omega) (by omega)) ?_
        refine gd_ild1 dX8_tick_5 ?_
        refine gd_sipush (v := nI 400) dX8_tick_6 (by decide) ?_
        refine gd_icmp_le_t 19 dX8_tick_9 (by decide) (by exact nI_le (by omega) (by omega)) ?_
        refine gd_ald0 dX8_tick_19 (by decide) ?_
        refine gd_getR (r := 1) dX8_tick_20 fl_8_12 rfl rfl rfl (by decide) ?_
        refine gd_getR (r := 2) dX8_tick_23 fl_8_57 rfl rfl rfl (by decide) ?_
        refine gd_getI dX8_tick_26 fl_8_120 rfl rfl ?_
        refine gd_ild1 dX8_tick_29 ?_
        refine gd_iadd dX8_tick_30 ?_
        rw [dayE i]
        refine gd_sipush (v := nI 9999) dX8_tick_31 (by decide) ?_
        refine gd_icmp_le_t 44 dX8_tick_34 (by decide) (by exact nI_le (by omega) (by omega)) ?_
        refine gd_ald0 dX8_tick_44 (by decide) ?_
        refine gd_getR (r := 1) dX8_tick_45 fl_8_12 rfl rfl rfl (by decide) ?_
        refine gd_getR (r := 2) dX8_tick_48 fl_8_57 rfl rfl rfl (by decide) ?_
        refine gd_dupr (by decide) dX8_tick_51 ?_
        refine gd_getI dX8_tick_52 fl_8_120 rfl rfl ?_
        refine gd_ild1 dX8_tick_55 ?_
        refine gd_iadd dX8_tick_56 ?_
        rw [dayE i]
        refine gd_putI dX8_tick_57 fl_8_120 rfl rfl (fun _ _ _ e => by cases e; rfl) ?_
        refine gd_ald0 dX8_tick_60 (by decide) ?_
        refine gd_getR (r := 1) dX8_tick_61 fl_8_12 rfl rfl rfl (by decide) ?_
        refine gd_getR (r := 2) dX8_tick_64 fl_8_57 rfl rfl rfl (by decide) ?_
        refine gd_getI dX8_tick_67 fl_8_120 rfl rfl ?_
        refine gd_iret dX8_tick_70 rfl rfl ?_
        rfl
      · refine gd_ild1 dX9_tick_0 ?_
        refine gd_ic1 dX9_tick_1 ?_
        refine gd_sipush (v := nI 400) dX9_tick_2 (by decide) ?_
        refine gd_cS3i dX9_tick_5 ct_9_79 ⟨Nat.le_of_ble_eq_true rfl, Nat.le_of_ble_eq_true rfl⟩ (Nat.le_of_ble_eq_true rfl) (Nat.le_of_ble_eq_true rfl) (m_in_1 (m := 400) (by omega) (by omega) (by decide) _) ?_
        refine gd_if_ne_t 17 dX9_tick_8 (by decide) (by decide) ?_
        refine gd_ald0 dX9_tick_17 (by decide) ?_
        refine gd_getR (r := 74) dX9_tick_18 fl_9_13 rfl rfl rfl (by decide) ?_
        refine gd_ic4 dX9_tick_21 ?_
        refine gd_iald (n := 5) dX9_tick_22 rfl (by decide) (by repeat' (first | with_reducible rfl | apply ni_add | apply ni_mul)) (by omega) ?_
        refine gd_ild1 dX9_tick_23 ?_
        refine gd_iadd dX9_tick_24 ?_
        rw [show (sI h 2 (upd (h.1 2) 4 (nI (nD (ms h) + t)))).1 74 4 + nI t = _ from dayM i]
        refine gd_sipush (v := nI 9999) dX9_tick_25 (by decide) ?_
        refine gd_icmp_le_t 37 dX9_tick_28 (by decide) (by exact nI_le (by omega) (by omega)) ?_
        refine gd_ald0 dX9_tick_37 (by decide) ?_
        refine gd_getR (r := 74) dX9_tick_38 fl_9_13 rfl rfl rfl (by decide) ?_
        refine gd_ic4 dX9_tick_41 ?_
        refine gd_dup2 (by decide) dX9_tick_42 ?_
        refine gd_iald (n := 5) dX9_tick_43 rfl (by decide) (by repeat' (first | with_reducible rfl | apply ni_add | apply ni_mul)) (by omega) ?_
        refine gd_ild1 dX9_tick_44 ?_
        refine gd_iadd dX9_tick_45 ?_
        rw [show (sI h 2 (upd (h.1 2) 4 (nI (nD (ms h) + t)))).1 74 4 + nI t = _ from dayM i]
        refine gd_iast (n := 5) dX9_tick_46 rfl (by decide) (by repeat' (first | with_reducible rfl | apply ni_add | apply ni_mul)) (by omega) ?_
        refine gd_ald0 dX9_tick_47 (by decide) ?_
        refine gd_getR (r := 74) dX9_tick_48 fl_9_13 rfl rfl rfl (by decide) ?_
        refine gd_ic4 dX9_tick_51 ?_
        refine gd_iald (n := 5) dX9_tick_52 rfl (by decide) (by repeat' (first | with_reducible rfl | apply ni_add | apply ni_mul)) (by omega) ?_
        refine gd_iret dX9_tick_53 rfl rfl ?_
        rfl
      · have em : ms (sI (sI h 2 (upd (h.1 2) 4 (nI (nD (ms h) + t)))) 74 (upd (h.1 74) 4 (nI (nD (ms h) + t)))) = sR (ms h) 0 (trR 0 (upd (h.1 74) 4 (nI (nD (ms h) + t)))) := by
          rw [ms_set 0 (by decide), ms_si (Or.inl (by decide))]
        skip
        refine inv_world i (fun k hk => by rw [sI_n (by omega), sI_n (by omega)]) rfl ?_ ?_
        · rw [em]
          refine ⟨i.w.t, i.w.n, i.w.x, i.w.o, ?_, i.w.g, i.w.c, i.w.h, i.w.l, i.w.f, i.w.c6, i.w.r, i.w.k⟩
          · have e : nD (sR (ms h) 0 (trR 0 (upd (h.1 74) 4 (nI (nD (ms h) + t))))) = nD (ms h) + t := tn_nI (by omega)
            exact ⟨by rw [e]; rfl, by rw [e]; omega⟩
        · rw [em]
          refine ⟨i.c.t, ?_, i.c.n, i.c.x, i.c.o, i.c.g, i.c.c, i.c.h, i.c.h0, i.c.lk, i.c.lt, i.c.lw, i.c.ld, i.c.lr, i.c.lq, i.c.lf, i.c.le, i.c.lo, i.c.f, i.c.c6, i.c.rk, i.c.rl, i.c.rh, i.c.ks, i.c.km, i.c.kd⟩
          · rfl
    · refine Pas.find (h1 := h) (h2 := hf (h) 1) (v := -1000000002) (w := (-1000000000 : Int32) - nI 2) 1 i (by decide) (by decide) (by decide) (Same.rf _) (Same.rf _) ?_ ?_
      · refine gd_ild1 dX8_tick_0 ?_
        refine gd_ic1 dX8_tick_1 ?_
        refine gd_icmp_lt_f 12 dX8_tick_2 (by decide) (by exact nI_nlt (by omega) (by omega)) ?_
        refine gd_ild1 dX8_tick_5 ?_
        refine gd_sipush (v := nI 400) dX8_tick_6 (by decide) ?_
        refine gd_icmp_le_t 19 dX8_tick_9 (by decide) (by exact nI_le (by omega) (by omega)) ?_
        refine gd_ald0 dX8_tick_19 (by decide) ?_
        refine gd_getR (r := 1) dX8_tick_20 fl_8_12 rfl rfl rfl (by decide) ?_
        refine gd_getR (r := 2) dX8_tick_23 fl_8_57 rfl rfl rfl (by decide) ?_
        refine gd_getI dX8_tick_26 fl_8_120 rfl rfl ?_
        refine gd_ild1 dX8_tick_29 ?_
        refine gd_iadd dX8_tick_30 ?_
        rw [dayE i]
        refine gd_sipush (v := nI 9999) dX8_tick_31 (by decide) ?_
        refine gd_icmp_le_f 44 dX8_tick_34 (by decide) (by exact nI_ge (by omega) (by omega)) ?_
        refine gd_ald0 dX8_tick_37 (by decide) ?_
        refine gd_ldc dX8_tick_38 ld_8_70 ?_
        refine gd_cV1i dX8_tick_40 ct_8_53 rc_0 ⟨Nat.le_of_ble_eq_true rfl, Nat.le_of_ble_eq_true rfl⟩ (Nat.le_of_ble_eq_true rfl) (Nat.le_of_ble_eq_true rfl) (c_f1 _) ?_
        refine gd_iret dX8_tick_43 rfl rfl ?_
        rfl
      · refine gd_ild1 dX9_tick_0 ?_
        refine gd_ic1 dX9_tick_1 ?_
        refine gd_sipush (v := nI 400) dX9_tick_2 (by decide) ?_
        refine gd_cS3i dX9_tick_5 ct_9_79 ⟨Nat.le_of_ble_eq_true rfl, Nat.le_of_ble_eq_true rfl⟩ (Nat.le_of_ble_eq_true rfl) (Nat.le_of_ble_eq_true rfl) (m_in_1 (m := 400) (by omega) (by omega) (by decide) _) ?_
        refine gd_if_ne_t 17 dX9_tick_8 (by decide) (by decide) ?_
        refine gd_ald0 dX9_tick_17 (by decide) ?_
        refine gd_getR (r := 74) dX9_tick_18 fl_9_13 rfl rfl rfl (by decide) ?_
        refine gd_ic4 dX9_tick_21 ?_
        refine gd_iald (n := 5) dX9_tick_22 rfl (by decide) (by repeat' (first | with_reducible rfl | apply ni_add | apply ni_mul)) (by omega) ?_
        refine gd_ild1 dX9_tick_23 ?_
        refine gd_iadd dX9_tick_24 ?_
        rw [show (hf h 1).1 74 4 + nI t = _ from dayM i]
        refine gd_sipush (v := nI 9999) dX9_tick_25 (by decide) ?_
        refine gd_icmp_le_f 37 dX9_tick_28 (by decide) (by exact nI_ge (by omega) (by omega)) ?_
        refine gd_ald0 dX9_tick_31 (by decide) ?_
        refine gd_ic2 dX9_tick_32 ?_
        refine gd_cV1i dX9_tick_33 ct_9_97 rc_72 ⟨Nat.le_of_ble_eq_true rfl, Nat.le_of_ble_eq_true rfl⟩ (Nat.le_of_ble_eq_true rfl) (Nat.le_of_ble_eq_true rfl) (m_f1 _) ?_
        refine gd_iret dX9_tick_36 rfl rfl ?_
        rfl
  · refine Pas.find (h1 := h) (h2 := hf (h) 0) (v := -1000000001) (w := (-1000000000 : Int32) - nI 1) 0 i (by decide) (by decide) (by decide) (Same.rf _) (Same.rf _) ?_ ?_
    · rcases hb with hb | ⟨hb1, hb2⟩
      · refine gd_ild1 dX8_tick_0 ?_
        refine gd_ic1 dX8_tick_1 ?_
        refine gd_icmp_lt_t 12 dX8_tick_2 (by decide) (hb) ?_
        refine gd_ald0 dX8_tick_12 (by decide) ?_
        refine gd_ldc dX8_tick_13 ld_8_52 ?_
        refine gd_cV1i dX8_tick_15 ct_8_53 rc_0 ⟨Nat.le_of_ble_eq_true rfl, Nat.le_of_ble_eq_true rfl⟩ (Nat.le_of_ble_eq_true rfl) (Nat.le_of_ble_eq_true rfl) (c_f0 _) ?_
        refine gd_iret dX8_tick_18 rfl rfl ?_
        rfl
      · refine gd_ild1 dX8_tick_0 ?_
        refine gd_ic1 dX8_tick_1 ?_
        refine gd_icmp_lt_f 12 dX8_tick_2 (by decide) (hb1) ?_
        refine gd_ild1 dX8_tick_5 ?_
        refine gd_sipush (v := nI 400) dX8_tick_6 (by decide) ?_
        refine gd_icmp_le_f 19 dX8_tick_9 (by decide) (hb2) ?_
        refine gd_ald0 dX8_tick_12 (by decide) ?_
        refine gd_ldc dX8_tick_13 ld_8_52 ?_
        refine gd_cV1i dX8_tick_15 ct_8_53 rc_0 ⟨Nat.le_of_ble_eq_true rfl, Nat.le_of_ble_eq_true rfl⟩ (Nat.le_of_ble_eq_true rfl) (Nat.le_of_ble_eq_true rfl) (c_f0 _) ?_
        refine gd_iret dX8_tick_18 rfl rfl ?_
        rfl
    · refine gd_ild1 dX9_tick_0 ?_
      refine gd_ic1 dX9_tick_1 ?_
      refine gd_sipush (v := nI 400) dX9_tick_2 (by decide) ?_
      refine gd_cS3i dX9_tick_5 ct_9_79 ⟨Nat.le_of_ble_eq_true rfl, Nat.le_of_ble_eq_true rfl⟩ (Nat.le_of_ble_eq_true rfl) (Nat.le_of_ble_eq_true rfl) (m_in_1f ha _) ?_
      refine gd_if_ne_f 17 dX9_tick_8 (by decide) (by decide) ?_
      refine gd_ald0 dX9_tick_11 (by decide) ?_
      refine gd_ic1 dX9_tick_12 ?_
      refine gd_cV1i dX9_tick_13 ct_9_97 rc_72 ⟨Nat.le_of_ble_eq_true rfl, Nat.le_of_ble_eq_true rfl⟩ (Nat.le_of_ble_eq_true rfl) (Nat.le_of_ble_eq_true rfl) (m_f0 _) ?_
      refine gd_iret dX9_tick_16 rfl rfl ?_
      rfl
theorem m_its {l w : Nat} (hl : l < 30) (hw : w < 9) (h : Hp) : Gd mX9_its 0 [.ref 72, .int (nI l), .int (nI w)] [] h (some (.int (h.1 78 (9 * l + w))), h) := by
  refine gd_ald0 dX9_its_0 (by decide) ?_
  refine gd_getR (r := 78) dX9_its_1 fl_9_25 rfl rfl rfl (by decide) ?_
  refine gd_bipush (v := nI 9) dX9_its_4 (by decide) ?_
  refine gd_ild1 dX9_its_6 ?_
  refine gd_imul dX9_its_7 ?_
  refine gd_ild2 dX9_its_8 ?_
  refine gd_iadd dX9_its_9 ?_
  refine gd_iald (n := 270) dX9_its_10 rfl (by decide) (by repeat' (first | with_reducible rfl | apply ni_add | apply ni_mul)) (by omega) ?_
  refine gd_iret dX9_its_11 rfl rfl ?_
  rfl
