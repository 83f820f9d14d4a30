
theorem cnt_bset (p : Nat → Bool) {n m : Nat} (h : n ≤ m) : cntN (bset p n).testBit m = cntN p n := by
  obtain ⟨k, rfl⟩ : ∃ k, m = n + k := ⟨m - n, by omega⟩
  rw [cntN_add, cntN_congr (q := p) (fun j hj => by rw [bset_bit]; simp [hj])]
  rw [cntN_congr (p := fun i => (bset p n).testBit (n + i)) (q := fun _ => false) (fun j _ => by rw [bset_bit, decide_eq_false (show ¬ n + j < n by omega)]; rfl)]
  have z : ∀ k, cntN (fun _ => false) k = 0 := fun k => by
    induction k with
    | zero => rfl
    | succ k ih => show cntN _ k + 0 = 0; rw [ih]
  rw [z]; omega
theorem lp_look2 {h : Hp} (w : WF (ms h)) : Gd mX9_look 25 [.ref 72, .int (nI 2), .int (nI (cntN (cB (ms h) (-1) (nN (ms h))) 0)), .int (nI 0)] [] (sI h 82 (dcR (ms h) (-1) (h.1 82) (nN (ms h)))) (some (.int (nI (cntN (cB (ms h) (-1) (nN (ms h))) (nN (ms h))))), sI h 82 (dcR (ms h) (-1) (h.1 82) (nN (ms h)))) := by
  have lN := w.n.2
  have eN : (sI h 82 (dcR (ms h) (-1) (h.1 82) (nN (ms h)))).1 74 1 = nI (nN (ms h)) := by show h.1 74 1 = _; rw [← w.n.1, ms_r0 (by decide)]
  refine loopG (P := fun l => Gd mX9_look 25 [.ref 72, .int (nI 2), .int (nI (cntN (cB (ms h) (-1) (nN (ms h))) l)), .int (nI l)] [] (sI h 82 (dcR (ms h) (-1) (h.1 82) (nN (ms h)))) (some (.int (nI (cntN (cB (ms h) (-1) (nN (ms h))) (nN (ms h))))), sI h 82 (dcR (ms h) (-1) (h.1 82) (nN (ms h))))) (n := nN (ms h)) ?_ ?_ 0 (by omega)
  · refine gd_ild3 dX9_look_25 ?_
    refine gd_ald0 dX9_look_26 (by decide) ?_
    refine gd_getR (r := 74) dX9_look_27 fl_9_13 rfl rfl rfl (by decide) ?_
    refine gd_ic1 dX9_look_30 ?_
    refine gd_iald (n := 5) dX9_look_31 rfl (by decide) (by repeat' (first | with_reducible rfl | apply ni_add | apply ni_mul)) (by omega) ?_
    refine gd_icmp_ge_t 79 dX9_look_32 (by decide) (by rw [eN]; exact nI_le (by omega) (by omega)) ?_
    refine gd_ild1 dX9_look_79 ?_
    refine gd_if_ne_t 92 dX9_look_80 (by decide) (by decide) ?_
    refine gd_ild1 dX9_look_92 ?_
    refine gd_ic1 dX9_look_93 ?_
    refine gd_icmp_ne_t 106 dX9_look_94 (by decide) (by decide) ?_
    refine gd_ild1 dX9_look_106 ?_
    refine gd_ic4 dX9_look_107 ?_
    refine gd_icmp_ge_f 115 dX9_look_108 (by decide) (by decide) ?_
    refine gd_ild2 dX9_look_111 ?_
    refine gd_goto 162 dX9_look_112 (by decide) ?_
    refine gd_iret dX9_look_162 rfl rfl ?_
    rfl
  · intro l hl ih
    cases hp : cB (ms h) (-1) (nN (ms h)) l with
    | false =>
      refine gd_ild3 dX9_look_25 ?_
      refine gd_ald0 dX9_look_26 (by decide) ?_
      refine gd_getR (r := 74) dX9_look_27 fl_9_13 rfl rfl rfl (by decide) ?_
      refine gd_ic1 dX9_look_30 ?_
      refine gd_iald (n := 5) dX9_look_31 rfl (by decide) (by repeat' (first | with_reducible rfl | apply ni_add | apply ni_mul)) (by omega) ?_
      refine gd_icmp_ge_f 79 dX9_look_32 (by decide) (by rw [eN]; exact nI_ge (by omega) (by omega)) ?_
      refine gd_ild2 dX9_look_35 ?_
      refine gd_ild1 dX9_look_36 ?_
      refine gd_ic2 dX9_look_37 ?_
      refine gd_icmp_ne_f 50 dX9_look_38 (by decide) (by decide) ?_
      refine gd_ald0 dX9_look_41 (by decide) ?_
      refine gd_getR (r := 82) dX9_look_42 fl_9_37 rfl rfl rfl (by decide) ?_
      refine gd_ild3 dX9_look_45 ?_
      refine gd_zald (n := 30) dX9_look_46 rfl (by decide) (by repeat' (first | with_reducible rfl | apply ni_add | apply ni_mul)) (by omega) ?_
      rw [show (sI h 82 (dcR (ms h) (-1) (h.1 82) (nN (ms h)))).1 82 l = bi (cB (ms h) (-1) (nN (ms h)) l) by rw [sI_s]; exact dcR_at hl]
      refine gd_if_ne_f 66 dX9_look_47 (by decide) (by rw [hp]; decide) ?_
      refine gd_ild1 dX9_look_50 ?_
      refine gd_ic3 dX9_look_51 ?_
      refine gd_icmp_ne_t 70 dX9_look_52 (by decide) (by decide) ?_
      refine gd_ic0 dX9_look_70 ?_
      refine gd_iadd dX9_look_71 ?_
      rw [add_z]
      refine gd_ist2 dX9_look_72 rfl ?_
      refine gd_iinc3 (b := nI 1) dX9_look_73 (by decide) rfl ?_
      rw [nI_add]
      refine gd_goto 25 dX9_look_76 (by decide) ?_
      rw [cnt_no hp] at ih
      exact ih
    | true =>
      refine gd_ild3 dX9_look_25 ?_
      refine gd_ald0 dX9_look_26 (by decide) ?_
      refine gd_getR (r := 74) dX9_look_27 fl_9_13 rfl rfl rfl (by decide) ?_
      refine gd_ic1 dX9_look_30 ?_
      refine gd_iald (n := 5) dX9_look_31 rfl (by decide) (by repeat' (first | with_reducible rfl | apply ni_add | apply ni_mul)) (by omega) ?_
      refine gd_icmp_ge_f 79 dX9_look_32 (by decide) (by rw [eN]; exact nI_ge (by omega) (by omega)) ?_
      refine gd_ild2 dX9_look_35 ?_
      refine gd_ild1 dX9_look_36 ?_
      refine gd_ic2 dX9_look_37 ?_
      refine gd_icmp_ne_f 50 dX9_look_38 (by decide) (by decide) ?_
      refine gd_ald0 dX9_look_41 (by decide) ?_
      refine gd_getR (r := 82) dX9_look_42 fl_9_37 rfl rfl rfl (by decide) ?_
      refine gd_ild3 dX9_look_45 ?_
      refine gd_zald (n := 30) dX9_look_46 rfl (by decide) (by repeat' (first | with_reducible rfl | apply ni_add | apply ni_mul)) (by omega) ?_
      rw [show (sI h 82 (dcR (ms h) (-1) (h.1 82) (nN (ms h)))).1 82 l = bi (cB (ms h) (-1) (nN (ms h)) l) by rw [sI_s]; exact dcR_at hl]
      refine gd_if_ne_t 66 dX9_look_47 (by decide) (by rw [hp]; decide) ?_
      refine gd_ic1 dX9_look_66 ?_
      refine gd_goto 71 dX9_look_67 (by decide) ?_
      refine gd_iadd dX9_look_71 ?_
      rw [nI_c1 _ _ hp]
      refine gd_ist2 dX9_look_72 rfl ?_
      refine gd_iinc3 (b := nI 1) dX9_look_73 (by decide) rfl ?_
      rw [nI_add]
      refine gd_goto 25 dX9_look_76 (by decide) ?_
      exact ih
theorem lp_look3 {h : Hp} (w : WF (ms h)) : Gd mX9_look 25 [.ref 72, .int (nI 3), .int (nI (cntN (fun l => decide (ms h 4 (9 * l + 6) = nI 1)) 0)), .int (nI 0)] [] (sI h 82 (dcR (ms h) (-1) (h.1 82) (nN (ms h)))) (some (.int (nI (cntN (fun l => decide (ms h 4 (9 * l + 6) = nI 1)) (nN (ms h))))), sI h 82 (dcR (ms h) (-1) (h.1 82) (nN (ms h)))) := by
  have lN := w.n.2
  have eN : (sI h 82 (dcR (ms h) (-1) (h.1 82) (nN (ms h)))).1 74 1 = nI (nN (ms h)) := by show h.1 74 1 = _; rw [← w.n.1, ms_r0 (by decide)]
  refine loopG (P := fun l => Gd mX9_look 25 [.ref 72, .int (nI 3), .int (nI (cntN (fun l => decide (ms h 4 (9 * l + 6) = nI 1)) l)), .int (nI l)] [] (sI h 82 (dcR (ms h) (-1) (h.1 82) (nN (ms h)))) (some (.int (nI (cntN (fun l => decide (ms h 4 (9 * l + 6) = nI 1)) (nN (ms h))))), sI h 82 (dcR (ms h) (-1) (h.1 82) (nN (ms h))))) (n := nN (ms h)) ?_ ?_ 0 (by omega)
  · refine gd_ild3 dX9_look_25 ?_
    refine gd_ald0 dX9_look_26 (by decide) ?_
    refine gd_getR (r := 74) dX9_look_27 fl_9_13 rfl rfl rfl (by decide) ?_
    refine gd_ic1 dX9_look_30 ?_
    refine gd_iald (n := 5) dX9_look_31 rfl (by decide) (by repeat' (first | with_reducible rfl | apply ni_add | apply ni_mul)) (by omega) ?_
    refine gd_icmp_ge_t 79 dX9_look_32 (by decide) (by rw [eN]; exact nI_le (by omega) (by omega)) ?_
    refine gd_ild1 dX9_look_79 ?_
    refine gd_if_ne_t 92 dX9_look_80 (by decide) (by decide) ?_
    refine gd_ild1 dX9_look_92 ?_
    refine gd_ic1 dX9_look_93 ?_
    refine gd_icmp_ne_t 106 dX9_look_94 (by decide) (by decide) ?_
    refine gd_ild1 dX9_look_106 ?_
    refine gd_ic4 dX9_look_107 ?_
    refine gd_icmp_ge_f 115 dX9_look_108 (by decide) (by decide) ?_
    refine gd_ild2 dX9_look_111 ?_
    refine gd_goto 162 dX9_look_112 (by decide) ?_
    refine gd_iret dX9_look_162 rfl rfl ?_
    rfl
  · intro l hl ih
    by_cases e : ms h 4 (9 * l + 6) = nI 1
    · have hp : (fun l => decide (ms h 4 (9 * l + 6) = nI 1)) l = true := decide_eq_true e
      refine gd_ild3 dX9_look_25 ?_
      refine gd_ald0 dX9_look_26 (by decide) ?_
      refine gd_getR (r := 74) dX9_look_27 fl_9_13 rfl rfl rfl (by decide) ?_
      refine gd_ic1 dX9_look_30 ?_
      refine gd_iald (n := 5) dX9_look_31 rfl (by decide) (by repeat' (first | with_reducible rfl | apply ni_add | apply ni_mul)) (by omega) ?_
      refine gd_icmp_ge_f 79 dX9_look_32 (by decide) (by rw [eN]; exact nI_ge (by omega) (by omega)) ?_
      refine gd_ild2 dX9_look_35 ?_
      refine gd_ild1 dX9_look_36 ?_
      refine gd_ic2 dX9_look_37 ?_
      refine gd_icmp_ne_t 50 dX9_look_38 (by decide) (by decide) ?_
      refine gd_ild1 dX9_look_50 ?_
      refine gd_ic3 dX9_look_51 ?_
      refine gd_icmp_ne_f 70 dX9_look_52 (by decide) (by decide) ?_
      refine gd_ald0 dX9_look_55 (by decide) ?_
      refine gd_ild3 dX9_look_56 ?_
      refine gd_bipush (v := nI 6) dX9_look_57 (by decide) ?_
      refine gd_cV2i dX9_look_59 ct_9_120 rc_72 ⟨Nat.le_of_ble_eq_true rfl, Nat.le_of_ble_eq_true rfl⟩ (Nat.le_of_ble_eq_true rfl) (Nat.le_of_ble_eq_true rfl) (m_its (l := l) (w := 6) (by omega) (by decide) _) ?_
      rw [show (sI h 82 (dcR (ms h) (-1) (h.1 82) (nN (ms h)))).1 78 (9 * l + 6) = ms h 4 (9 * l + 6) from (ms_r4 (by omega)).symm]
      refine gd_ic1 dX9_look_62 ?_
      refine gd_icmp_ne_f 70 dX9_look_63 (by decide) (e) ?_
      refine gd_ic1 dX9_look_66 ?_
      refine gd_goto 71 dX9_look_67 (by decide) ?_
      refine gd_iadd dX9_look_71 ?_
      rw [nI_c1 _ _ hp]
      refine gd_ist2 dX9_look_72 rfl ?_
      refine gd_iinc3 (b := nI 1) dX9_look_73 (by decide) rfl ?_
      rw [nI_add]
      refine gd_goto 25 dX9_look_76 (by decide) ?_
      exact ih
    · have hp : (fun l => decide (ms h 4 (9 * l + 6) = nI 1)) l = false := decide_eq_false e
      refine gd_ild3 dX9_look_25 ?_
      refine gd_ald0 dX9_look_26 (by decide) ?_
      refine gd_getR (r := 74) dX9_look_27 fl_9_13 rfl rfl rfl (by decide) ?_
      refine gd_ic1 dX9_look_30 ?_
      refine gd_iald (n := 5) dX9_look_31 rfl (by decide) (by repeat' (first | with_reducible rfl | apply ni_add | apply ni_mul)) (by omega) ?_
      refine gd_icmp_ge_f 79 dX9_look_32 (by decide) (by rw [eN]; exact nI_ge (by omega) (by omega)) ?_
      refine gd_ild2 dX9_look_35 ?_
      refine gd_ild1 dX9_look_36 ?_
      refine gd_ic2 dX9_look_37 ?_
      refine gd_icmp_ne_t 50 dX9_look_38 (by decide) (by decide) ?_
      refine gd_ild1 dX9_look_50 ?_
      refine gd_ic3 dX9_look_51 ?_
      refine gd_icmp_ne_f 70 dX9_look_52 (by decide) (by decide) ?_
      refine gd_ald0 dX9_look_55 (by decide) ?_
      refine gd_ild3 dX9_look_56 ?_
      refine gd_bipush (v := nI 6) dX9_look_57 (by decide) ?_
      refine gd_cV2i dX9_look_59 ct_9_120 rc_72 ⟨Nat.le_of_ble_eq_true rfl, Nat.le_of_ble_eq_true rfl⟩ (Nat.le_of_ble_eq_true rfl) (Nat.le_of_ble_eq_true rfl) (m_its (l := l) (w := 6) (by omega) (by decide) _) ?_
      rw [show (sI h 82 (dcR (ms h) (-1) (h.1 82) (nN (ms h)))).1 78 (9 * l + 6) = ms h 4 (9 * l + 6) from (ms_r4 (by omega)).symm]
      refine gd_ic1 dX9_look_62 ?_
      refine gd_icmp_ne_t 70 dX9_look_63 (by decide) (e) ?_
      refine gd_ic0 dX9_look_70 ?_
      refine gd_iadd dX9_look_71 ?_
      rw [add_z]
      refine gd_ist2 dX9_look_72 rfl ?_
      refine gd_iinc3 (b := nI 1) dX9_look_73 (by decide) rfl ?_
      rw [nI_add]
      refine gd_goto 25 dX9_look_76 (by decide) ?_
      rw [cnt_no hp] at ih
      exact ih
theorem lp_look0 {h : Hp} (w : WF (ms h)) : Gd mX9_look 25 [.ref 72, .int (nI 0), .int (nI 0), .int (nI 0)] [] (sI h 82 (dcR (ms h) (-1) (h.1 82) (nN (ms h)))) (some (.int (nI (nT (ms h)))), sI h 82 (dcR (ms h) (-1) (h.1 82) (nN (ms h)))) := by
  have lN := w.n.2
  have eN : (sI h 82 (dcR (ms h) (-1) (h.1 82) (nN (ms h)))).1 74 1 = nI (nN (ms h)) := by show h.1 74 1 = _; rw [← w.n.1, ms_r0 (by decide)]
  refine loopG (P := fun l => Gd mX9_look 25 [.ref 72, .int (nI 0), .int (nI 0), .int (nI l)] [] (sI h 82 (dcR (ms h) (-1) (h.1 82) (nN (ms h)))) (some (.int (nI (nT (ms h)))), sI h 82 (dcR (ms h) (-1) (h.1 82) (nN (ms h))))) (n := nN (ms h)) ?_ ?_ 0 (by omega)
  · refine gd_ild3 dX9_look_25 ?_
    refine gd_ald0 dX9_look_26 (by decide) ?_
    refine gd_getR (r := 74) dX9_look_27 fl_9_13 rfl rfl rfl (by decide) ?_
    refine gd_ic1 dX9_look_30 ?_
    refine gd_iald (n := 5) dX9_look_31 rfl (by decide) (by repeat' (first | with_reducible rfl | apply ni_add | apply ni_mul)) (by omega) ?_
    refine gd_icmp_ge_t 79 dX9_look_32 (by decide) (by rw [eN]; exact nI_le (by omega) (by omega)) ?_
    refine gd_ild1 dX9_look_79 ?_
    refine gd_if_ne_f 92 dX9_look_80 (by decide) (by decide) ?_
    refine gd_ald0 dX9_look_83 (by decide) ?_
    refine gd_getR (r := 74) dX9_look_84 fl_9_13 rfl rfl rfl (by decide) ?_
    refine gd_ic0 dX9_look_87 ?_
    refine gd_iald (n := 5) dX9_look_88 rfl (by decide) (by repeat' (first | with_reducible rfl | apply ni_add | apply ni_mul)) (by omega) ?_
    refine gd_goto 162 dX9_look_89 (by decide) ?_
    refine gd_iret dX9_look_162 rfl rfl ?_
    rw [show (sI h 82 (dcR (ms h) (-1) (h.1 82) (nN (ms h)))).1 74 0 = _ by show h.1 74 0 = nI (nT (ms h)); rw [← w.t.1, ms_r0 (by decide)]]
  · intro l hl ih
    refine gd_ild3 dX9_look_25 ?_
    refine gd_ald0 dX9_look_26 (by decide) ?_
    refine gd_getR (r := 74) dX9_look_27 fl_9_13 rfl rfl rfl (by decide) ?_
    refine gd_ic1 dX9_look_30 ?_
    refine gd_iald (n := 5) dX9_look_31 rfl (by decide) (by repeat' (first | with_reducible rfl | apply ni_add | apply ni_mul)) (by omega) ?_
    refine gd_icmp_ge_f 79 dX9_look_32 (by decide) (by rw [eN]; exact nI_ge (by omega) (by omega)) ?_
    refine gd_ild2 dX9_look_35 ?_
    refine gd_ild1 dX9_look_36 ?_
    refine gd_ic2 dX9_look_37 ?_
    refine gd_icmp_ne_t 50 dX9_look_38 (by decide) (by decide) ?_
    refine gd_ild1 dX9_look_50 ?_
    refine gd_ic3 dX9_look_51 ?_
    refine gd_icmp_ne_t 70 dX9_look_52 (by decide) (by decide) ?_
    refine gd_ic0 dX9_look_70 ?_
    refine gd_iadd dX9_look_71 ?_
    rw [add_z]
    refine gd_ist2 dX9_look_72 rfl ?_
    refine gd_iinc3 (b := nI 1) dX9_look_73 (by decide) rfl ?_
    rw [nI_add]
    refine gd_goto 25 dX9_look_76 (by decide) ?_
    exact ih
theorem lp_look1 {h : Hp} (w : WF (ms h)) : Gd mX9_look 25 [.ref 72, .int (nI 1), .int (nI 0), .int (nI 0)] [] (sI h 82 (dcR (ms h) (-1) (h.1 82) (nN (ms h)))) (some (.int (nI (nN (ms h)))), sI h 82 (dcR (ms h) (-1) (h.1 82) (nN (ms h)))) := by
  have lN := w.n.2
  have eN : (sI h 82 (dcR (ms h) (-1) (h.1 82) (nN (ms h)))).1 74 1 = nI (nN (ms h)) := by show h.1 74 1 = _; rw [← w.n.1, ms_r0 (by decide)]
  refine loopG (P := fun l => Gd mX9_look 25 [.ref 72, .int (nI 1), .int (nI 0), .int (nI l)] [] (sI h 82 (dcR (ms h) (-1) (h.1 82) (nN (ms h)))) (some (.int (nI (nN (ms h)))), sI h 82 (dcR (ms h) (-1) (h.1 82) (nN (ms h))))) (n := nN (ms h)) ?_ ?_ 0 (by omega)
  · refine gd_ild3 dX9_look_25 ?_
    refine gd_ald0 dX9_look_26 (by decide) ?_
    refine gd_getR (r := 74) dX9_look_27 fl_9_13 rfl rfl rfl (by decide) ?_
    refine gd_ic1 dX9_look_30 ?_
    refine gd_iald (n := 5) dX9_look_31 rfl (by decide) (by repeat' (first | with_reducible rfl | apply ni_add | apply ni_mul)) (by omega) ?_
    refine gd_icmp_ge_t 79 dX9_look_32 (by decide) (by rw [eN]; exact nI_le (by omega) (by omega)) ?_
    refine gd_ild1 dX9_look_79 ?_
    refine gd_if_ne_t 92 dX9_look_80 (by decide) (by decide) ?_
    refine gd_ild1 dX9_look_92 ?_
    refine gd_ic1 dX9_look_93 ?_
    refine gd_icmp_ne_f 106 dX9_look_94 (by decide) (by decide) ?_
    refine gd_ald0 dX9_look_97 (by decide) ?_
    refine gd_getR (r := 74) dX9_look_98 fl_9_13 rfl rfl rfl (by decide) ?_
    refine gd_ic1 dX9_look_101 ?_
    refine gd_iald (n := 5) dX9_look_102 rfl (by decide) (by repeat' (first | with_reducible rfl | apply ni_add | apply ni_mul)) (by omega) ?_
    refine gd_goto 162 dX9_look_103 (by decide) ?_
    refine gd_iret dX9_look_162 rfl rfl ?_
    rw [eN]
  · intro l hl ih
    refine gd_ild3 dX9_look_25 ?_
    refine gd_ald0 dX9_look_26 (by decide) ?_
    refine gd_getR (r := 74) dX9_look_27 fl_9_13 rfl rfl rfl (by decide) ?_
    refine gd_ic1 dX9_look_30 ?_
    refine gd_iald (n := 5) dX9_look_31 rfl (by decide) (by repeat' (first | with_reducible rfl | apply ni_add | apply ni_mul)) (by omega) ?_
    refine gd_icmp_ge_f 79 dX9_look_32 (by decide) (by rw [eN]; exact nI_ge (by omega) (by omega)) ?_
    refine gd_ild2 dX9_look_35 ?_
    refine gd_ild1 dX9_look_36 ?_
    refine gd_ic2 dX9_look_37 ?_
    refine gd_icmp_ne_t 50 dX9_look_38 (by decide) (by decide) ?_
    refine gd_ild1 dX9_look_50 ?_
    refine gd_ic3 dX9_look_51 ?_
    refine gd_icmp_ne_t 70 dX9_look_52 (by decide) (by decide) ?_
    refine gd_ic0 dX9_look_70 ?_
    refine gd_iadd dX9_look_71 ?_
    rw [add_z]
    refine gd_ist2 dX9_look_72 rfl ?_
    refine gd_iinc3 (b := nI 1) dX9_look_73 (by decide) rfl ?_
    rw [nI_add]
    refine gd_goto 25 dX9_look_76 (by decide) ?_
    exact ih
theorem lp_look4 {h : Hp} (w : WF (ms h)) : Gd mX9_look 25 [.ref 72, .int (nI 4), .int (nI 0), .int (nI 0)] [] (sI h 82 (dcR (ms h) (-1) (h.1 82) (nN (ms h)))) (some (.int (nI (nX (ms h)))), sI h 82 (dcR (ms h) (-1) (h.1 82) (nN (ms h)))) := by
  have lN := w.n.2
  have eN : (sI h 82 (dcR (ms h) (-1) (h.1 82) (nN (ms h)))).1 74 1 = nI (nN (ms h)) := by show h.1 74 1 = _; rw [← w.n.1, ms_r0 (by decide)]
  refine loopG (P := fun l => Gd mX9_look 25 [.ref 72, .int (nI 4), .int (nI 0), .int (nI l)] [] (sI h 82 (dcR (ms h) (-1) (h.1 82) (nN (ms h)))) (some (.int (nI (nX (ms h)))), sI h 82 (dcR (ms h) (-1) (h.1 82) (nN (ms h))))) (n := nN (ms h)) ?_ ?_ 0 (by omega)
  · refine gd_ild3 dX9_look_25 ?_
    refine gd_ald0 dX9_look_26 (by decide) ?_
    refine gd_getR (r := 74) dX9_look_27 fl_9_13 rfl rfl rfl (by decide) ?_
    refine gd_ic1 dX9_look_30 ?_
    refine gd_iald (n := 5) dX9_look_31 rfl (by decide) (by repeat' (first | with_reducible rfl | apply ni_add | apply ni_mul)) (by omega) ?_
    refine gd_icmp_ge_t 79 dX9_look_32 (by decide) (by rw [eN]; exact nI_le (by omega) (by omega)) ?_
    refine gd_ild1 dX9_look_79 ?_
    refine gd_if_ne_t 92 dX9_look_80 (by decide) (by decide) ?_
    refine gd_ild1 dX9_look_92 ?_
    refine gd_ic1 dX9_look_93 ?_
    refine gd_icmp_ne_t 106 dX9_look_94 (by decide) (by decide) ?_
    refine gd_ild1 dX9_look_106 ?_
    refine gd_ic4 dX9_look_107 ?_
    refine gd_icmp_ge_t 115 dX9_look_108 (by decide) (by decide) ?_
    refine gd_ild1 dX9_look_115 ?_
    refine gd_ic4 dX9_look_116 ?_
    refine gd_icmp_ne_f 129 dX9_look_117 (by decide) (by decide) ?_
    refine gd_ald0 dX9_look_120 (by decide) ?_
    refine gd_getR (r := 74) dX9_look_121 fl_9_13 rfl rfl rfl (by decide) ?_
    refine gd_ic2 dX9_look_124 ?_
    refine gd_iald (n := 5) dX9_look_125 rfl (by decide) (by repeat' (first | with_reducible rfl | apply ni_add | apply ni_mul)) (by omega) ?_
    refine gd_goto 162 dX9_look_126 (by decide) ?_
    refine gd_iret dX9_look_162 rfl rfl ?_
    rw [show (sI h 82 (dcR (ms h) (-1) (h.1 82) (nN (ms h)))).1 74 2 = _ by show h.1 74 2 = nI (nX (ms h)); rw [← w.x.1, ms_r0 (by decide)]]
  · intro l hl ih
    refine gd_ild3 dX9_look_25 ?_
    refine gd_ald0 dX9_look_26 (by decide) ?_
    refine gd_getR (r := 74) dX9_look_27 fl_9_13 rfl rfl rfl (by decide) ?_
    refine gd_ic1 dX9_look_30 ?_
    refine gd_iald (n := 5) dX9_look_31 rfl (by decide) (by repeat' (first | with_reducible rfl | apply ni_add | apply ni_mul)) (by omega) ?_
    refine gd_icmp_ge_f 79 dX9_look_32 (by decide) (by rw [eN]; exact nI_ge (by omega) (by omega)) ?_
    refine gd_ild2 dX9_look_35 ?_
    refine gd_ild1 dX9_look_36 ?_
    refine gd_ic2 dX9_look_37 ?_
    refine gd_icmp_ne_t 50 dX9_look_38 (by decide) (by decide) ?_
    refine gd_ild1 dX9_look_50 ?_
    refine gd_ic3 dX9_look_51 ?_
    refine gd_icmp_ne_t 70 dX9_look_52 (by decide) (by decide) ?_
    refine gd_ic0 dX9_look_70 ?_
    refine gd_iadd dX9_look_71 ?_
    rw [add_z]
    refine gd_ist2 dX9_look_72 rfl ?_
    refine gd_iinc3 (b := nI 1) dX9_look_73 (by decide) rfl ?_
    rw [nI_add]
    refine gd_goto 25 dX9_look_76 (by decide) ?_
    exact ih
theorem lp_look5 {h : Hp} (w : WF (ms h)) : Gd mX9_look 25 [.ref 72, .int (nI 5), .int (nI 0), .int (nI 0)] [] (sI h 82 (dcR (ms h) (-1) (h.1 82) (nN (ms h)))) (some (.int (nI (nO (ms h)))), sI h 82 (dcR (ms h) (-1) (h.1 82) (nN (ms h)))) := by
  have lN := w.n.2
  have eN : (sI h 82 (dcR (ms h) (-1) (h.1 82) (nN (ms h)))).1 74 1 = nI (nN (ms h)) := by show h.1 74 1 = _; rw [← w.n.1, ms_r0 (by decide)]
  refine loopG (P := fun l => Gd mX9_look 25 [.ref 72, .int (nI 5), .int (nI 0), .int (nI l)] [] (sI h 82 (dcR (ms h) (-1) (h.1 82) (nN (ms h)))) (some (.int (nI (nO (ms h)))), sI h 82 (dcR (ms h) (-1) (h.1 82) (nN (ms h))))) (n := nN (ms h)) ?_ ?_ 0 (by omega)
  · refine gd_ild3 dX9_look_25 ?_
    refine gd_ald0 dX9_look_26 (by decide) ?_
    refine gd_getR (r := 74) dX9_look_27 fl_9_13 rfl rfl rfl (by decide) ?_
    refine gd_ic1 dX9_look_30 ?_
    refine gd_iald (n := 5) dX9_look_31 rfl (by decide) (by repeat' (first | with_reducible rfl | apply ni_add | apply ni_mul)) (by omega) ?_
    refine gd_icmp_ge_t 79 dX9_look_32 (by decide) (by rw [eN]; exact nI_le (by omega) (by omega)) ?_
    refine gd_ild1 dX9_look_79 ?_
    refine gd_if_ne_t 92 dX9_look_80 (by decide) (by decide) ?_
    refine gd_ild1 dX9_look_92 ?_
    refine gd_ic1 dX9_look_93 ?_
    refine gd_icmp_ne_t 106 dX9_look_94 (by decide) (by decide) ?_
    refine gd_ild1 dX9_look_106 ?_
    refine gd_ic4 dX9_look_107 ?_
    refine gd_icmp_ge_t 115 dX9_look_108 (by decide) (by decide) ?_
    refine gd_ild1 dX9_look_115 ?_
    refine gd_ic4 dX9_look_116 ?_
    refine gd_icmp_ne_t 129 dX9_look_117 (by decide) (by decide) ?_
    refine gd_ild1 dX9_look_129 ?_
    refine gd_ic5 dX9_look_130 ?_
    refine gd_icmp_ne_f 143 dX9_look_131 (by decide) (by decide) ?_
    refine gd_ald0 dX9_look_134 (by decide) ?_
    refine gd_getR (r := 74) dX9_look_135 fl_9_13 rfl rfl rfl (by decide) ?_
    refine gd_ic3 dX9_look_138 ?_
    refine gd_iald (n := 5) dX9_look_139 rfl (by decide) (by repeat' (first | with_reducible rfl | apply ni_add | apply ni_mul)) (by omega) ?_
    refine gd_goto 162 dX9_look_140 (by decide) ?_
    refine gd_iret dX9_look_162 rfl rfl ?_
    rw [show (sI h 82 (dcR (ms h) (-1) (h.1 82) (nN (ms h)))).1 74 3 = _ by show h.1 74 3 = nI (nO (ms h)); rw [← w.o.1, ms_r0 (by decide)]]
  · intro l hl ih
    refine gd_ild3 dX9_look_25 ?_
    refine gd_ald0 dX9_look_26 (by decide) ?_
    refine gd_getR (r := 74) dX9_look_27 fl_9_13 rfl rfl rfl (by decide) ?_
    refine gd_ic1 dX9_look_30 ?_
    refine gd_iald (n := 5) dX9_look_31 rfl (by decide) (by repeat' (first | with_reducible rfl | apply ni_add | apply ni_mul)) (by omega) ?_
    refine gd_icmp_ge_f 79 dX9_look_32 (by decide) (by rw [eN]; exact nI_ge (by omega) (by omega)) ?_
    refine gd_ild2 dX9_look_35 ?_
    refine gd_ild1 dX9_look_36 ?_
    refine gd_ic2 dX9_look_37 ?_
    refine gd_icmp_ne_t 50 dX9_look_38 (by decide) (by decide) ?_
    refine gd_ild1 dX9_look_50 ?_
    refine gd_ic3 dX9_look_51 ?_
    refine gd_icmp_ne_t 70 dX9_look_52 (by decide) (by decide) ?_
    refine gd_ic0 dX9_look_70 ?_
    refine gd_iadd dX9_look_71 ?_
    rw [add_z]
    refine gd_ist2 dX9_look_72 rfl ?_
    refine gd_iinc3 (b := nI 1) dX9_look_73 (by decide) rfl ?_
    rw [nI_add]
    refine gd_goto 25 dX9_look_76 (by decide) ?_
    exact ih
theorem lp_look6 {h : Hp} (w : WF (ms h)) : Gd mX9_look 25 [.ref 72, .int (nI 6), .int (nI 0), .int (nI 0)] [] (sI h 82 (dcR (ms h) (-1) (h.1 82) (nN (ms h)))) (some (.int (nI (nD (ms h)))), sI h 82 (dcR (ms h) (-1) (h.1 82) (nN (ms h)))) := by
  have lN := w.n.2
  have eN : (sI h 82 (dcR (ms h) (-1) (h.1 82) (nN (ms h)))).1 74 1 = nI (nN (ms h)) := by show h.1 74 1 = _; rw [← w.n.1, ms_r0 (by decide)]
  refine loopG (P := fun l => Gd mX9_look 25 [.ref 72, .int (nI 6), .int (nI 0), .int (nI l)] [] (sI h 82 (dcR (ms h) (-1) (h.1 82) (nN (ms h)))) (some (.int (nI (nD (ms h)))), sI h 82 (dcR (ms h) (-1) (h.1 82) (nN (ms h))))) (n := nN (ms h)) ?_ ?_ 0 (by omega)
  · refine gd_ild3 dX9_look_25 ?_
    refine gd_ald0 dX9_look_26 (by decide) ?_
    refine gd_getR (r := 74) dX9_look_27 fl_9_13 rfl rfl rfl (by decide) ?_
    refine gd_ic1 dX9_look_30 ?_
    refine gd_iald (n := 5) dX9_look_31 rfl (by decide) (by repeat' (first | with_reducible rfl | apply ni_add | apply ni_mul)) (by omega) ?_
    refine gd_icmp_ge_t 79 dX9_look_32 (by decide) (by rw [eN]; exact nI_le (by omega) (by omega)) ?_
    refine gd_ild1 dX9_look_79 ?_
    refine gd_if_ne_t 92 dX9_look_80 (by decide) (by decide) ?_
    refine gd_ild1 dX9_look_92 ?_
    refine gd_ic1 dX9_look_93 ?_
    refine gd_icmp_ne_t 106 dX9_look_94 (by decide) (by decide) ?_
    refine gd_ild1 dX9_look_106 ?_
    refine gd_ic4 dX9_look_107 ?_
    refine gd_icmp_ge_t 115 dX9_look_108 (by decide) (by decide) ?_
    refine gd_ild1 dX9_look_115 ?_
    refine gd_ic4 dX9_look_116 ?_
    refine gd_icmp_ne_t 129 dX9_look_117 (by decide) (by decide) ?_
    refine gd_ild1 dX9_look_129 ?_
    refine gd_ic5 dX9_look_130 ?_
    refine gd_icmp_ne_t 143 dX9_look_131 (by decide) (by decide) ?_
    refine gd_ild1 dX9_look_143 ?_
    refine gd_bipush (v := nI 6) dX9_look_144 (by decide) ?_
    refine gd_icmp_ne_f 158 dX9_look_146 (by decide) (by decide) ?_
    refine gd_ald0 dX9_look_149 (by decide) ?_
    refine gd_getR (r := 74) dX9_look_150 fl_9_13 rfl rfl rfl (by decide) ?_
    refine gd_ic4 dX9_look_153 ?_
    refine gd_iald (n := 5) dX9_look_154 rfl (by decide) (by repeat' (first | with_reducible rfl | apply ni_add | apply ni_mul)) (by omega) ?_
    refine gd_goto 162 dX9_look_155 (by decide) ?_
    refine gd_iret dX9_look_162 rfl rfl ?_
    rw [show (sI h 82 (dcR (ms h) (-1) (h.1 82) (nN (ms h)))).1 74 4 = _ by show h.1 74 4 = nI (nD (ms h)); rw [← w.d.1, ms_r0 (by decide)]]
  · intro l hl ih
    refine gd_ild3 dX9_look_25 ?_
    refine gd_ald0 dX9_look_26 (by decide) ?_
    refine gd_getR (r := 74) dX9_look_27 fl_9_13 rfl rfl rfl (by decide) ?_
    refine gd_ic1 dX9_look_30 ?_
    refine gd_iald (n := 5) dX9_look_31 rfl (by decide) (by repeat' (first | with_reducible rfl | apply ni_add | apply ni_mul)) (by omega) ?_
    refine gd_icmp_ge_f 79 dX9_look_32 (by decide) (by rw [eN]; exact nI_ge (by omega) (by omega)) ?_
    refine gd_ild2 dX9_look_35 ?_
    refine gd_ild1 dX9_look_36 ?_
    refine gd_ic2 dX9_look_37 ?_
    refine gd_icmp_ne_t 50 dX9_look_38 (by decide) (by decide) ?_
    refine gd_ild1 dX9_look_50 ?_
    refine gd_ic3 dX9_look_51 ?_
    refine gd_icmp_ne_t 70 dX9_look_52 (by decide) (by decide) ?_
    refine gd_ic0 dX9_look_70 ?_
    refine gd_iadd dX9_look_71 ?_
    rw [add_z]
    refine gd_ist2 dX9_look_72 rfl ?_
    refine gd_iinc3 (b := nI 1) dX9_look_73 (by decide) rfl ?_
    rw [nI_add]
    refine gd_goto 25 dX9_look_76 (by decide) ?_
    exact ih
theorem lp_look7 {h : Hp} (w : WF (ms h)) : Gd mX9_look 25 [.ref 72, .int (nI 7), .int (nI 0), .int (nI 0)] [] (sI h 82 (dcR (ms h) (-1) (h.1 82) (nN (ms h)))) (some (.int (h.1 72 14)), sI h 82 (dcR (ms h) (-1) (h.1 82) (nN (ms h)))) := by
  have lN := w.n.2
  have eN : (sI h 82 (dcR (ms h) (-1) (h.1 82) (nN (ms h)))).1 74 1 = nI (nN (ms h)) := by show h.1 74 1 = _; rw [← w.n.1, ms_r0 (by decide)]
  refine loopG (P := fun l => Gd mX9_look 25 [.ref 72, .int (nI 7), .int (nI 0), .int (nI l)] [] (sI h 82 (dcR (ms h) (-1) (h.1 82) (nN (ms h)))) (some (.int (h.1 72 14)), sI h 82 (dcR (ms h) (-1) (h.1 82) (nN (ms h))))) (n := nN (ms h)) ?_ ?_ 0 (by omega)
  · refine gd_ild3 dX9_look_25 ?_
    refine gd_ald0 dX9_look_26 (by decide) ?_
    refine gd_getR (r := 74) dX9_look_27 fl_9_13 rfl rfl rfl (by decide) ?_
    refine gd_ic1 dX9_look_30 ?_
    refine gd_iald (n := 5) dX9_look_31 rfl (by decide) (by repeat' (first | with_reducible rfl | apply ni_add | apply ni_mul)) (by omega) ?_
    refine gd_icmp_ge_t 79 dX9_look_32 (by decide) (by rw [eN]; exact nI_le (by omega) (by omega)) ?_
    refine gd_ild1 dX9_look_79 ?_
    refine gd_if_ne_t 92 dX9_look_80 (by decide) (by decide) ?_
    refine gd_ild1 dX9_look_92 ?_
    refine gd_ic1 dX9_look_93 ?_
    refine gd_icmp_ne_t 106 dX9_look_94 (by decide) (by decide) ?_
    refine gd_ild1 dX9_look_106 ?_
    refine gd_ic4 dX9_look_107 ?_
    refine gd_icmp_ge_t 115 dX9_look_108 (by decide) (by decide) ?_
    refine gd_ild1 dX9_look_115 ?_
    refine gd_ic4 dX9_look_116 ?_
    refine gd_icmp_ne_t 129 dX9_look_117 (by decide) (by decide) ?_
    refine gd_ild1 dX9_look_129 ?_
    refine gd_ic5 dX9_look_130 ?_
    refine gd_icmp_ne_t 143 dX9_look_131 (by decide) (by decide) ?_
    refine gd_ild1 dX9_look_143 ?_
    refine gd_bipush (v := nI 6) dX9_look_144 (by decide) ?_
    refine gd_icmp_ne_t 158 dX9_look_146 (by decide) (by decide) ?_
    refine gd_ald0 dX9_look_158 (by decide) ?_
    refine gd_getI dX9_look_159 fl_9_149 rfl rfl ?_
    refine gd_iret dX9_look_162 rfl rfl ?_
    rfl
  · intro l hl ih
    refine gd_ild3 dX9_look_25 ?_
    refine gd_ald0 dX9_look_26 (by decide) ?_
    refine gd_getR (r := 74) dX9_look_27 fl_9_13 rfl rfl rfl (by decide) ?_
    refine gd_ic1 dX9_look_30 ?_
    refine gd_iald (n := 5) dX9_look_31 rfl (by decide) (by repeat' (first | with_reducible rfl | apply ni_add | apply ni_mul)) (by omega) ?_
    refine gd_icmp_ge_f 79 dX9_look_32 (by decide) (by rw [eN]; exact nI_ge (by omega) (by omega)) ?_
    refine gd_ild2 dX9_look_35 ?_
    refine gd_ild1 dX9_look_36 ?_
    refine gd_ic2 dX9_look_37 ?_
    refine gd_icmp_ne_t 50 dX9_look_38 (by decide) (by decide) ?_
    refine gd_ild1 dX9_look_50 ?_
    refine gd_ic3 dX9_look_51 ?_
    refine gd_icmp_ne_t 70 dX9_look_52 (by decide) (by decide) ?_
    refine gd_ic0 dX9_look_70 ?_
    refine gd_iadd dX9_look_71 ?_
    rw [add_z]
    refine gd_ist2 dX9_look_72 rfl ?_
    refine gd_iinc3 (b := nI 1) dX9_look_73 (by decide) rfl ?_
    rw [nI_add]
    refine gd_goto 25 dX9_look_76 (by decide) ?_
    exact ih
set_option maxHeartbeats 1000000 in
theorem p_look {h : Hp} (i : Inv h) (a : Int32) : Pas mX8_look mX9_look [.ref 0, .int a] [.ref 72, .int a, .null, .null] h := by
  have lN := i.lN
  rcases rng a (8) (by decide) with ⟨q, hq, rfl⟩ | ha
  · rcases (show q = 0 ∨ q = 1 ∨ q = 2 ∨ q = 3 ∨ q = 4 ∨ q = 5 ∨ q = 6 ∨ q = 7 by omega) with rfl | rfl | rfl | rfl | rfl | rfl | rfl | rfl
    · refine Pas.read (r := .int (nI (nT (ms h)))) (r2 := .int (nI (nT (ms h)))) (h1 := h) (h2 := sI h 82 (dcR (ms h) (-1) (h.1 82) (nN (ms h)))) i rfl (Same.rf _) ((Same.rf _).si (by decide) (by decide) (by decide)) ?_ ?_
      · refine gd_ild1 dX8_look_0 ?_
        refine gd_tabIn (off := 47) 48 dX8_look_1 (by decide) (by decide) (by decide) (by decide) ?_
        refine gd_ald0 dX8_look_48 (by decide) ?_
        refine gd_getR (r := 1) dX8_look_49 fl_8_12 rfl rfl rfl (by decide) ?_
        refine gd_getR (r := 2) dX8_look_52 fl_8_57 rfl rfl rfl (by decide) ?_
        refine gd_getI dX8_look_55 fl_8_66 rfl rfl ?_
        refine gd_iret dX8_look_58 rfl rfl ?_
        rw [i.cT]
      · refine gd_ild1 dX9_look_0 ?_
        refine gd_ic0 dX9_look_1 ?_
        refine gd_bipush (v := nI 7) dX9_look_2 (by decide) ?_
        refine gd_cS3i dX9_look_4 ct_9_79 ⟨Nat.le_of_ble_eq_true rfl, Nat.le_of_ble_eq_true rfl⟩ (Nat.le_of_ble_eq_true rfl) (Nat.le_of_ble_eq_true rfl) (m_in_t (m := 7) (by decide) (by decide) _) ?_
        refine gd_if_ne_t 16 dX9_look_7 (by decide) (by decide) ?_
        refine gd_ald0 dX9_look_16 (by decide) ?_
        refine gd_icm1 dX9_look_17 ?_
        refine gd_cV1v dX9_look_18 ct_9_109 rc_72 ⟨Nat.le_of_ble_eq_true rfl, Nat.le_of_ble_eq_true rfl⟩ (Nat.le_of_ble_eq_true rfl) (Nat.le_of_ble_eq_true rfl) (m_count i.w _) ?_
        refine gd_ic0 dX9_look_21 ?_
        refine gd_ist2 dX9_look_22 rfl ?_
        refine gd_ic0 dX9_look_23 ?_
        refine gd_ist3 dX9_look_24 rfl ?_
        exact lp_look0 i.w
    · refine Pas.read (r := .int (nI (nN (ms h)))) (r2 := .int (nI (nN (ms h)))) (h1 := h) (h2 := sI h 82 (dcR (ms h) (-1) (h.1 82) (nN (ms h)))) i rfl (Same.rf _) ((Same.rf _).si (by decide) (by decide) (by decide)) ?_ ?_
      · refine gd_ild1 dX8_look_0 ?_
        refine gd_tabIn (off := 58) 59 dX8_look_1 (by decide) (by decide) (by decide) (by decide) ?_
        refine gd_ald0 dX8_look_59 (by decide) ?_
        refine gd_getR (r := 1) dX8_look_60 fl_8_12 rfl rfl rfl (by decide) ?_
        refine gd_getR (r := 6) dX8_look_63 fl_8_100 rfl rfl rfl (by decide) ?_
        refine gd_getI dX8_look_66 fl_8_135 rfl rfl ?_
        refine gd_iret dX8_look_69 rfl rfl ?_
        rw [i.cN]
      · refine gd_ild1 dX9_look_0 ?_
        refine gd_ic0 dX9_look_1 ?_
        refine gd_bipush (v := nI 7) dX9_look_2 (by decide) ?_
        refine gd_cS3i dX9_look_4 ct_9_79 ⟨Nat.le_of_ble_eq_true rfl, Nat.le_of_ble_eq_true rfl⟩ (Nat.le_of_ble_eq_true rfl) (Nat.le_of_ble_eq_true rfl) (m_in_t (m := 7) (by decide) (by decide) _) ?_
        refine gd_if_ne_t 16 dX9_look_7 (by decide) (by decide) ?_
        refine gd_ald0 dX9_look_16 (by decide) ?_
        refine gd_icm1 dX9_look_17 ?_
        refine gd_cV1v dX9_look_18 ct_9_109 rc_72 ⟨Nat.le_of_ble_eq_true rfl, Nat.le_of_ble_eq_true rfl⟩ (Nat.le_of_ble_eq_true rfl) (Nat.le_of_ble_eq_true rfl) (m_count i.w _) ?_
        refine gd_ic0 dX9_look_21 ?_
        refine gd_ist2 dX9_look_22 rfl ?_
        refine gd_ic0 dX9_look_23 ?_
        refine gd_ist3 dX9_look_24 rfl ?_
        exact lp_look1 i.w
    · refine Pas.read (r := .int (nI (cntN (cB (ms h) (-1) (nN (ms h))) (nN (ms h))))) (r2 := .int (nI (cntN (cB (ms h) (-1) (nN (ms h))) (nN (ms h))))) (h1 := h) (h2 := sI h 82 (dcR (ms h) (-1) (h.1 82) (nN (ms h)))) i rfl (Same.rf _) ((Same.rf _).si (by decide) (by decide) (by decide)) ?_ ?_
      · refine gd_ild1 dX8_look_0 ?_
        refine gd_tabIn (off := 69) 70 dX8_look_1 (by decide) (by decide) (by decide) (by decide) ?_
        refine gd_ald0 dX8_look_70 (by decide) ?_
        refine gd_getR (r := 1) dX8_look_71 fl_8_12 rfl rfl rfl (by decide) ?_
        refine gd_icm1 dX8_look_74 ?_
        refine gd_cV1i dX8_look_75 ct_8_114 rc_1 ⟨Nat.le_of_ble_eq_true rfl, Nat.le_of_ble_eq_true rfl⟩ (Nat.le_of_ble_eq_true rfl) (Nat.le_of_ble_eq_true rfl) (c_counting i.w i.c _) ?_
        refine gd_cS1i dX8_look_78 ct_8_321 ⟨Nat.le_of_ble_eq_true rfl, Nat.le_of_ble_eq_true rfl⟩ (Nat.le_of_ble_eq_true rfl) (Nat.le_of_ble_eq_true rfl) (j_bitCount (by have := cS_lt i.w (-1); omega) _) ?_
        refine gd_iret dX8_look_81 rfl rfl ?_
        rw [show cntN (cS (ms h) (-1)).testBit 32 = _ from cnt_bset _ (by omega)]
      · refine gd_ild1 dX9_look_0 ?_
        refine gd_ic0 dX9_look_1 ?_
        refine gd_bipush (v := nI 7) dX9_look_2 (by decide) ?_
        refine gd_cS3i dX9_look_4 ct_9_79 ⟨Nat.le_of_ble_eq_true rfl, Nat.le_of_ble_eq_true rfl⟩ (Nat.le_of_ble_eq_true rfl) (Nat.le_of_ble_eq_true rfl) (m_in_t (m := 7) (by decide) (by decide) _) ?_
        refine gd_if_ne_t 16 dX9_look_7 (by decide) (by decide) ?_
        refine gd_ald0 dX9_look_16 (by decide) ?_
        refine gd_icm1 dX9_look_17 ?_
        refine gd_cV1v dX9_look_18 ct_9_109 rc_72 ⟨Nat.le_of_ble_eq_true rfl, Nat.le_of_ble_eq_true rfl⟩ (Nat.le_of_ble_eq_true rfl) (Nat.le_of_ble_eq_true rfl) (m_count i.w _) ?_
        refine gd_ic0 dX9_look_21 ?_
        refine gd_ist2 dX9_look_22 rfl ?_
        refine gd_ic0 dX9_look_23 ?_
        refine gd_ist3 dX9_look_24 rfl ?_
        exact lp_look2 i.w
    · refine Pas.read (r := .int (nI (cntN (fun l => decide (ms h 4 (9 * l + 6) = nI 1)) (nN (ms h))))) (r2 := .int (nI (cntN (fun l => decide (ms h 4 (9 * l + 6) = nI 1)) (nN (ms h))))) (h1 := h) (h2 := sI h 82 (dcR (ms h) (-1) (h.1 82) (nN (ms h)))) i rfl (Same.rf _) ((Same.rf _).si (by decide) (by decide) (by decide)) ?_ ?_
      · refine gd_ild1 dX8_look_0 ?_
        refine gd_tabIn (off := 81) 82 dX8_look_1 (by decide) (by decide) (by decide) (by decide) ?_
        refine gd_ald0 dX8_look_82 (by decide) ?_
        refine gd_getR (r := 1) dX8_look_83 fl_8_12 rfl rfl rfl (by decide) ?_
        refine gd_getR (r := 6) dX8_look_86 fl_8_100 rfl rfl rfl (by decide) ?_
        refine gd_getI dX8_look_89 fl_8_155 rfl rfl ?_
        rw [i.c.lo1]
        refine gd_cS1i dX8_look_92 ct_8_321 ⟨Nat.le_of_ble_eq_true rfl, Nat.le_of_ble_eq_true rfl⟩ (Nat.le_of_ble_eq_true rfl) (Nat.le_of_ble_eq_true rfl) (j_bitCount (by have := lostS_lt i.w; omega) _) ?_
        refine gd_iret dX8_look_95 rfl rfl ?_
        rw [show cntN (lostS (ms h)).testBit 32 = _ from cnt_bset _ (by omega)]
      · refine gd_ild1 dX9_look_0 ?_
        refine gd_ic0 dX9_look_1 ?_
        refine gd_bipush (v := nI 7) dX9_look_2 (by decide) ?_
        refine gd_cS3i dX9_look_4 ct_9_79 ⟨Nat.le_of_ble_eq_true rfl, Nat.le_of_ble_eq_true rfl⟩ (Nat.le_of_ble_eq_true rfl) (Nat.le_of_ble_eq_true rfl) (m_in_t (m := 7) (by decide) (by decide) _) ?_
        refine gd_if_ne_t 16 dX9_look_7 (by decide) (by decide) ?_
        refine gd_ald0 dX9_look_16 (by decide) ?_
        refine gd_icm1 dX9_look_17 ?_
        refine gd_cV1v dX9_look_18 ct_9_109 rc_72 ⟨Nat.le_of_ble_eq_true rfl, Nat.le_of_ble_eq_true rfl⟩ (Nat.le_of_ble_eq_true rfl) (Nat.le_of_ble_eq_true rfl) (m_count i.w _) ?_
        refine gd_ic0 dX9_look_21 ?_
        refine gd_ist2 dX9_look_22 rfl ?_
        refine gd_ic0 dX9_look_23 ?_
        refine gd_ist3 dX9_look_24 rfl ?_
        exact lp_look3 i.w
    · refine Pas.read (r := .int (nI (nX (ms h)))) (r2 := .int (nI (nX (ms h)))) (h1 := h) (h2 := sI h 82 (dcR (ms h) (-1) (h.1 82) (nN (ms h)))) i rfl (Same.rf _) ((Same.rf _).si (by decide) (by decide) (by decide)) ?_ ?_
      · refine gd_ild1 dX8_look_0 ?_
        refine gd_tabIn (off := 95) 96 dX8_look_1 (by decide) (by decide) (by decide) (by decide) ?_
        refine gd_ald0 dX8_look_96 (by decide) ?_
        refine gd_getR (r := 1) dX8_look_97 fl_8_12 rfl rfl rfl (by decide) ?_
        refine gd_getR (r := 15) dX8_look_100 fl_8_188 rfl rfl rfl (by decide) ?_
        refine gd_getI dX8_look_103 fl_8_192 rfl rfl ?_
        refine gd_iret dX8_look_106 rfl rfl ?_
        rw [i.cX]
      · refine gd_ild1 dX9_look_0 ?_
        refine gd_ic0 dX9_look_1 ?_
        refine gd_bipush (v := nI 7) dX9_look_2 (by decide) ?_
        refine gd_cS3i dX9_look_4 ct_9_79 ⟨Nat.le_of_ble_eq_true rfl, Nat.le_of_ble_eq_true rfl⟩ (Nat.le_of_ble_eq_true rfl) (Nat.le_of_ble_eq_true rfl) (m_in_t (m := 7) (by decide) (by decide) _) ?_
        refine gd_if_ne_t 16 dX9_look_7 (by decide) (by decide) ?_
        refine gd_ald0 dX9_look_16 (by decide) ?_
        refine gd_icm1 dX9_look_17 ?_
        refine gd_cV1v dX9_look_18 ct_9_109 rc_72 ⟨Nat.le_of_ble_eq_true rfl, Nat.le_of_ble_eq_true rfl⟩ (Nat.le_of_ble_eq_true rfl) (Nat.le_of_ble_eq_true rfl) (m_count i.w _) ?_
        refine gd_ic0 dX9_look_21 ?_
        refine gd_ist2 dX9_look_22 rfl ?_
        refine gd_ic0 dX9_look_23 ?_
        refine gd_ist3 dX9_look_24 rfl ?_
        exact lp_look4 i.w
    · refine Pas.read (r := .int (nI (nO (ms h)))) (r2 := .int (nI (nO (ms h)))) (h1 := h) (h2 := sI h 82 (dcR (ms h) (-1) (h.1 82) (nN (ms h)))) i rfl (Same.rf _) ((Same.rf _).si (by decide) (by decide) (by decide)) ?_ ?_
      · refine gd_ild1 dX8_look_0 ?_
        refine gd_tabIn (off := 106) 107 dX8_look_1 (by decide) (by decide) (by decide) (by decide) ?_
        refine gd_ald0 dX8_look_107 (by decide) ?_
        refine gd_getR (r := 1) dX8_look_108 fl_8_12 rfl rfl rfl (by decide) ?_
        refine gd_getR (r := 21) dX8_look_111 fl_8_280 rfl rfl rfl (by decide) ?_
        refine gd_getI dX8_look_114 fl_8_284 rfl rfl ?_
        refine gd_iret dX8_look_117 rfl rfl ?_
        rw [i.cO]
      · refine gd_ild1 dX9_look_0 ?_
        refine gd_ic0 dX9_look_1 ?_
        refine gd_bipush (v := nI 7) dX9_look_2 (by decide) ?_
        refine gd_cS3i dX9_look_4 ct_9_79 ⟨Nat.le_of_ble_eq_true rfl, Nat.le_of_ble_eq_true rfl⟩ (Nat.le_of_ble_eq_true rfl) (Nat.le_of_ble_eq_true rfl) (m_in_t (m := 7) (by decide) (by decide) _) ?_
        refine gd_if_ne_t 16 dX9_look_7 (by decide) (by decide) ?_
        refine gd_ald0 dX9_look_16 (by decide) ?_
        refine gd_icm1 dX9_look_17 ?_
        refine gd_cV1v dX9_look_18 ct_9_109 rc_72 ⟨Nat.le_of_ble_eq_true rfl, Nat.le_of_ble_eq_true rfl⟩ (Nat.le_of_ble_eq_true rfl) (Nat.le_of_ble_eq_true rfl) (m_count i.w _) ?_
        refine gd_ic0 dX9_look_21 ?_
        refine gd_ist2 dX9_look_22 rfl ?_
        refine gd_ic0 dX9_look_23 ?_
        refine gd_ist3 dX9_look_24 rfl ?_
        exact lp_look5 i.w
    · refine Pas.read (r := .int (nI (nD (ms h)))) (r2 := .int (nI (nD (ms h)))) (h1 := h) (h2 := sI h 82 (dcR (ms h) (-1) (h.1 82) (nN (ms h)))) i rfl (Same.rf _) ((Same.rf _).si (by decide) (by decide) (by decide)) ?_ ?_
      · refine gd_ild1 dX8_look_0 ?_
        refine gd_tabIn (off := 117) 118 dX8_look_1 (by decide) (by decide) (by decide) (by decide) ?_
        refine gd_ald0 dX8_look_118 (by decide) ?_
        refine gd_getR (r := 1) dX8_look_119 fl_8_12 rfl rfl rfl (by decide) ?_
        refine gd_getR (r := 2) dX8_look_122 fl_8_57 rfl rfl rfl (by decide) ?_
        refine gd_getI dX8_look_125 fl_8_120 rfl rfl ?_
        refine gd_iret dX8_look_128 rfl rfl ?_
        rw [i.cD]
      · refine gd_ild1 dX9_look_0 ?_
        refine gd_ic0 dX9_look_1 ?_
        refine gd_bipush (v := nI 7) dX9_look_2 (by decide) ?_
        refine gd_cS3i dX9_look_4 ct_9_79 ⟨Nat.le_of_ble_eq_true rfl, Nat.le_of_ble_eq_true rfl⟩ (Nat.le_of_ble_eq_true rfl) (Nat.le_of_ble_eq_true rfl) (m_in_t (m := 7) (by decide) (by decide) _) ?_
        refine gd_if_ne_t 16 dX9_look_7 (by decide) (by decide) ?_
        refine gd_ald0 dX9_look_16 (by decide) ?_
        refine gd_icm1 dX9_look_17 ?_
        refine gd_cV1v dX9_look_18 ct_9_109 rc_72 ⟨Nat.le_of_ble_eq_true rfl, Nat.le_of_ble_eq_true rfl⟩ (Nat.le_of_ble_eq_true rfl) (Nat.le_of_ble_eq_true rfl) (m_count i.w _) ?_
        refine gd_ic0 dX9_look_21 ?_
        refine gd_ist2 dX9_look_22 rfl ?_
        refine gd_ic0 dX9_look_23 ?_
        refine gd_ist3 dX9_look_24 rfl ?_
        exact lp_look6 i.w
    · refine Pas.read (r := .int (h.1 72 14)) (r2 := .int (h.1 72 14)) (h1 := h) (h2 := sI h 82 (dcR (ms h) (-1) (h.1 82) (nN (ms h)))) i rfl (Same.rf _) ((Same.rf _).si (by decide) (by decide) (by decide)) ?_ ?_
      · refine gd_ild1 dX8_look_0 ?_
        refine gd_tabIn (off := 128) 129 dX8_look_1 (by decide) (by decide) (by decide) (by decide) ?_
        refine gd_ald0 dX8_look_129 (by decide) ?_
        refine gd_getR (r := 51) dX8_look_130 fl_8_26 rfl rfl rfl (by decide) ?_
        refine gd_getI dX8_look_133 fl_8_181 rfl rfl ?_
        refine gd_iret dX8_look_136 rfl rfl ?_
        rw [i.p.n.1, ← i.p.n.2.1]
      · refine gd_ild1 dX9_look_0 ?_
        refine gd_ic0 dX9_look_1 ?_
        refine gd_bipush (v := nI 7) dX9_look_2 (by decide) ?_
        refine gd_cS3i dX9_look_4 ct_9_79 ⟨Nat.le_of_ble_eq_true rfl, Nat.le_of_ble_eq_true rfl⟩ (Nat.le_of_ble_eq_true rfl) (Nat.le_of_ble_eq_true rfl) (m_in_t (m := 7) (by decide) (by decide) _) ?_
        refine gd_if_ne_t 16 dX9_look_7 (by decide) (by decide) ?_
        refine gd_ald0 dX9_look_16 (by decide) ?_
        refine gd_icm1 dX9_look_17 ?_
        refine gd_cV1v dX9_look_18 ct_9_109 rc_72 ⟨Nat.le_of_ble_eq_true rfl, Nat.le_of_ble_eq_true rfl⟩ (Nat.le_of_ble_eq_true rfl) (Nat.le_of_ble_eq_true rfl) (m_count i.w _) ?_
        refine gd_ic0 dX9_look_21 ?_
        refine gd_ist2 dX9_look_22 rfl ?_
        refine gd_ic0 dX9_look_23 ?_
        refine gd_ist3 dX9_look_24 rfl ?_
        exact lp_look7 i.w
  · refine Pas.find (h1 := h) (h2 := hf (h) 0) (v := -1000000001) (w := (-1000000000 : Int32) - nI 1) 0 i (by decide) (by decide) (by decide) (Same.rf _) (Same.rf _) ?_ ?_
    · refine gd_ild1 dX8_look_0 ?_
      refine gd_tabOut 137 dX8_look_1 (rng_out (n := 8) (ha := ha)) (by decide) ?_
      refine gd_ald0 dX8_look_137 (by decide) ?_
      refine gd_ldc dX8_look_138 ld_8_52 ?_
      refine gd_cV1i dX8_look_140 ct_8_53 rc_0 ⟨Nat.le_of_ble_eq_true rfl, Nat.le_of_ble_eq_true rfl⟩ (Nat.le_of_ble_eq_true rfl) (Nat.le_of_ble_eq_true rfl) (c_f0 _) ?_
      refine gd_iret dX8_look_143 rfl rfl ?_
      rfl
    · refine gd_ild1 dX9_look_0 ?_
      refine gd_ic0 dX9_look_1 ?_
      refine gd_bipush (v := nI 7) dX9_look_2 (by decide) ?_
      refine gd_cS3i dX9_look_4 ct_9_79 ⟨Nat.le_of_ble_eq_true rfl, Nat.le_of_ble_eq_true rfl⟩ (Nat.le_of_ble_eq_true rfl) (Nat.le_of_ble_eq_true rfl) (m_in_f (n := 8) (by decide) (by decide) ha _) ?_
      refine gd_if_ne_f 16 dX9_look_7 (by decide) (by decide) ?_
      refine gd_ald0 dX9_look_10 (by decide) ?_
      refine gd_ic1 dX9_look_11 ?_
      refine gd_cV1i dX9_look_12 ct_9_97 rc_72 ⟨Nat.le_of_ble_eq_true rfl, Nat.le_of_ble_eq_true rfl⟩ (Nat.le_of_ble_eq_true rfl) (Nat.le_of_ble_eq_true rfl) (m_f0 _) ?_
      refine gd_iret dX9_look_15 rfl rfl ?_
      rfl

/-- towns of which none of the first l letters that count tells -/
def qt (s : Nat → Nat → Int32) (f : Nat → Bool) (l t : Nat) : Bool := allN (fun k => !(tls s f t k)) l
theorem qt_cnt {s : Nat → Nat → Int32} {f : Nat → Bool} {t n : Nat} : qt s f n t = decide (cntN (tls s f t) n = 0) := by
  unfold qt
  induction n with
  | zero => rfl
  | succ n ih =>
    show (allN _ n && !(tls s f t n)) = decide (cntN _ n + _ = 0)
    rw [ih]
    cases tls s f t n
    · simp
    · simp
theorem qt_s {s : Nat → Nat → Int32} {f : Nat → Bool} {t n : Nat} : qt s f (n + 1) t = (qt s f n t && !(tls s f t n)) := rfl
theorem bset_all (p : Nat → Bool) (n : Nat) (h : ∀ k, k < n → p k = true) : bset p n = 2 ^ n - 1 := by
  apply Nat.eq_of_testBit_eq
  intro j
  rw [bset_bit, Nat.testBit_two_pow_sub_one]
  by_cases hj : j < n
  · rw [h j hj]; simp
  · simp [hj]
theorem nI_not (a : Nat) (ha : a < 2 ^ 31) : nI a ^^^ (-1) = nI (2 ^ 32 - 1 - a) := by
  apply Int32.toBitVec_inj.mp
  show BitVec.ofNat 32 a ^^^ BitVec.ofInt 32 (-1) = BitVec.ofNat 32 (2 ^ 32 - 1 - a)
  rw [show BitVec.ofInt 32 (-1) = BitVec.allOnes 32 from by decide, BitVec.xor_allOnes]
  apply BitVec.eq_of_toNat_eq
  rw [BitVec.toNat_not, BitVec.toNat_ofNat, BitVec.toNat_ofNat]
  omega
theorem bset_del {p q : Nat → Bool} {n t : Nat} (hn : n ≤ 31) (ht : t < 31) (h1 : ∀ k, k < n → k ≠ t → q k = p k) (h2 : t < n → q t = false) : nI (bset p n) &&& ((nI 1 <<< (nI t &&& 31)) ^^^ (-1)) = nI (bset q n) := by
  rw [shl_nI ht, nI_not _ (Nat.pow_lt_pow_right (by decide) ht), and_nI]
  congr 1
  apply Nat.eq_of_testBit_eq
  intro j
  have hb : 2 ^ t < 2 ^ 32 := Nat.pow_lt_pow_right (by decide) (by omega)
  rw [Nat.testBit_and, show 2 ^ 32 - 1 - 2 ^ t = 2 ^ 32 - (2 ^ t + 1) by omega, Nat.testBit_two_pow_sub_succ hb, Nat.testBit_two_pow, bset_bit, bset_bit]
  by_cases hj : j < n
  · have : j < 32 := by omega
    by_cases e : j = t
    · subst e; rw [h2 hj]; simp
    · rw [h1 j hj e]; simp [hj, this, Ne.symm e]
  · simp [hj]
set_option maxHeartbeats 1000000 in
theorem p_silent {h : Hp} (i : Inv h) : Pas mX8_silent mX9_silent [.ref 0, .null, .null, .null] [.ref 72, .null, .null] h := by
  refine Pas.read (r := .int (nI (bset (qt (ms h) (cB (ms h) (-1) (nN (ms h))) (nN (ms h))) (nT (ms h))))) (r2 := .int (nI (bset (qt (ms h) (cB (ms h) (-1) (nN (ms h))) (nN (ms h))) (nT (ms h))))) (h1 := h) (h2 := sI h 82 (dcR (ms h) (-1) (h.1 82) (nN (ms h)))) i rfl (Same.rf _) ((Same.rf _).si (by decide) (by decide) (by decide)) ?_ ?_
  · have lT := i.lT
    have lN := i.lN
    have key := loopG (P := fun t => Gd mX8_silent 13 [.ref 0, .int (nI (cS (ms h) (-1))), .int (nI (bset (qt (ms h) (cB (ms h) (-1) (nN (ms h))) (nN (ms h))) t)), .int (nI t)] [] h (some (.int (nI (bset (qt (ms h) (cB (ms h) (-1) (nN (ms h))) (nN (ms h))) (nT (ms h))))), h)) (n := nT (ms h)) ?_ ?_ 0 (by omega)
    · refine gd_ald0 dX8_silent_0 (by decide) ?_
      refine gd_getR (r := 1) dX8_silent_1 fl_8_12 rfl rfl rfl (by decide) ?_
      refine gd_icm1 dX8_silent_4 ?_
      refine gd_cV1i dX8_silent_5 ct_8_114 rc_1 ⟨Nat.le_of_ble_eq_true rfl, Nat.le_of_ble_eq_true rfl⟩ (Nat.le_of_ble_eq_true rfl) (Nat.le_of_ble_eq_true rfl) (c_counting i.w i.c _) ?_
      refine gd_ist1 dX8_silent_8 rfl ?_
      refine gd_ic0 dX8_silent_9 ?_
      refine gd_ist2 dX8_silent_10 rfl ?_
      refine gd_ic0 dX8_silent_11 ?_
      refine gd_ist3 dX8_silent_12 rfl ?_
      exact key
    · refine gd_ild3 dX8_silent_13 ?_
      refine gd_ald0 dX8_silent_14 (by decide) ?_
      refine gd_getR (r := 1) dX8_silent_15 fl_8_12 rfl rfl rfl (by decide) ?_
      refine gd_getR (r := 2) dX8_silent_18 fl_8_57 rfl rfl rfl (by decide) ?_
      refine gd_getI dX8_silent_21 fl_8_66 rfl rfl ?_
      refine gd_icmp_ge_t 54 dX8_silent_24 (by decide) (by rw [i.cT]; exact nI_le (by omega) (by omega)) ?_
      refine gd_ild2 dX8_silent_54 ?_
      refine gd_iret dX8_silent_55 rfl rfl ?_
      rfl
    · intro t ht ih
      have ec : cntN (tls (ms h) (cS (ms h) (-1)).testBit t) (nN (ms h)) = cntN (tls (ms h) (cB (ms h) (-1) (nN (ms h))) t) (nN (ms h)) := cntN_congr (fun k hk => by unfold tls; rw [cS_bit hk])
      have cl := cntN_le (tls (ms h) (cB (ms h) (-1) (nN (ms h))) t) (nN (ms h))
      by_cases z : cntN (tls (ms h) (cB (ms h) (-1) (nN (ms h))) t) (nN (ms h)) = 0
      · have hp : qt (ms h) (cB (ms h) (-1) (nN (ms h))) (nN (ms h)) t = true := by rw [qt_cnt]; exact decide_eq_true z
        refine gd_ild3 dX8_silent_13 ?_
        refine gd_ald0 dX8_silent_14 (by decide) ?_
        refine gd_getR (r := 1) dX8_silent_15 fl_8_12 rfl rfl rfl (by decide) ?_
        refine gd_getR (r := 2) dX8_silent_18 fl_8_57 rfl rfl rfl (by decide) ?_
        refine gd_getI dX8_silent_21 fl_8_66 rfl rfl ?_
        refine gd_icmp_ge_f 54 dX8_silent_24 (by decide) (by rw [i.cT]; exact nI_ge (by omega) (by omega)) ?_
        refine gd_ald0 dX8_silent_27 (by decide) ?_
        refine gd_getR (r := 1) dX8_silent_28 fl_8_12 rfl rfl rfl (by decide) ?_
        refine gd_getR (r := 6) dX8_silent_31 fl_8_100 rfl rfl rfl (by decide) ?_
        refine gd_ild3 dX8_silent_34 ?_
        refine gd_ild1 dX8_silent_35 ?_
        refine gd_cV2i dX8_silent_36 ct_8_110 rc_6 ⟨Nat.le_of_ble_eq_true rfl, Nat.le_of_ble_eq_true rfl⟩ (Nat.le_of_ble_eq_true rfl) (Nat.le_of_ble_eq_true rfl) (c_countOf i.w i.c (by omega) (by have := cS_lt i.w (-1); omega)) ?_
        rw [ec]
        refine gd_if_ne_f 48 dX8_silent_39 (by decide) (by rw [z]; decide) ?_
        refine gd_ild2 dX8_silent_42 ?_
        refine gd_ic1 dX8_silent_43 ?_
        refine gd_ild3 dX8_silent_44 ?_
        refine gd_ishl dX8_silent_45 ?_
        refine gd_ior dX8_silent_46 ?_
        rw [bset_or hp (by omega)]
        refine gd_ist2 dX8_silent_47 rfl ?_
        refine gd_iinc3 (b := nI 1) dX8_silent_48 (by decide) rfl ?_
        rw [nI_add]
        refine gd_goto 13 dX8_silent_51 (by decide) ?_
        exact ih
      · have hp : qt (ms h) (cB (ms h) (-1) (nN (ms h))) (nN (ms h)) t = false := by rw [qt_cnt]; exact decide_eq_false z
        rw [bset_no hp] at ih
        refine gd_ild3 dX8_silent_13 ?_
        refine gd_ald0 dX8_silent_14 (by decide) ?_
        refine gd_getR (r := 1) dX8_silent_15 fl_8_12 rfl rfl rfl (by decide) ?_
        refine gd_getR (r := 2) dX8_silent_18 fl_8_57 rfl rfl rfl (by decide) ?_
        refine gd_getI dX8_silent_21 fl_8_66 rfl rfl ?_
        refine gd_icmp_ge_f 54 dX8_silent_24 (by decide) (by rw [i.cT]; exact nI_ge (by omega) (by omega)) ?_
        refine gd_ald0 dX8_silent_27 (by decide) ?_
        refine gd_getR (r := 1) dX8_silent_28 fl_8_12 rfl rfl rfl (by decide) ?_
        refine gd_getR (r := 6) dX8_silent_31 fl_8_100 rfl rfl rfl (by decide) ?_
        refine gd_ild3 dX8_silent_34 ?_
        refine gd_ild1 dX8_silent_35 ?_
        refine gd_cV2i dX8_silent_36 ct_8_110 rc_6 ⟨Nat.le_of_ble_eq_true rfl, Nat.le_of_ble_eq_true rfl⟩ (Nat.le_of_ble_eq_true rfl) (Nat.le_of_ble_eq_true rfl) (c_countOf i.w i.c (by omega) (by have := cS_lt i.w (-1); omega)) ?_
        rw [ec]
        refine gd_if_ne_t 48 dX8_silent_39 (by decide) (by exact nI_ne0 (by omega) (by omega)) ?_
        refine gd_iinc3 (b := nI 1) dX8_silent_48 (by decide) rfl ?_
        rw [nI_add]
        refine gd_goto 13 dX8_silent_51 (by decide) ?_
        exact ih
  · have lT := i.lT
    have lN := i.lN
    have eN : (sI h 82 (dcR (ms h) (-1) (h.1 82) (nN (ms h)))).1 74 1 = nI (nN (ms h)) := i.mN
    have key := loopG (P := fun l => Gd mX9_silent 18 [.ref 72, .int (nI (bset (qt (ms h) (cB (ms h) (-1) (nN (ms h))) l) (nT (ms h)))), .int (nI l)] [] (sI h 82 (dcR (ms h) (-1) (h.1 82) (nN (ms h)))) (some (.int (nI (bset (qt (ms h) (cB (ms h) (-1) (nN (ms h))) (nN (ms h))) (nT (ms h))))), sI h 82 (dcR (ms h) (-1) (h.1 82) (nN (ms h))))) (n := nN (ms h)) ?_ ?_ 0 (by omega)
    · rw [bset_all (qt (ms h) (cB (ms h) (-1) (nN (ms h))) 0) (nT (ms h)) (fun k hk => rfl)] at key
      refine gd_ald0 dX9_silent_0 (by decide) ?_
      refine gd_icm1 dX9_silent_1 ?_
      refine gd_cV1v dX9_silent_2 ct_9_109 rc_72 ⟨Nat.le_of_ble_eq_true rfl, Nat.le_of_ble_eq_true rfl⟩ (Nat.le_of_ble_eq_true rfl) (Nat.le_of_ble_eq_true rfl) (m_count i.w _) ?_
      refine gd_ic1 dX9_silent_5 ?_
      refine gd_ald0 dX9_silent_6 (by decide) ?_
      refine gd_getR (r := 74) dX9_silent_7 fl_9_13 rfl rfl rfl (by decide) ?_
      refine gd_ic0 dX9_silent_10 ?_
      refine gd_iald (n := 5) dX9_silent_11 rfl (by decide) (by repeat' (first | with_reducible rfl | apply ni_add | apply ni_mul)) (by omega) ?_
      refine gd_ishl dX9_silent_12 ?_
      refine gd_ic1 dX9_silent_13 ?_
      refine gd_isub dX9_silent_14 ?_
      rw [show (sI h 82 (dcR (ms h) (-1) (h.1 82) (nN (ms h)))).1 74 0 = nI (nT (ms h)) from i.mT, every (by omega)]
      refine gd_ist1 dX9_silent_15 rfl ?_
      refine gd_ic0 dX9_silent_16 ?_
      refine gd_ist2 dX9_silent_17 rfl ?_
      exact key
    · refine gd_ild2 dX9_silent_18 ?_
      refine gd_ald0 dX9_silent_19 (by decide) ?_
      refine gd_getR (r := 74) dX9_silent_20 fl_9_13 rfl rfl rfl (by decide) ?_
      refine gd_ic1 dX9_silent_23 ?_
      refine gd_iald (n := 5) dX9_silent_24 rfl (by decide) (by repeat' (first | with_reducible rfl | apply ni_add | apply ni_mul)) (by omega) ?_
      refine gd_icmp_ge_t 60 dX9_silent_25 (by decide) (by rw [eN]; exact nI_le (by omega) (by omega)) ?_
      refine gd_ild1 dX9_silent_60 ?_
      refine gd_iret dX9_silent_61 rfl rfl ?_
      rfl
    · intro l hl ih
      obtain ⟨_, t0, _, _, _, _, _, _, _, a2, _, _, _, _, _, _, _, b2, _⟩ := i.w.l l hl
      cases hb : cB (ms h) (-1) (nN (ms h)) l with
      | false =>
        rw [bset_congr (p := qt (ms h) (cB (ms h) (-1) (nN (ms h))) (l + 1)) (q := qt (ms h) (cB (ms h) (-1) (nN (ms h))) l) (fun k _ => by rw [qt_s]; unfold tls; rw [hb]; simp)] at ih
        refine gd_ild2 dX9_silent_18 ?_
        refine gd_ald0 dX9_silent_19 (by decide) ?_
        refine gd_getR (r := 74) dX9_silent_20 fl_9_13 rfl rfl rfl (by decide) ?_
        refine gd_ic1 dX9_silent_23 ?_
        refine gd_iald (n := 5) dX9_silent_24 rfl (by decide) (by repeat' (first | with_reducible rfl | apply ni_add | apply ni_mul)) (by omega) ?_
        refine gd_icmp_ge_f 60 dX9_silent_25 (by decide) (by rw [eN]; exact nI_ge (by omega) (by omega)) ?_
        refine gd_ild1 dX9_silent_28 ?_
        refine gd_ald0 dX9_silent_29 (by decide) ?_
        refine gd_getR (r := 82) dX9_silent_30 fl_9_37 rfl rfl rfl (by decide) ?_
        refine gd_ild2 dX9_silent_33 ?_
        refine gd_zald (n := 30) dX9_silent_34 rfl (by decide) (by repeat' (first | with_reducible rfl | apply ni_add | apply ni_mul)) (by omega) ?_
        rw [show (sI h 82 (dcR (ms h) (-1) (h.1 82) (nN (ms h)))).1 82 l = bi (cB (ms h) (-1) (nN (ms h)) l) by rw [sI_s]; exact dcR_at hl]
        refine gd_if_eq_t 51 dX9_silent_35 (by decide) (by rw [hb]; decide) ?_
        refine gd_ild1 dX9_silent_51 ?_
        refine gd_iand dX9_silent_52 ?_
        rw [and_nI, Nat.and_self]
        refine gd_ist1 dX9_silent_53 rfl ?_
        refine gd_iinc2 (b := nI 1) dX9_silent_54 (by decide) rfl ?_
        rw [nI_add]
        refine gd_goto 18 dX9_silent_57 (by decide) ?_
        exact ih
      | true =>
        refine gd_ild2 dX9_silent_18 ?_
        refine gd_ald0 dX9_silent_19 (by decide) ?_
        refine gd_getR (r := 74) dX9_silent_20 fl_9_13 rfl rfl rfl (by decide) ?_
        refine gd_ic1 dX9_silent_23 ?_
        refine gd_iald (n := 5) dX9_silent_24 rfl (by decide) (by repeat' (first | with_reducible rfl | apply ni_add | apply ni_mul)) (by omega) ?_
        refine gd_icmp_ge_f 60 dX9_silent_25 (by decide) (by rw [eN]; exact nI_ge (by omega) (by omega)) ?_
        refine gd_ild1 dX9_silent_28 ?_
        refine gd_ald0 dX9_silent_29 (by decide) ?_
        refine gd_getR (r := 82) dX9_silent_30 fl_9_37 rfl rfl rfl (by decide) ?_
        refine gd_ild2 dX9_silent_33 ?_
        refine gd_zald (n := 30) dX9_silent_34 rfl (by decide) (by repeat' (first | with_reducible rfl | apply ni_add | apply ni_mul)) (by omega) ?_
        rw [show (sI h 82 (dcR (ms h) (-1) (h.1 82) (nN (ms h)))).1 82 l = bi (cB (ms h) (-1) (nN (ms h)) l) by rw [sI_s]; exact dcR_at hl]
        refine gd_if_eq_f 51 dX9_silent_35 (by decide) (by rw [hb]; decide) ?_
        refine gd_ic1 dX9_silent_38 ?_
        refine gd_ald0 dX9_silent_39 (by decide) ?_
        refine gd_ild2 dX9_silent_40 ?_
        refine gd_ic1 dX9_silent_41 ?_
        refine gd_cV2i dX9_silent_42 ct_9_120 rc_72 ⟨Nat.le_of_ble_eq_true rfl, Nat.le_of_ble_eq_true rfl⟩ (Nat.le_of_ble_eq_true rfl) (Nat.le_of_ble_eq_true rfl) (m_its (l := l) (w := 1) (by omega) (by decide) _) ?_
        rw [show (sI h 82 (dcR (ms h) (-1) (h.1 82) (nN (ms h)))).1 78 (9 * l + 1) = nI t0 by rw [← a2]; exact (ms_r4 (by omega)).symm]
        refine gd_ishl dX9_silent_45 ?_
        refine gd_icm1 dX9_silent_46 ?_
        refine gd_ixor dX9_silent_47 ?_
        refine gd_goto 52 dX9_silent_48 (by decide) ?_
        refine gd_iand dX9_silent_52 ?_
        rw [bset_del (q := qt (ms h) (cB (ms h) (-1) (nN (ms h))) (l + 1)) (by omega) (by omega) (fun k hk hne => by rw [qt_s]; unfold tls; rw [hb, a2, decide_eq_false (fun z => hne ((nI_eq (by omega) (by omega)).mp z).symm)]; simp) (fun _ => by rw [qt_s]; unfold tls; rw [hb, a2]; simp)]
        refine gd_ist1 dX9_silent_53 rfl ?_
        refine gd_iinc2 (b := nI 1) dX9_silent_54 (by decide) rfl ?_
        rw [nI_add]
        refine gd_goto 18 dX9_silent_57 (by decide) ?_
        exact ih
