
/-! ===== roots ===== -/
def rt (s : Nat → Nat → Int32) : Nat → Nat → Nat
  | 0, l => l
  | f + 1, l => if s 4 (9 * l + 7) = -1 then l else rt s f (tn (s 4 (9 * l + 7)))
theorem rt_n {s : Nat → Nat → Int32} {f l : Nat} (e : s 4 (9 * l + 7) = -1) : rt s (f + 1) l = l := by rw [rt, if_pos e]
theorem rt_s {s : Nat → Nat → Int32} {f l j : Nat} (hj : j < 2 ^ 31) (e : s 4 (9 * l + 7) = nI j) : rt s (f + 1) l = rt s f j := by
  rw [rt, if_neg (fun z => by rw [e] at z; have := nI_pos (n := j) hj; rw [z] at this; exact this (by decide)), e, tn_nI hj]
theorem WF.src {s : Nat → Nat → Int32} (w : WF s) {l : Nat} (hl : l < nN s) : s 4 (9 * l + 7) = -1 ∨ ∃ j, j < l ∧ s 4 (9 * l + 7) = nI j := by
  obtain ⟨_, _, _, _, _, _, _, _, _, _, _, _, _, _, _, _, _, _, _, _, _, _, _, _, b, _⟩ := w.l l hl
  exact b
theorem rt_lt {s : Nat → Nat → Int32} (w : WF s) : ∀ (f l : Nat), l < nN s → rt s f l < nN s
  | 0, l, hl => hl
  | f + 1, l, hl => by
    rcases w.src hl with e | ⟨j, hj, e⟩
    · rw [rt_n e]; exact hl
    · have := w.n.2; rw [rt_s (by omega) e]; exact rt_lt w f j (by omega)

theorem lp_root {h : Hp} {s : Nat → Nat → Int32} (w : WF s) (c : CR h 1 s) {u : Int32} : ∀ (f l j : Nat), l < f → l < nN s → l + j ≤ 29 → Gd mX1_rootOf 4 [.ref 6, .int u, .int (nI l), .int (nI j)] [] h (some (.int (nI (rt s f l))), h)
  | 0, l, j, hf, _, _ => absurd hf (by omega)
  | f + 1, l, j, hf, hl, hj => by
    have lN := w.n.2
    rcases w.src hl with e | ⟨q, hq, e⟩
    · refine gd_ild3 dX1_rootOf_4 ?_
      refine gd_bipush (v := nI 30) dX1_rootOf_5 (by decide) ?_
      refine gd_icmp_ge_f 32 dX1_rootOf_7 (by decide) (by exact nI_ge (by omega) (by omega)) ?_
      refine gd_ald0 dX1_rootOf_10 (by decide) ?_
      refine gd_getR (r := 13) dX1_rootOf_11 fl_1_30 rfl rfl rfl (by decide) ?_
      refine gd_ild2 dX1_rootOf_14 ?_
      refine gd_iald (n := 30) dX1_rootOf_15 rfl (by decide) (by repeat' (first | with_reducible rfl | apply ni_add | apply ni_mul)) (by omega) ?_
      rw [c.lf1 l hl, e]
      refine gd_if_lt_t 32 dX1_rootOf_16 (by decide) (by decide) ?_
      refine gd_ild2 dX1_rootOf_32 ?_
      refine gd_iret dX1_rootOf_33 rfl rfl ?_
      rw [rt_n e]
    · refine gd_ild3 dX1_rootOf_4 ?_
      refine gd_bipush (v := nI 30) dX1_rootOf_5 (by decide) ?_
      refine gd_icmp_ge_f 32 dX1_rootOf_7 (by decide) (by exact nI_ge (by omega) (by omega)) ?_
      refine gd_ald0 dX1_rootOf_10 (by decide) ?_
      refine gd_getR (r := 13) dX1_rootOf_11 fl_1_30 rfl rfl rfl (by decide) ?_
      refine gd_ild2 dX1_rootOf_14 ?_
      refine gd_iald (n := 30) dX1_rootOf_15 rfl (by decide) (by repeat' (first | with_reducible rfl | apply ni_add | apply ni_mul)) (by omega) ?_
      rw [c.lf1 l hl, e]
      refine gd_if_lt_f 32 dX1_rootOf_16 (by decide) (by exact nI_pos (by omega)) ?_
      refine gd_ald0 dX1_rootOf_19 (by decide) ?_
      refine gd_getR (r := 13) dX1_rootOf_20 fl_1_30 rfl rfl rfl (by decide) ?_
      refine gd_ild2 dX1_rootOf_23 ?_
      refine gd_iald (n := 30) dX1_rootOf_24 rfl (by decide) (by repeat' (first | with_reducible rfl | apply ni_add | apply ni_mul)) (by omega) ?_
      rw [c.lf1 l hl, e]
      refine gd_ist2 dX1_rootOf_25 rfl ?_
      refine gd_iinc3 (b := nI 1) dX1_rootOf_26 (by decide) rfl ?_
      rw [nI_add]
      refine gd_goto 4 dX1_rootOf_29 (by decide) ?_
      rw [rt_s (by omega) e]
      exact lp_root w c f q (j + 1) (by omega) (by omega) (by omega)
theorem c_rootOf {h : Hp} {s : Nat → Nat → Int32} (w : WF s) (c : CR h 1 s) {l : Nat} (hl : l < nN s) : Gd mX1_rootOf 0 [.ref 6, .int (nI l), .null, .null] [] h (some (.int (nI (rt s 30 l))), h) := by
  have lN := w.n.2
  refine gd_ild1 dX1_rootOf_0 ?_
  refine gd_ist2 dX1_rootOf_1 rfl ?_
  refine gd_ic0 dX1_rootOf_2 ?_
  refine gd_ist3 dX1_rootOf_3 rfl ?_
  exact lp_root w c 30 l 0 (by omega) hl (by omega)
theorem lp_mroot {h : Hp} (w : WF (ms h)) {u : Int32} : ∀ (f l : Nat), l < f → l < nN (ms h) → Gd mX9_rootOf 2 [.ref 72, .int u, .int (nI l)] [] h (some (.int (nI (rt (ms h) f l))), h)
  | 0, l, hf, _ => absurd hf (by omega)
  | f + 1, l, hf, hl => by
    have lN := w.n.2
    rcases w.src hl with e | ⟨q, hq, e⟩
    · refine gd_ald0 dX9_rootOf_2 (by decide) ?_
      refine gd_ild2 dX9_rootOf_3 ?_
      refine gd_bipush (v := nI 7) dX9_rootOf_4 (by decide) ?_
      refine gd_cV2i dX9_rootOf_6 ct_9_120 rc_72 ⟨Nat.le_of_ble_eq_true rfl, Nat.le_of_ble_eq_true rfl⟩ (Nat.le_of_ble_eq_true rfl) (Nat.le_of_ble_eq_true rfl) (m_its (l := l) (w := 7) (by omega) (by decide) _) ?_
      rw [← ms_r4 (by omega), e]
      refine gd_if_lt_t 23 dX9_rootOf_9 (by decide) (by decide) ?_
      refine gd_ild2 dX9_rootOf_23 ?_
      refine gd_iret dX9_rootOf_24 rfl rfl ?_
      rw [rt_n e]
    · refine gd_ald0 dX9_rootOf_2 (by decide) ?_
      refine gd_ild2 dX9_rootOf_3 ?_
      refine gd_bipush (v := nI 7) dX9_rootOf_4 (by decide) ?_
      refine gd_cV2i dX9_rootOf_6 ct_9_120 rc_72 ⟨Nat.le_of_ble_eq_true rfl, Nat.le_of_ble_eq_true rfl⟩ (Nat.le_of_ble_eq_true rfl) (Nat.le_of_ble_eq_true rfl) (m_its (l := l) (w := 7) (by omega) (by decide) _) ?_
      rw [← ms_r4 (by omega), e]
      refine gd_if_lt_f 23 dX9_rootOf_9 (by decide) (by exact nI_pos (by omega)) ?_
      refine gd_ald0 dX9_rootOf_12 (by decide) ?_
      refine gd_ild2 dX9_rootOf_13 ?_
      refine gd_bipush (v := nI 7) dX9_rootOf_14 (by decide) ?_
      refine gd_cV2i dX9_rootOf_16 ct_9_120 rc_72 ⟨Nat.le_of_ble_eq_true rfl, Nat.le_of_ble_eq_true rfl⟩ (Nat.le_of_ble_eq_true rfl) (Nat.le_of_ble_eq_true rfl) (m_its (l := l) (w := 7) (by omega) (by decide) _) ?_
      rw [← ms_r4 (by omega), e]
      refine gd_ist2 dX9_rootOf_19 rfl ?_
      refine gd_goto 2 dX9_rootOf_20 (by decide) ?_
      rw [rt_s (by omega) e]
      exact lp_mroot w f q (by omega) (by omega)
theorem m_rootOf {h : Hp} (w : WF (ms h)) {l : Nat} (hl : l < nN (ms h)) : Gd mX9_rootOf 0 [.ref 72, .int (nI l), .null] [] h (some (.int (nI (rt (ms h) 30 l))), h) := by
  have lN := w.n.2
  refine gd_ild1 dX9_rootOf_0 ?_
  refine gd_ist2 dX9_rootOf_1 rfl ?_
  exact lp_mroot w 30 l (by omega) hl
set_option maxHeartbeats 1000000 in
theorem p_root {h : Hp} (i : Inv h) (a : Int32) : Pas mX8_root mX9_root [.ref 0, .int a] [.ref 72, .int a] h := by
  rcases rng a (nN (ms h)) (by have := i.lN; omega) with ⟨l, hl, rfl⟩ | ha
  · refine Pas.read (r := .int (nI (rt (ms h) 30 l))) (r2 := .int (nI (rt (ms h) 30 l))) (h1 := h) (h2 := h) i rfl (Same.rf _) (Same.rf _) ?_ ?_
    · refine gd_ald0 dX8_root_0 (by decide) ?_
      refine gd_ild1 dX8_root_1 ?_
      refine gd_cV1i dX8_root_2 ct_8_142 rc_0 ⟨Nat.le_of_ble_eq_true rfl, Nat.le_of_ble_eq_true rfl⟩ (Nat.le_of_ble_eq_true rfl) (Nat.le_of_ble_eq_true rfl) (c_isLetter_t i.w i.c hl) ?_
      refine gd_if_ne_t 15 dX8_root_5 (by decide) (by decide) ?_
      refine gd_ald0 dX8_root_15 (by decide) ?_
      refine gd_getR (r := 1) dX8_root_16 fl_8_12 rfl rfl rfl (by decide) ?_
      refine gd_getR (r := 6) dX8_root_19 fl_8_100 rfl rfl rfl (by decide) ?_
      refine gd_ild1 dX8_root_22 ?_
      refine gd_cV1i dX8_root_23 ct_8_165 rc_6 ⟨Nat.le_of_ble_eq_true rfl, Nat.le_of_ble_eq_true rfl⟩ (Nat.le_of_ble_eq_true rfl) (Nat.le_of_ble_eq_true rfl) (c_rootOf i.w i.c hl) ?_
      refine gd_iret dX8_root_26 rfl rfl ?_
      rfl
    · refine gd_ald0 dX9_root_0 (by decide) ?_
      refine gd_ild1 dX9_root_1 ?_
      refine gd_cV1i dX9_root_2 ct_9_113 rc_72 ⟨Nat.le_of_ble_eq_true rfl, Nat.le_of_ble_eq_true rfl⟩ (Nat.le_of_ble_eq_true rfl) (Nat.le_of_ble_eq_true rfl) (m_isLetter_t (h := h) (by exact i.w) hl) ?_
      refine gd_if_eq_f 16 dX9_root_5 (by decide) (by decide) ?_
      refine gd_ald0 dX9_root_8 (by decide) ?_
      refine gd_ild1 dX9_root_9 ?_
      refine gd_cV1i dX9_root_10 ct_9_136 rc_72 ⟨Nat.le_of_ble_eq_true rfl, Nat.le_of_ble_eq_true rfl⟩ (Nat.le_of_ble_eq_true rfl) (Nat.le_of_ble_eq_true rfl) (m_rootOf i.w hl) ?_
      refine gd_goto 21 dX9_root_13 (by decide) ?_
      refine gd_iret dX9_root_21 rfl rfl ?_
      rfl
  · refine Pas.find (h1 := h) (h2 := hf (h) 0) (v := -1000000001) (w := (-1000000000 : Int32) - nI 1) 0 i (by decide) (by decide) (by decide) (Same.rf _) (Same.rf _) ?_ ?_
    · refine gd_ald0 dX8_root_0 (by decide) ?_
      refine gd_ild1 dX8_root_1 ?_
      refine gd_cV1i dX8_root_2 ct_8_142 rc_0 ⟨Nat.le_of_ble_eq_true rfl, Nat.le_of_ble_eq_true rfl⟩ (Nat.le_of_ble_eq_true rfl) (Nat.le_of_ble_eq_true rfl) (c_isLetter_f i.w i.c ha) ?_
      refine gd_if_ne_f 15 dX8_root_5 (by decide) (by decide) ?_
      refine gd_ald0 dX8_root_8 (by decide) ?_
      refine gd_ldc dX8_root_9 ld_8_52 ?_
      refine gd_cV1i dX8_root_11 ct_8_53 rc_0 ⟨Nat.le_of_ble_eq_true rfl, Nat.le_of_ble_eq_true rfl⟩ (Nat.le_of_ble_eq_true rfl) (Nat.le_of_ble_eq_true rfl) (c_f0 _) ?_
      refine gd_iret dX8_root_14 rfl rfl ?_
      rfl
    · refine gd_ald0 dX9_root_0 (by decide) ?_
      refine gd_ild1 dX9_root_1 ?_
      refine gd_cV1i dX9_root_2 ct_9_113 rc_72 ⟨Nat.le_of_ble_eq_true rfl, Nat.le_of_ble_eq_true rfl⟩ (Nat.le_of_ble_eq_true rfl) (Nat.le_of_ble_eq_true rfl) (m_isLetter_f (h := hf h 0) (by exact i.w) ha) ?_
      refine gd_if_eq_t 16 dX9_root_5 (by decide) (by decide) ?_
      refine gd_ald0 dX9_root_16 (by decide) ?_
      refine gd_ic1 dX9_root_17 ?_
      refine gd_cV1i dX9_root_18 ct_9_97 rc_72 ⟨Nat.le_of_ble_eq_true rfl, Nat.le_of_ble_eq_true rfl⟩ (Nat.le_of_ble_eq_true rfl) (Nat.le_of_ble_eq_true rfl) (m_f0 _) ?_
      refine gd_iret dX9_root_21 rfl rfl ?_
      rfl
theorem c_treeOf {h : Hp} {s : Nat → Nat → Int32} (w : WF s) (c : CR h 1 s) {l : Nat} (hl : l < nN s) : Gd mX1_treeOf 0 [.ref 6, .int (nI l), .null, .null, .null] [] h (some (.int (nI (bset (fun o => decide (rt s 30 o = rt s 30 l)) (nN s)))), h) := by
  have lN := w.n.2
  have rl := rt_lt w 30 l hl
  have key := loopG (P := fun j => Gd mX1_treeOf 11 [.ref 6, .int (nI l), .int (nI (rt s 30 l)), .int (nI (bset (fun o => decide (rt s 30 o = rt s 30 l)) j)), .int (nI j)] [] h (some (.int (nI (bset (fun o => decide (rt s 30 o = rt s 30 l)) (nN s)))), h)) (n := nN s) ?_ ?_ 0 (by omega)
  · refine gd_ald0 dX1_treeOf_0 (by decide) ?_
    refine gd_ild1 dX1_treeOf_1 ?_
    refine gd_cV1i dX1_treeOf_2 ct_1_56 rc_6 ⟨Nat.le_of_ble_eq_true rfl, Nat.le_of_ble_eq_true rfl⟩ (Nat.le_of_ble_eq_true rfl) (Nat.le_of_ble_eq_true rfl) (c_rootOf w c hl) ?_
    refine gd_ist2 dX1_treeOf_5 rfl ?_
    refine gd_ic0 dX1_treeOf_6 ?_
    refine gd_ist3 dX1_treeOf_7 rfl ?_
    refine gd_ic0 dX1_treeOf_8 ?_
    refine gd_ist4 dX1_treeOf_9 rfl ?_
    exact key
  · refine gd_ild4 dX1_treeOf_11 ?_
    refine gd_ald0 dX1_treeOf_13 (by decide) ?_
    refine gd_getI dX1_treeOf_14 fl_1_40 rfl rfl ?_
    refine gd_icmp_ge_t 43 dX1_treeOf_17 (by decide) (by rw [c.n1, w.n.1]; exact nI_le (by omega) (by omega)) ?_
    refine gd_ild3 dX1_treeOf_43 ?_
    refine gd_iret dX1_treeOf_44 rfl rfl ?_
    rfl
  · intro j hj ih
    have rj := rt_lt w 30 j hj
    by_cases e : rt s 30 j = rt s 30 l
    · refine gd_ild4 dX1_treeOf_11 ?_
      refine gd_ald0 dX1_treeOf_13 (by decide) ?_
      refine gd_getI dX1_treeOf_14 fl_1_40 rfl rfl ?_
      refine gd_icmp_ge_f 43 dX1_treeOf_17 (by decide) (by rw [c.n1, w.n.1]; exact nI_ge (by omega) (by omega)) ?_
      refine gd_ald0 dX1_treeOf_20 (by decide) ?_
      refine gd_ild4 dX1_treeOf_21 ?_
      refine gd_cV1i dX1_treeOf_23 ct_1_56 rc_6 ⟨Nat.le_of_ble_eq_true rfl, Nat.le_of_ble_eq_true rfl⟩ (Nat.le_of_ble_eq_true rfl) (Nat.le_of_ble_eq_true rfl) (c_rootOf w c hj) ?_
      refine gd_ild2 dX1_treeOf_26 ?_
      refine gd_icmp_ne_f 37 dX1_treeOf_27 (by decide) (by exact (nI_eq (by omega) (by omega)).mpr (by omega)) ?_
      refine gd_ild3 dX1_treeOf_30 ?_
      refine gd_ic1 dX1_treeOf_31 ?_
      refine gd_ild4 dX1_treeOf_32 ?_
      refine gd_ishl dX1_treeOf_34 ?_
      refine gd_ior dX1_treeOf_35 ?_
      rw [bset_or (p := fun o => decide (rt s 30 o = rt s 30 l)) (decide_eq_true e) (by omega)]
      refine gd_ist3 dX1_treeOf_36 rfl ?_
      refine gd_iinc4 (b := nI 1) dX1_treeOf_37 (by decide) rfl ?_
      rw [nI_add]
      refine gd_goto 11 dX1_treeOf_40 (by decide) ?_
      exact ih
    · refine gd_ild4 dX1_treeOf_11 ?_
      refine gd_ald0 dX1_treeOf_13 (by decide) ?_
      refine gd_getI dX1_treeOf_14 fl_1_40 rfl rfl ?_
      refine gd_icmp_ge_f 43 dX1_treeOf_17 (by decide) (by rw [c.n1, w.n.1]; exact nI_ge (by omega) (by omega)) ?_
      refine gd_ald0 dX1_treeOf_20 (by decide) ?_
      refine gd_ild4 dX1_treeOf_21 ?_
      refine gd_cV1i dX1_treeOf_23 ct_1_56 rc_6 ⟨Nat.le_of_ble_eq_true rfl, Nat.le_of_ble_eq_true rfl⟩ (Nat.le_of_ble_eq_true rfl) (Nat.le_of_ble_eq_true rfl) (c_rootOf w c hj) ?_
      refine gd_ild2 dX1_treeOf_26 ?_
      refine gd_icmp_ne_t 37 dX1_treeOf_27 (by decide) (by exact fun z => absurd ((nI_eq (by omega) (by omega)).mp z) (by omega)) ?_
      refine gd_iinc4 (b := nI 1) dX1_treeOf_37 (by decide) rfl ?_
      rw [nI_add]
      refine gd_goto 11 dX1_treeOf_40 (by decide) ?_
      rw [bset_no (p := fun o => decide (rt s 30 o = rt s 30 l)) (decide_eq_false e)] at ih
      exact ih
theorem lp_tree {h : Hp} (w : WF (ms h)) {l : Nat} (hl : l < nN (ms h)) : Gd mX9_tree 18 [.ref 72, .int (nI l), .int (nI 0), .int (nI 0)] [] h (some (.int (nI (bset (fun o => decide (rt (ms h) 30 o = rt (ms h) 30 l)) (nN (ms h))))), h) := by
  have lN := w.n.2
  have eN : h.1 74 1 = nI (nN (ms h)) := by rw [← w.n.1, ms_r0 (by decide)]
  have rl := rt_lt w 30 l hl
  refine loopG (P := fun j => Gd mX9_tree 18 [.ref 72, .int (nI l), .int (nI (bset (fun o => decide (rt (ms h) 30 o = rt (ms h) 30 l)) j)), .int (nI j)] [] h (some (.int (nI (bset (fun o => decide (rt (ms h) 30 o = rt (ms h) 30 l)) (nN (ms h))))), h)) (n := nN (ms h)) ?_ ?_ 0 (by omega)
  · refine gd_ild3 dX9_tree_18 ?_
    refine gd_ald0 dX9_tree_19 (by decide) ?_
    refine gd_getR (r := 74) dX9_tree_20 fl_9_13 rfl rfl rfl (by decide) ?_
    refine gd_ic1 dX9_tree_23 ?_
    refine gd_iald (n := 5) dX9_tree_24 rfl (by decide) (by repeat' (first | with_reducible rfl | apply ni_add | apply ni_mul)) (by omega) ?_
    refine gd_icmp_ge_t 57 dX9_tree_25 (by decide) (by rw [eN]; exact nI_le (by omega) (by omega)) ?_
    refine gd_ild2 dX9_tree_57 ?_
    refine gd_iret dX9_tree_58 rfl rfl ?_
    rfl
  · intro j hj ih
    have rj := rt_lt w 30 j hj
    by_cases e : rt (ms h) 30 j = rt (ms h) 30 l
    · refine gd_ild3 dX9_tree_18 ?_
      refine gd_ald0 dX9_tree_19 (by decide) ?_
      refine gd_getR (r := 74) dX9_tree_20 fl_9_13 rfl rfl rfl (by decide) ?_
      refine gd_ic1 dX9_tree_23 ?_
      refine gd_iald (n := 5) dX9_tree_24 rfl (by decide) (by repeat' (first | with_reducible rfl | apply ni_add | apply ni_mul)) (by omega) ?_
      refine gd_icmp_ge_f 57 dX9_tree_25 (by decide) (by rw [eN]; exact nI_ge (by omega) (by omega)) ?_
      refine gd_ild2 dX9_tree_28 ?_
      refine gd_ald0 dX9_tree_29 (by decide) ?_
      refine gd_ild3 dX9_tree_30 ?_
      refine gd_cV1i dX9_tree_31 ct_9_136 rc_72 ⟨Nat.le_of_ble_eq_true rfl, Nat.le_of_ble_eq_true rfl⟩ (Nat.le_of_ble_eq_true rfl) (Nat.le_of_ble_eq_true rfl) (m_rootOf w hj) ?_
      refine gd_ald0 dX9_tree_34 (by decide) ?_
      refine gd_ild1 dX9_tree_35 ?_
      refine gd_cV1i dX9_tree_36 ct_9_136 rc_72 ⟨Nat.le_of_ble_eq_true rfl, Nat.le_of_ble_eq_true rfl⟩ (Nat.le_of_ble_eq_true rfl) (Nat.le_of_ble_eq_true rfl) (m_rootOf w hl) ?_
      refine gd_icmp_ne_f 48 dX9_tree_39 (by decide) (by exact (nI_eq (by omega) (by omega)).mpr (by omega)) ?_
      refine gd_ic1 dX9_tree_42 ?_
      refine gd_ild3 dX9_tree_43 ?_
      refine gd_ishl dX9_tree_44 ?_
      refine gd_goto 49 dX9_tree_45 (by decide) ?_
      refine gd_ior dX9_tree_49 ?_
      rw [bset_or (p := fun o => decide (rt (ms h) 30 o = rt (ms h) 30 l)) (decide_eq_true e) (by omega)]
      refine gd_ist2 dX9_tree_50 rfl ?_
      refine gd_iinc3 (b := nI 1) dX9_tree_51 (by decide) rfl ?_
      rw [nI_add]
      refine gd_goto 18 dX9_tree_54 (by decide) ?_
      exact ih
    · refine gd_ild3 dX9_tree_18 ?_
      refine gd_ald0 dX9_tree_19 (by decide) ?_
      refine gd_getR (r := 74) dX9_tree_20 fl_9_13 rfl rfl rfl (by decide) ?_
      refine gd_ic1 dX9_tree_23 ?_
      refine gd_iald (n := 5) dX9_tree_24 rfl (by decide) (by repeat' (first | with_reducible rfl | apply ni_add | apply ni_mul)) (by omega) ?_
      refine gd_icmp_ge_f 57 dX9_tree_25 (by decide) (by rw [eN]; exact nI_ge (by omega) (by omega)) ?_
      refine gd_ild2 dX9_tree_28 ?_
      refine gd_ald0 dX9_tree_29 (by decide) ?_
      refine gd_ild3 dX9_tree_30 ?_
      refine gd_cV1i dX9_tree_31 ct_9_136 rc_72 ⟨Nat.le_of_ble_eq_true rfl, Nat.le_of_ble_eq_true rfl⟩ (Nat.le_of_ble_eq_true rfl) (Nat.le_of_ble_eq_true rfl) (m_rootOf w hj) ?_
      refine gd_ald0 dX9_tree_34 (by decide) ?_
      refine gd_ild1 dX9_tree_35 ?_
      refine gd_cV1i dX9_tree_36 ct_9_136 rc_72 ⟨Nat.le_of_ble_eq_true rfl, Nat.le_of_ble_eq_true rfl⟩ (Nat.le_of_ble_eq_true rfl) (Nat.le_of_ble_eq_true rfl) (m_rootOf w hl) ?_
      refine gd_icmp_ne_t 48 dX9_tree_39 (by decide) (by exact fun z => absurd ((nI_eq (by omega) (by omega)).mp z) (by omega)) ?_
      refine gd_ic0 dX9_tree_48 ?_
      refine gd_ior dX9_tree_49 ?_
      rw [or_nI, Nat.or_zero]
      refine gd_ist2 dX9_tree_50 rfl ?_
      refine gd_iinc3 (b := nI 1) dX9_tree_51 (by decide) rfl ?_
      rw [nI_add]
      refine gd_goto 18 dX9_tree_54 (by decide) ?_
      rw [bset_no (p := fun o => decide (rt (ms h) 30 o = rt (ms h) 30 l)) (decide_eq_false e)] at ih
      exact ih
set_option maxHeartbeats 1000000 in
theorem p_tree {h : Hp} (i : Inv h) (a : Int32) : Pas mX8_tree mX9_tree [.ref 0, .int a] [.ref 72, .int a, .null, .null] h := by
  rcases rng a (nN (ms h)) (by have := i.lN; omega) with ⟨l, hl, rfl⟩ | ha
  · refine Pas.read (r := .int (nI (bset (fun o => decide (rt (ms h) 30 o = rt (ms h) 30 l)) (nN (ms h))))) (r2 := .int (nI (bset (fun o => decide (rt (ms h) 30 o = rt (ms h) 30 l)) (nN (ms h))))) (h1 := h) (h2 := h) i rfl (Same.rf _) (Same.rf _) ?_ ?_
    · refine gd_ald0 dX8_tree_0 (by decide) ?_
      refine gd_ild1 dX8_tree_1 ?_
      refine gd_cV1i dX8_tree_2 ct_8_142 rc_0 ⟨Nat.le_of_ble_eq_true rfl, Nat.le_of_ble_eq_true rfl⟩ (Nat.le_of_ble_eq_true rfl) (Nat.le_of_ble_eq_true rfl) (c_isLetter_t i.w i.c hl) ?_
      refine gd_if_ne_t 15 dX8_tree_5 (by decide) (by decide) ?_
      refine gd_ald0 dX8_tree_15 (by decide) ?_
      refine gd_getR (r := 1) dX8_tree_16 fl_8_12 rfl rfl rfl (by decide) ?_
      refine gd_getR (r := 6) dX8_tree_19 fl_8_100 rfl rfl rfl (by decide) ?_
      refine gd_ild1 dX8_tree_22 ?_
      refine gd_cV1i dX8_tree_23 ct_8_168 rc_6 ⟨Nat.le_of_ble_eq_true rfl, Nat.le_of_ble_eq_true rfl⟩ (Nat.le_of_ble_eq_true rfl) (Nat.le_of_ble_eq_true rfl) (c_treeOf i.w i.c hl) ?_
      refine gd_iret dX8_tree_26 rfl rfl ?_
      rfl
    · refine gd_ald0 dX9_tree_0 (by decide) ?_
      refine gd_ild1 dX9_tree_1 ?_
      refine gd_cV1i dX9_tree_2 ct_9_113 rc_72 ⟨Nat.le_of_ble_eq_true rfl, Nat.le_of_ble_eq_true rfl⟩ (Nat.le_of_ble_eq_true rfl) (Nat.le_of_ble_eq_true rfl) (m_isLetter_t (h := h) (by exact i.w) hl) ?_
      refine gd_if_ne_t 14 dX9_tree_5 (by decide) (by decide) ?_
      refine gd_ic0 dX9_tree_14 ?_
      refine gd_ist2 dX9_tree_15 rfl ?_
      refine gd_ic0 dX9_tree_16 ?_
      refine gd_ist3 dX9_tree_17 rfl ?_
      exact lp_tree i.w hl
  · refine Pas.find (h1 := h) (h2 := hf (h) 0) (v := -1000000001) (w := (-1000000000 : Int32) - nI 1) 0 i (by decide) (by decide) (by decide) (Same.rf _) (Same.rf _) ?_ ?_
    · refine gd_ald0 dX8_tree_0 (by decide) ?_
      refine gd_ild1 dX8_tree_1 ?_
      refine gd_cV1i dX8_tree_2 ct_8_142 rc_0 ⟨Nat.le_of_ble_eq_true rfl, Nat.le_of_ble_eq_true rfl⟩ (Nat.le_of_ble_eq_true rfl) (Nat.le_of_ble_eq_true rfl) (c_isLetter_f i.w i.c ha) ?_
      refine gd_if_ne_f 15 dX8_tree_5 (by decide) (by decide) ?_
      refine gd_ald0 dX8_tree_8 (by decide) ?_
      refine gd_ldc dX8_tree_9 ld_8_52 ?_
      refine gd_cV1i dX8_tree_11 ct_8_53 rc_0 ⟨Nat.le_of_ble_eq_true rfl, Nat.le_of_ble_eq_true rfl⟩ (Nat.le_of_ble_eq_true rfl) (Nat.le_of_ble_eq_true rfl) (c_f0 _) ?_
      refine gd_iret dX8_tree_14 rfl rfl ?_
      rfl
    · refine gd_ald0 dX9_tree_0 (by decide) ?_
      refine gd_ild1 dX9_tree_1 ?_
      refine gd_cV1i dX9_tree_2 ct_9_113 rc_72 ⟨Nat.le_of_ble_eq_true rfl, Nat.le_of_ble_eq_true rfl⟩ (Nat.le_of_ble_eq_true rfl) (Nat.le_of_ble_eq_true rfl) (m_isLetter_f (h := hf h 0) (by exact i.w) ha) ?_
      refine gd_if_ne_f 14 dX9_tree_5 (by decide) (by decide) ?_
      refine gd_ald0 dX9_tree_8 (by decide) ?_
      refine gd_ic1 dX9_tree_9 ?_
      refine gd_cV1i dX9_tree_10 ct_9_97 rc_72 ⟨Nat.le_of_ble_eq_true rfl, Nat.le_of_ble_eq_true rfl⟩ (Nat.le_of_ble_eq_true rfl) (Nat.le_of_ble_eq_true rfl) (m_f0 _) ?_
      refine gd_iret dX9_tree_13 rfl rfl ?_
      rfl
