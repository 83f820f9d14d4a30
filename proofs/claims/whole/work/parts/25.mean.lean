
/-! ===== what words mean, what letters let ===== -/
def mF (s : Nat → Nat → Int32) (w : Nat) : Nat := match rk s (8 + w) with
  | some q => tn (s 6 (4 * q + 2))
  | none => 0
def mL (s : Nat → Nat → Int32) (w : Nat) : Nat := match rk s (8 + w) with
  | some q => tn (s 6 (4 * q + 3))
  | none => 11
def stS (f l d e : Nat) : Nat := bset (fun k => decide (f ≤ k + d ∧ k ≤ l + e)) 12
theorem stS_lt (f l d e : Nat) : stS f l d e < 4096 := bset_lt _ 12
theorem mm_s {s : Nat → Nat → Int32} (w : WF s) {x q : Nat} (hx : x < 16) (e : rk s (8 + x) = some q) : s 6 (4 * q + 2) = nI (mF s x) ∧ s 6 (4 * q + 3) = nI (mL s x) ∧ mF s x ≤ mL s x ∧ mL s x ≤ 11 := by
  obtain ⟨u, v, h1, h2, h3, h4, _⟩ := rk_ok w (by omega) e
  have h4 := h4 (by omega)
  unfold mF mL
  rw [e]
  simp only [h1, h2]
  rw [tn_nI (by omega), tn_nI (by omega)]
  exact ⟨rfl, rfl, h3, h4⟩
theorem mm_n {s : Nat → Nat → Int32} {x : Nat} (e : rk s (8 + x) = none) : mF s x = 0 ∧ mL s x = 11 := by
  unfold mF mL; rw [e]; exact ⟨rfl, rfl⟩
theorem mm_ok {s : Nat → Nat → Int32} (w : WF s) {x : Nat} (hx : x < 16) : mF s x ≤ mL s x ∧ mL s x ≤ 11 := by
  cases e : rk s (8 + x) with
  | none => rw [(mm_n e).1, (mm_n e).2]; decide
  | some q => exact (mm_s w hx e).2.2
set_option maxRecDepth 20000 in
theorem stB {f l : Nat} (h1 : f ≤ l) (h2 : l ≤ 11) : (nI 2 <<< (nI l &&& 31)) - (nI 1 <<< (nI f &&& 31)) = nI (stS f l 0 0) := by
  have : ∀ l, l < 12 → ∀ f, f < 12 → f ≤ l → (nI 2 <<< (nI l &&& 31)) - (nI 1 <<< (nI f &&& 31)) = nI (stS f l 0 0) := by decide +kernel
  exact this l (by omega) f (by omega) h1
theorem bset_ins {p q : Nat → Bool} {n j : Nat} (hj : j < n) (hn : n ≤ 31) (h1 : ∀ i, i < n → i ≠ j → q i = p i) (h2 : q j = true) : nI (bset p n) ||| (nI 1 <<< (nI j &&& 31)) = nI (bset q n) := by
  rw [shl_nI (by omega), or_nI]
  congr 1
  apply Nat.eq_of_testBit_eq
  intro i
  rw [Nat.testBit_or, Nat.testBit_two_pow, bset_bit, bset_bit]
  by_cases e : i = j
  · subst e; simp [hj, h2]
  · by_cases hi : i < n
    · rw [h1 i hi e]; simp [hi, Ne.symm e]
    · simp [hi, Ne.symm e]

theorem c_stepsBetween {f l : Nat} (h1 : f ≤ l) (h2 : l ≤ 11) (h : Hp) : Gd mX8_stepsBetween 0 [.int (nI f), .int (nI l)] [] h (some (.int (nI (stS f l 0 0))), h) := by
  refine gd_ic2 dX8_stepsBetween_0 ?_
  refine gd_ild1 dX8_stepsBetween_1 ?_
  refine gd_ishl dX8_stepsBetween_2 ?_
  refine gd_ic1 dX8_stepsBetween_3 ?_
  refine gd_ild0 dX8_stepsBetween_4 ?_
  refine gd_ishl dX8_stepsBetween_5 ?_
  refine gd_isub dX8_stepsBetween_6 ?_
  refine gd_iret dX8_stepsBetween_7 rfl rfl ?_
  rw [stB h1 h2]
theorem c_meaningSet {h : Hp} {s : Nat → Nat → Int32} (w : WF s) (c : CR h 1 s) {x : Nat} (hx : x < 16) : Gd mX7_meaningSet 0 [.ref 1, .int (nI x), .null] [] h (some (.int (nI (stS (mF s x) (mL s x) 0 0))), h) := by
  cases e : rk s (8 + x) with
  | none =>
    refine gd_ald0 dX7_meaningSet_0 (by decide) ?_
    refine gd_getR (r := 15) dX7_meaningSet_1 fl_7_28 rfl rfl rfl (by decide) ?_
    refine gd_bipush (v := nI 8) dX7_meaningSet_4 (by decide) ?_
    refine gd_ild1 dX7_meaningSet_6 ?_
    refine gd_iadd dX7_meaningSet_7 ?_
    rw [nI_add]
    refine gd_ald0 dX7_meaningSet_8 (by decide) ?_
    refine gd_getR (r := 2) dX7_meaningSet_9 fl_7_12 rfl rfl rfl (by decide) ?_
    refine gd_getI dX7_meaningSet_12 fl_7_56 rfl rfl ?_
    rw [c.d1]
    refine gd_cV2i dX7_meaningSet_15 ct_7_64 rc_15 ⟨Nat.le_of_ble_eq_true rfl, Nat.le_of_ble_eq_true rfl⟩ (Nat.le_of_ble_eq_true rfl) (Nat.le_of_ble_eq_true rfl) (c_ruleFor w c (by omega)) ?_
    rw [e]
    refine gd_ist2 dX7_meaningSet_18 rfl ?_
    refine gd_ild2 dX7_meaningSet_19 ?_
    refine gd_if_ge_f 29 dX7_meaningSet_20 (by decide) (by show ¬ 0 ≤ (-1 : Int32); decide) ?_
    refine gd_sipush (v := nI 4095) dX7_meaningSet_23 (by decide) ?_
    refine gd_goto 50 dX7_meaningSet_26 (by decide) ?_
    refine gd_iret dX7_meaningSet_50 rfl rfl ?_
    rw [(mm_n e).1, (mm_n e).2]
    rfl
  | some q =>
    obtain ⟨t, r, h1, h2, h3, h4, _⟩ := rk_at w e
    refine gd_ald0 dX7_meaningSet_0 (by decide) ?_
    refine gd_getR (r := 15) dX7_meaningSet_1 fl_7_28 rfl rfl rfl (by decide) ?_
    refine gd_bipush (v := nI 8) dX7_meaningSet_4 (by decide) ?_
    refine gd_ild1 dX7_meaningSet_6 ?_
    refine gd_iadd dX7_meaningSet_7 ?_
    rw [nI_add]
    refine gd_ald0 dX7_meaningSet_8 (by decide) ?_
    refine gd_getR (r := 2) dX7_meaningSet_9 fl_7_12 rfl rfl rfl (by decide) ?_
    refine gd_getI dX7_meaningSet_12 fl_7_56 rfl rfl ?_
    rw [c.d1]
    refine gd_cV2i dX7_meaningSet_15 ct_7_64 rc_15 ⟨Nat.le_of_ble_eq_true rfl, Nat.le_of_ble_eq_true rfl⟩ (Nat.le_of_ble_eq_true rfl) (Nat.le_of_ble_eq_true rfl) (c_ruleFor w c (by omega)) ?_
    rw [e, show oI (some q) = nI q from rfl]
    refine gd_ist2 dX7_meaningSet_18 rfl ?_
    refine gd_ild2 dX7_meaningSet_19 ?_
    refine gd_if_ge_t 29 dX7_meaningSet_20 (by decide) (nI_pos' (by omega)) ?_
    refine gd_ald0 dX7_meaningSet_29 (by decide) ?_
    refine gd_getR (r := 15) dX7_meaningSet_30 fl_7_28 rfl rfl rfl (by decide) ?_
    refine gd_getR (r := 19) dX7_meaningSet_33 fl_7_70 rfl rfl rfl (by decide) ?_
    refine gd_ild2 dX7_meaningSet_36 ?_
    refine gd_iald (n := 48) dX7_meaningSet_37 rfl (by decide) (by repeat' (first | with_reducible rfl | apply ni_add | apply ni_mul)) (by omega) ?_
    rw [h3, c.rl1 t h1 r h2, ← h3, (mm_s w hx e).1]
    refine gd_ald0 dX7_meaningSet_38 (by decide) ?_
    refine gd_getR (r := 15) dX7_meaningSet_39 fl_7_28 rfl rfl rfl (by decide) ?_
    refine gd_getR (r := 20) dX7_meaningSet_42 fl_7_73 rfl rfl rfl (by decide) ?_
    refine gd_ild2 dX7_meaningSet_45 ?_
    refine gd_iald (n := 48) dX7_meaningSet_46 rfl (by decide) (by repeat' (first | with_reducible rfl | apply ni_add | apply ni_mul)) (by omega) ?_
    rw [h3, c.rh1 t h1 r h2, ← h3, (mm_s w hx e).2.1]
    refine gd_callN (vs := [_, _]) dX7_meaningSet_47 ct_7_76 rfl (fun _ _ _ _ _ _ _ z => z.2.2.2.2.2.2.2.2.1) ⟨Nat.le_of_ble_eq_true rfl, Nat.le_of_ble_eq_true rfl⟩ (Nat.le_of_ble_eq_true rfl) (Nat.le_of_ble_eq_true rfl) (c_stepsBetween (mm_s w hx e).2.2.1 (mm_s w hx e).2.2.2 _) ?_
    refine gd_iret dX7_meaningSet_50 rfl rfl ?_
    rfl
theorem sub_le {x d L : Nat} (hx : x < 100) (hd : d < 100) (hL : L < 100) : (nI L < nI x - nI d) ↔ L + d < x := by
  rw [Int32.lt_iff_toInt_lt, nI_toInt (by omega), sub_ti (by omega) (by omega)]; omega
theorem sub_add1 (x d : Nat) : nI x - nI d + nI 1 = nI (x + 1) - nI d := by
  rw [← nI_add]; simp only [Int32.sub_eq_add_neg, Int32.add_assoc]; rw [Int32.add_comm (nI 1)]
theorem m_range {f L d : Nat} (hf : f < 12) (hL : L < 13) (hd : d < 6) (h0 : f ≤ L) (h : Hp) : Gd mX9_range 0 [.int (nI f - nI d), .int (nI L), .null, .null] [] h (some (.int (nI (bset (fun k => decide (f ≤ k + d ∧ k ≤ L)) 12))), h) := by
  have key := loopG (P := fun x => f ≤ x → Gd mX9_range 4 [.int (nI f - nI d), .int (nI L), .int (nI (bset (fun k => decide (f ≤ k + d ∧ k + d < x)) 12)), .int (nI x - nI d)] [] h (some (.int (nI (bset (fun k => decide (f ≤ k + d ∧ k ≤ L)) 12))), h)) (n := L + d + 1) ?_ ?_ f (by omega) (Nat.le_refl _)
  · rw [show bset (fun k => decide (f ≤ k + d ∧ k + d < f)) 12 = 0 from by
      rw [bset_congr (q := fun _ => false) (fun k _ => decide_eq_false (by omega))]; rfl] at key
    refine gd_ic0 dX9_range_0 ?_
    refine gd_ist2 dX9_range_1 rfl ?_
    refine gd_ild0 dX9_range_2 ?_
    refine gd_ist3 dX9_range_3 rfl ?_
    exact key
  · intro _
    refine gd_ild3 dX9_range_4 ?_
    refine gd_ild1 dX9_range_5 ?_
    refine gd_icmp_gt_t 35 dX9_range_6 (by decide) ((sub_le (by omega) (by omega) (by omega)).mpr (by omega)) ?_
    refine gd_ild2 dX9_range_35 ?_
    refine gd_iret dX9_range_36 rfl rfl ?_
    rw [show bset (fun k => decide (f ≤ k + d ∧ k ≤ L)) 12 = bset (fun k => decide (f ≤ k + d ∧ k + d < L + d + 1)) 12 from bset_congr (fun k _ => decide_eq_decide.mpr (by omega))]
  · intro x hx ih hfx
    have ih := ih (by omega)
    by_cases hz : d ≤ x ∧ x < d + 12
    · have e1 : nI x - nI d = nI (x - d) := pk_sub hz.1
      refine gd_ild3 dX9_range_4 ?_
      refine gd_ild1 dX9_range_5 ?_
      refine gd_icmp_gt_f 35 dX9_range_6 (by decide) (by rw [sub_le (by omega) (by omega) (by omega)]; omega) ?_
      refine gd_ild2 dX9_range_9 ?_
      refine gd_ild3 dX9_range_10 ?_
      rw [e1]
      refine gd_ic0 dX9_range_11 ?_
      refine gd_bipush (v := nI 11) dX9_range_12 (by decide) ?_
      refine gd_cS3i dX9_range_14 ct_9_79 ⟨Nat.le_of_ble_eq_true rfl, Nat.le_of_ble_eq_true rfl⟩ (Nat.le_of_ble_eq_true rfl) (Nat.le_of_ble_eq_true rfl) (m_in_t (m := 11) (by omega) (by decide) _) ?_
      refine gd_if_eq_f 26 dX9_range_17 (by decide) (by decide) ?_
      refine gd_ic1 dX9_range_20 ?_
      refine gd_ild3 dX9_range_21 ?_
      refine gd_ishl dX9_range_22 ?_
      refine gd_goto 27 dX9_range_23 (by decide) ?_
      refine gd_ior dX9_range_27 ?_
      rw [bset_ins (q := fun k => decide (f ≤ k + d ∧ k + d < x + 1)) (by omega) (by decide) (fun k _ hk => decide_eq_decide.mpr (by omega)) (decide_eq_true (by omega))]
      refine gd_ist2 dX9_range_28 rfl ?_
      refine gd_iinc3 (b := nI 1) dX9_range_29 (by decide) rfl ?_
      rw [← e1, sub_add1]
      refine gd_goto 4 dX9_range_32 (by decide) ?_
      exact ih
    · have hz : ¬ (0 ≤ nI x - nI d ∧ nI x - nI d < nI 12) := by
        rw [Int32.le_iff_toInt_le, Int32.lt_iff_toInt_lt, sub_ti (by omega) (by omega), nI_toInt (by decide), show (0 : Int32).toInt = 0 by decide]
        omega
      refine gd_ild3 dX9_range_4 ?_
      refine gd_ild1 dX9_range_5 ?_
      refine gd_icmp_gt_f 35 dX9_range_6 (by decide) (by rw [sub_le (by omega) (by omega) (by omega)]; omega) ?_
      refine gd_ild2 dX9_range_9 ?_
      refine gd_ild3 dX9_range_10 ?_
      refine gd_ic0 dX9_range_11 ?_
      refine gd_bipush (v := nI 11) dX9_range_12 (by decide) ?_
      refine gd_cS3i dX9_range_14 ct_9_79 ⟨Nat.le_of_ble_eq_true rfl, Nat.le_of_ble_eq_true rfl⟩ (Nat.le_of_ble_eq_true rfl) (Nat.le_of_ble_eq_true rfl) (m_in_f (n := 12) (by decide) (by decide) hz _) ?_
      refine gd_if_eq_t 26 dX9_range_17 (by decide) (by decide) ?_
      refine gd_ic0 dX9_range_26 ?_
      refine gd_ior dX9_range_27 ?_
      rw [show nI 0 = nI 0 from rfl, or_nI, Nat.or_zero, show bset (fun k => decide (f ≤ k + d ∧ k + d < x)) 12 = bset (fun k => decide (f ≤ k + d ∧ k + d < x + 1)) 12 from bset_congr (fun k hk => decide_eq_decide.mpr (by omega))]
      refine gd_ist2 dX9_range_28 rfl ?_
      refine gd_iinc3 (b := nI 1) dX9_range_29 (by decide) rfl ?_
      rw [sub_add1]
      refine gd_goto 4 dX9_range_32 (by decide) ?_
      exact ih
theorem sub0 (f : Nat) : nI f - nI 0 = nI f := by rw [pk_sub (Nat.zero_le _), Nat.sub_zero]
theorem rk_w (s : Nat → Nat → Int32) (x : Nat) : rF s (nI 0) (nI x) (nX s) = rk s (8 + x) := by
  unfold rk
  rw [show kw (8 + x) = 0 by unfold kw; rw [if_neg (by omega), if_neg (by omega), if_neg (by omega)], show ka (8 + x) = x by unfold ka; rw [if_neg (by omega), if_neg (by omega), if_neg (by omega)]; omega]
set_option maxHeartbeats 1000000 in
theorem p_means {h : Hp} (i : Inv h) (a : Int32) : Pas mX8_means mX9_means [.ref 0, .int a] [.ref 72, .int a, .null] h := by
  rcases rng a (16) (by decide) with ⟨x, hx, rfl⟩ | ha
  · refine Pas.read (r := .int (nI (stS (mF (ms h) x) (mL (ms h) x) 0 0))) (r2 := .int (nI (stS (mF (ms h) x) (mL (ms h) x) 0 0))) (h1 := h) (h2 := h) i rfl (Same.rf _) (Same.rf _) ?_ ?_
    · refine gd_ild1 dX8_means_0 ?_
      refine gd_bipush (v := nI 16) dX8_means_1 (by decide) ?_
      refine gd_cS2i dX8_means_3 ct_8_48 ⟨Nat.le_of_ble_eq_true rfl, Nat.le_of_ble_eq_true rfl⟩ (Nat.le_of_ble_eq_true rfl) (Nat.le_of_ble_eq_true rfl) (c_isBelow_t hx (by decide) _) ?_
      refine gd_if_ne_t 16 dX8_means_6 (by decide) (by decide) ?_
      refine gd_ald0 dX8_means_16 (by decide) ?_
      refine gd_getR (r := 1) dX8_means_17 fl_8_12 rfl rfl rfl (by decide) ?_
      refine gd_ild1 dX8_means_20 ?_
      refine gd_cV1i dX8_means_21 ct_8_202 rc_1 ⟨Nat.le_of_ble_eq_true rfl, Nat.le_of_ble_eq_true rfl⟩ (Nat.le_of_ble_eq_true rfl) (Nat.le_of_ble_eq_true rfl) (c_meaningSet i.w i.c hx) ?_
      refine gd_iret dX8_means_24 rfl rfl ?_
      rfl
    · cases e : rk (ms h) (8 + x) with
      | none =>
        refine gd_ild1 dX9_means_0 ?_
        refine gd_ic0 dX9_means_1 ?_
        refine gd_bipush (v := nI 15) dX9_means_2 (by decide) ?_
        refine gd_cS3i dX9_means_4 ct_9_79 ⟨Nat.le_of_ble_eq_true rfl, Nat.le_of_ble_eq_true rfl⟩ (Nat.le_of_ble_eq_true rfl) (Nat.le_of_ble_eq_true rfl) (m_in_t (m := 15) (by omega) (by decide) _) ?_
        refine gd_if_ne_t 16 dX9_means_7 (by decide) (by decide) ?_
        refine gd_ald0 dX9_means_16 (by decide) ?_
        refine gd_ic0 dX9_means_17 ?_
        refine gd_ild1 dX9_means_18 ?_
        refine gd_cV2i dX9_means_19 ct_9_127 rc_72 ⟨Nat.le_of_ble_eq_true rfl, Nat.le_of_ble_eq_true rfl⟩ (Nat.le_of_ble_eq_true rfl) (Nat.le_of_ble_eq_true rfl) (m_ruleOf i.w _ _) ?_
        rw [rk_w, e]
        refine gd_ist2 dX9_means_22 rfl ?_
        refine gd_ild2 dX9_means_23 ?_
        refine gd_if_ge_f 33 dX9_means_24 (by decide) (by show ¬ 0 ≤ (-1 : Int32); decide) ?_
        refine gd_sipush (v := nI 4095) dX9_means_27 (by decide) ?_
        refine gd_goto 56 dX9_means_30 (by decide) ?_
        refine gd_iret dX9_means_56 rfl rfl ?_
        rw [(mm_n e).1, (mm_n e).2]
        rfl
      | some q =>
        obtain ⟨t, r, h1, h2, h3, h4, _⟩ := rk_at i.w e
        have mo := mm_ok i.w hx
        have rg := m_range (f := mF (ms h) x) (L := mL (ms h) x) (d := 0) (by omega) (by omega) (by decide) mo.1 h
        rw [sub0] at rg
        refine gd_ild1 dX9_means_0 ?_
        refine gd_ic0 dX9_means_1 ?_
        refine gd_bipush (v := nI 15) dX9_means_2 (by decide) ?_
        refine gd_cS3i dX9_means_4 ct_9_79 ⟨Nat.le_of_ble_eq_true rfl, Nat.le_of_ble_eq_true rfl⟩ (Nat.le_of_ble_eq_true rfl) (Nat.le_of_ble_eq_true rfl) (m_in_t (m := 15) (by omega) (by decide) _) ?_
        refine gd_if_ne_t 16 dX9_means_7 (by decide) (by decide) ?_
        refine gd_ald0 dX9_means_16 (by decide) ?_
        refine gd_ic0 dX9_means_17 ?_
        refine gd_ild1 dX9_means_18 ?_
        refine gd_cV2i dX9_means_19 ct_9_127 rc_72 ⟨Nat.le_of_ble_eq_true rfl, Nat.le_of_ble_eq_true rfl⟩ (Nat.le_of_ble_eq_true rfl) (Nat.le_of_ble_eq_true rfl) (m_ruleOf i.w _ _) ?_
        rw [rk_w, e, show oI (some q) = nI q from rfl]
        refine gd_ist2 dX9_means_22 rfl ?_
        refine gd_ild2 dX9_means_23 ?_
        refine gd_if_ge_t 33 dX9_means_24 (by decide) (nI_pos' (by omega)) ?_
        refine gd_ald0 dX9_means_33 (by decide) ?_
        refine gd_getR (r := 80) dX9_means_34 fl_9_31 rfl rfl rfl (by decide) ?_
        refine gd_ic4 dX9_means_37 ?_
        refine gd_ild2 dX9_means_38 ?_
        refine gd_imul dX9_means_39 ?_
        refine gd_ic2 dX9_means_40 ?_
        refine gd_iadd dX9_means_41 ?_
        refine gd_iald (n := 192) dX9_means_42 rfl (by decide) (by repeat' (first | with_reducible rfl | apply ni_add | apply ni_mul)) (by omega) ?_
        rw [← ms_r6 (by omega), (mm_s i.w hx e).1]
        refine gd_ald0 dX9_means_43 (by decide) ?_
        refine gd_getR (r := 80) dX9_means_44 fl_9_31 rfl rfl rfl (by decide) ?_
        refine gd_ic4 dX9_means_47 ?_
        refine gd_ild2 dX9_means_48 ?_
        refine gd_imul dX9_means_49 ?_
        refine gd_ic3 dX9_means_50 ?_
        refine gd_iadd dX9_means_51 ?_
        refine gd_iald (n := 192) dX9_means_52 rfl (by decide) (by repeat' (first | with_reducible rfl | apply ni_add | apply ni_mul)) (by omega) ?_
        rw [← ms_r6 (by omega), (mm_s i.w hx e).2.1]
        refine gd_cS2i dX9_means_53 ct_9_130 ⟨Nat.le_of_ble_eq_true rfl, Nat.le_of_ble_eq_true rfl⟩ (Nat.le_of_ble_eq_true rfl) (Nat.le_of_ble_eq_true rfl) (rg) ?_
        refine gd_iret dX9_means_56 rfl rfl ?_
        rfl
  · refine Pas.find (h1 := h) (h2 := hf (h) 0) (v := -1000000001) (w := (-1000000000 : Int32) - nI 1) 0 i (by decide) (by decide) (by decide) (Same.rf _) (Same.rf _) ?_ ?_
    · refine gd_ild1 dX8_means_0 ?_
      refine gd_bipush (v := nI 16) dX8_means_1 (by decide) ?_
      refine gd_cS2i dX8_means_3 ct_8_48 ⟨Nat.le_of_ble_eq_true rfl, Nat.le_of_ble_eq_true rfl⟩ (Nat.le_of_ble_eq_true rfl) (Nat.le_of_ble_eq_true rfl) (c_isBelow_f ha _) ?_
      refine gd_if_ne_f 16 dX8_means_6 (by decide) (by decide) ?_
      refine gd_ald0 dX8_means_9 (by decide) ?_
      refine gd_ldc dX8_means_10 ld_8_52 ?_
      refine gd_cV1i dX8_means_12 ct_8_53 rc_0 ⟨Nat.le_of_ble_eq_true rfl, Nat.le_of_ble_eq_true rfl⟩ (Nat.le_of_ble_eq_true rfl) (Nat.le_of_ble_eq_true rfl) (c_f0 _) ?_
      refine gd_iret dX8_means_15 rfl rfl ?_
      rfl
    · refine gd_ild1 dX9_means_0 ?_
      refine gd_ic0 dX9_means_1 ?_
      refine gd_bipush (v := nI 15) dX9_means_2 (by decide) ?_
      refine gd_cS3i dX9_means_4 ct_9_79 ⟨Nat.le_of_ble_eq_true rfl, Nat.le_of_ble_eq_true rfl⟩ (Nat.le_of_ble_eq_true rfl) (Nat.le_of_ble_eq_true rfl) (m_in_f (n := 16) (by decide) (by decide) ha _) ?_
      refine gd_if_ne_f 16 dX9_means_7 (by decide) (by decide) ?_
      refine gd_ald0 dX9_means_10 (by decide) ?_
      refine gd_ic1 dX9_means_11 ?_
      refine gd_cV1i dX9_means_12 ct_9_97 rc_72 ⟨Nat.le_of_ble_eq_true rfl, Nat.le_of_ble_eq_true rfl⟩ (Nat.le_of_ble_eq_true rfl) (Nat.le_of_ble_eq_true rfl) (m_f0 _) ?_
      refine gd_iret dX9_means_15 rfl rfl ?_
      rfl

def lF (s : Nat → Nat → Int32) (l : Nat) : Nat := tn (s 4 (9 * l))
def ld1 (s : Nat → Nat → Int32) (l : Nat) : Nat := if lF s l = 4 then tn (s 4 (9 * l + 8)) else if lF s l = 2 ∨ lF s l = 3 then 1 else 0
def ld2 (s : Nat → Nat → Int32) (l : Nat) : Nat := if lF s l = 2 ∨ lF s l = 3 then 1 else 0
def letN (s : Nat → Nat → Int32) (l : Nat) : Nat := stS (mF s (tn (s 4 (9 * l + 2)))) (mL s (tn (s 4 (9 * l + 2)))) (ld1 s l) (ld2 s l)
set_option maxRecDepth 20000 in
theorem leanS {f l d : Nat} (h1 : f ≤ l) (h2 : l ≤ 11) (hd : d < 5) : nI (stS f l d 0) ||| (nI (stS f l d 0) >>> (nI 1 &&& 31)) = nI (stS f l (d + 1) 0) := by
  have : ∀ d, d < 5 → ∀ l, l < 12 → ∀ f, f < 12 → f ≤ l → nI (stS f l d 0) ||| (nI (stS f l d 0) >>> (nI 1 &&& 31)) = nI (stS f l (d + 1) 0) := by decide +kernel
  exact this d hd l (by omega) f (by omega) h1
set_option maxRecDepth 20000 in
theorem heardS {f l : Nat} (h1 : f ≤ l) (h2 : l ≤ 11) : (nI (stS f l 0 0) ||| ((nI (stS f l 0 0) >>> (nI 1 &&& 31)) ||| (nI (stS f l 0 0) <<< (nI 1 &&& 31)))) &&& nI 4095 = nI (stS f l 1 1) := by
  have : ∀ l, l < 12 → ∀ f, f < 12 → f ≤ l → (nI (stS f l 0 0) ||| ((nI (stS f l 0 0) >>> (nI 1 &&& 31)) ||| (nI (stS f l 0 0) <<< (nI 1 &&& 31)))) &&& nI 4095 = nI (stS f l 1 1) := by decide +kernel
  exact this l (by omega) f (by omega) h1
theorem and4095 {n : Nat} (h : n < 4096) : nI n &&& nI 4095 = nI n := by
  have := pk_andN (n := n) (m := nI 4095) (by omega) 12 (by decide)
  rw [this, Nat.mod_eq_of_lt (by omega)]
theorem c_lean {h : Hp} {l f g e : Nat} (hl : l < 30) (he : h.1 14 l = nI e) (e5 : e ≤ 5) (h1 : f ≤ g) (h2 : g ≤ 11) {x : Option Value × Hp} (k : Gd mX7_letSet 54 [.ref 1, .int (nI l), .int (nI (stS f g e 0)), .int (nI e)] [] h x) : Gd mX7_letSet 29 [.ref 1, .int (nI l), .int (nI (stS f g 0 0)), .int (nI 0)] [] h x := by
  refine loopG (P := fun j => Gd mX7_letSet 29 [.ref 1, .int (nI l), .int (nI (stS f g j 0)), .int (nI j)] [] h x) (n := e) ?_ ?_ 0 (by omega)
  · refine gd_ild3 dX7_letSet_29 ?_
    refine gd_ald0 dX7_letSet_30 (by decide) ?_
    refine gd_getR (r := 6) dX7_letSet_31 fl_7_21 rfl rfl rfl (by decide) ?_
    refine gd_getR (r := 14) dX7_letSet_34 fl_7_89 rfl rfl rfl (by decide) ?_
    refine gd_ild1 dX7_letSet_37 ?_
    refine gd_iald (n := 30) dX7_letSet_38 rfl (by decide) (by repeat' (first | with_reducible rfl | apply ni_add | apply ni_mul)) (by omega) ?_
    rw [he]
    refine gd_icmp_ge_t 54 dX7_letSet_39 (by decide) (by exact nI_le (by omega) (by omega)) ?_
    exact k
  · intro j hj ih
    refine gd_ild3 dX7_letSet_29 ?_
    refine gd_ald0 dX7_letSet_30 (by decide) ?_
    refine gd_getR (r := 6) dX7_letSet_31 fl_7_21 rfl rfl rfl (by decide) ?_
    refine gd_getR (r := 14) dX7_letSet_34 fl_7_89 rfl rfl rfl (by decide) ?_
    refine gd_ild1 dX7_letSet_37 ?_
    refine gd_iald (n := 30) dX7_letSet_38 rfl (by decide) (by repeat' (first | with_reducible rfl | apply ni_add | apply ni_mul)) (by omega) ?_
    rw [he]
    refine gd_icmp_ge_f 54 dX7_letSet_39 (by decide) (by exact nI_ge (by omega) (by omega)) ?_
    refine gd_ild2 dX7_letSet_42 ?_
    refine gd_ild2 dX7_letSet_43 ?_
    refine gd_ic1 dX7_letSet_44 ?_
    refine gd_ishr dX7_letSet_45 ?_
    refine gd_ior dX7_letSet_46 ?_
    rw [leanS h1 h2 (by omega)]
    refine gd_ist2 dX7_letSet_47 rfl ?_
    refine gd_iinc3 (b := nI 1) dX7_letSet_48 (by decide) rfl ?_
    rw [nI_add]
    refine gd_goto 29 dX7_letSet_51 (by decide) ?_
    exact ih
theorem c_letSet {h : Hp} {s : Nat → Nat → Int32} (w : WF s) (c : CR h 1 s) {l : Nat} (hl : l < nN s) : Gd mX7_letSet 0 [.ref 1, .int (nI l), .null, .null] [] h (some (.int (nI (letN s l))), h) := by
  have lN := w.n.2
  obtain ⟨k, t, x, d, r, q, z, e, a1, a2, a3, a4, a5, a6, a7, a8, b1, b2, b3, b4, b5, b6, b7, b8, b9, b10⟩ := w.l l hl
  have ek : lF s l = k := by unfold lF; rw [a1, tn_nI (by omega)]
  have ex : tn (s 4 (9 * l + 2)) = x := by rw [a3, tn_nI (by omega)]
  have ee : tn (s 4 (9 * l + 8)) = e := by rw [a8, tn_nI (by omega)]
  have mo := mm_ok w (show x < 16 by omega)
  rcases (show k = 4 ∨ (k = 2 ∨ k = 3) ∨ (k ≠ 4 ∧ k ≠ 2 ∧ k ≠ 3) by omega) with q1 | q1 | q1
  · have el : letN s l = stS (mF s x) (mL s x) e 0 := by unfold letN ld1 ld2; rw [ek, ex, ee, if_pos q1, if_neg (by omega)]
    rw [el]
    refine gd_ald0 dX7_letSet_0 (by decide) ?_
    refine gd_ald0 dX7_letSet_1 (by decide) ?_
    refine gd_getR (r := 6) dX7_letSet_2 fl_7_21 rfl rfl rfl (by decide) ?_
    refine gd_getR (r := 9) dX7_letSet_5 fl_7_79 rfl rfl rfl (by decide) ?_
    refine gd_ild1 dX7_letSet_8 ?_
    refine gd_iald (n := 30) dX7_letSet_9 rfl (by decide) (by repeat' (first | with_reducible rfl | apply ni_add | apply ni_mul)) (by omega) ?_
    rw [c.lw1 l hl, a3]
    refine gd_cV1i dX7_letSet_10 ct_7_82 rc_1 ⟨Nat.le_of_ble_eq_true rfl, Nat.le_of_ble_eq_true rfl⟩ (Nat.le_of_ble_eq_true rfl) (Nat.le_of_ble_eq_true rfl) (c_meaningSet w c (by omega)) ?_
    refine gd_ist2 dX7_letSet_13 rfl ?_
    refine gd_ald0 dX7_letSet_14 (by decide) ?_
    refine gd_getR (r := 6) dX7_letSet_15 fl_7_21 rfl rfl rfl (by decide) ?_
    refine gd_getR (r := 7) dX7_letSet_18 fl_7_86 rfl rfl rfl (by decide) ?_
    refine gd_ild1 dX7_letSet_21 ?_
    refine gd_iald (n := 30) dX7_letSet_22 rfl (by decide) (by repeat' (first | with_reducible rfl | apply ni_add | apply ni_mul)) (by omega) ?_
    rw [c.lk1 l hl, a1]
    refine gd_ic4 dX7_letSet_23 ?_
    refine gd_icmp_ne_f 54 dX7_letSet_24 (by decide) (by exact (nI_eq (by omega) (by omega)).mpr (by omega)) ?_
    refine gd_ic0 dX7_letSet_27 ?_
    refine gd_ist3 dX7_letSet_28 rfl ?_
    refine c_lean (e := e) (by omega) (by rw [c.le1 l hl]; exact a8) (by omega) mo.1 mo.2 ?_
    refine gd_ald0 dX7_letSet_54 (by decide) ?_
    refine gd_getR (r := 6) dX7_letSet_55 fl_7_21 rfl rfl rfl (by decide) ?_
    refine gd_ild1 dX7_letSet_58 ?_
    refine gd_ic2 dX7_letSet_59 ?_
    refine gd_cV2i dX7_letSet_60 ct_7_92 rc_6 ⟨Nat.le_of_ble_eq_true rfl, Nat.le_of_ble_eq_true rfl⟩ (Nat.le_of_ble_eq_true rfl) (Nat.le_of_ble_eq_true rfl) (c_isOfKind (by omega) (by rw [c.lk1 l hl]; exact a1) (by omega) (by decide)) ?_
    rw [bi_df (by omega)]
    refine gd_if_eq_t 76 dX7_letSet_63 (by decide) (by decide) ?_
    refine gd_ild2 dX7_letSet_76 ?_
    refine gd_sipush (v := nI 4095) dX7_letSet_77 (by decide) ?_
    refine gd_iand dX7_letSet_80 ?_
    refine gd_iret dX7_letSet_81 rfl rfl ?_
    rw [and4095 (stS_lt _ _ _ _)]
  · have el : letN s l = stS (mF s x) (mL s x) 1 1 := by unfold letN ld1 ld2; rw [ek, ex, if_neg (by omega), if_pos q1]
    rw [el]
    refine gd_ald0 dX7_letSet_0 (by decide) ?_
    refine gd_ald0 dX7_letSet_1 (by decide) ?_
    refine gd_getR (r := 6) dX7_letSet_2 fl_7_21 rfl rfl rfl (by decide) ?_
    refine gd_getR (r := 9) dX7_letSet_5 fl_7_79 rfl rfl rfl (by decide) ?_
    refine gd_ild1 dX7_letSet_8 ?_
    refine gd_iald (n := 30) dX7_letSet_9 rfl (by decide) (by repeat' (first | with_reducible rfl | apply ni_add | apply ni_mul)) (by omega) ?_
    rw [c.lw1 l hl, a3]
    refine gd_cV1i dX7_letSet_10 ct_7_82 rc_1 ⟨Nat.le_of_ble_eq_true rfl, Nat.le_of_ble_eq_true rfl⟩ (Nat.le_of_ble_eq_true rfl) (Nat.le_of_ble_eq_true rfl) (c_meaningSet w c (by omega)) ?_
    refine gd_ist2 dX7_letSet_13 rfl ?_
    refine gd_ald0 dX7_letSet_14 (by decide) ?_
    refine gd_getR (r := 6) dX7_letSet_15 fl_7_21 rfl rfl rfl (by decide) ?_
    refine gd_getR (r := 7) dX7_letSet_18 fl_7_86 rfl rfl rfl (by decide) ?_
    refine gd_ild1 dX7_letSet_21 ?_
    refine gd_iald (n := 30) dX7_letSet_22 rfl (by decide) (by repeat' (first | with_reducible rfl | apply ni_add | apply ni_mul)) (by omega) ?_
    rw [c.lk1 l hl, a1]
    refine gd_ic4 dX7_letSet_23 ?_
    refine gd_icmp_ne_t 54 dX7_letSet_24 (by decide) (by exact fun z => absurd ((nI_eq (by omega) (by omega)).mp z) (by omega)) ?_
    refine gd_ald0 dX7_letSet_54 (by decide) ?_
    refine gd_getR (r := 6) dX7_letSet_55 fl_7_21 rfl rfl rfl (by decide) ?_
    refine gd_ild1 dX7_letSet_58 ?_
    refine gd_ic2 dX7_letSet_59 ?_
    refine gd_cV2i dX7_letSet_60 ct_7_92 rc_6 ⟨Nat.le_of_ble_eq_true rfl, Nat.le_of_ble_eq_true rfl⟩ (Nat.le_of_ble_eq_true rfl) (Nat.le_of_ble_eq_true rfl) (c_isOfKind (by omega) (by rw [c.lk1 l hl]; exact a1) (by omega) (by decide)) ?_
    rw [bi_dt (by omega)]
    refine gd_if_eq_f 76 dX7_letSet_63 (by decide) (by decide) ?_
    refine gd_ild2 dX7_letSet_66 ?_
    refine gd_ild2 dX7_letSet_67 ?_
    refine gd_ic1 dX7_letSet_68 ?_
    refine gd_ishr dX7_letSet_69 ?_
    refine gd_ild2 dX7_letSet_70 ?_
    refine gd_ic1 dX7_letSet_71 ?_
    refine gd_ishl dX7_letSet_72 ?_
    refine gd_ior dX7_letSet_73 ?_
    refine gd_ior dX7_letSet_74 ?_
    refine gd_ist2 dX7_letSet_75 rfl ?_
    refine gd_ild2 dX7_letSet_76 ?_
    refine gd_sipush (v := nI 4095) dX7_letSet_77 (by decide) ?_
    refine gd_iand dX7_letSet_80 ?_
    refine gd_iret dX7_letSet_81 rfl rfl ?_
    rw [heardS mo.1 mo.2]
  · have el : letN s l = stS (mF s x) (mL s x) 0 0 := by unfold letN ld1 ld2; rw [ek, ex, if_neg (by omega), if_neg (by omega)]
    rw [el]
    refine gd_ald0 dX7_letSet_0 (by decide) ?_
    refine gd_ald0 dX7_letSet_1 (by decide) ?_
    refine gd_getR (r := 6) dX7_letSet_2 fl_7_21 rfl rfl rfl (by decide) ?_
    refine gd_getR (r := 9) dX7_letSet_5 fl_7_79 rfl rfl rfl (by decide) ?_
    refine gd_ild1 dX7_letSet_8 ?_
    refine gd_iald (n := 30) dX7_letSet_9 rfl (by decide) (by repeat' (first | with_reducible rfl | apply ni_add | apply ni_mul)) (by omega) ?_
    rw [c.lw1 l hl, a3]
    refine gd_cV1i dX7_letSet_10 ct_7_82 rc_1 ⟨Nat.le_of_ble_eq_true rfl, Nat.le_of_ble_eq_true rfl⟩ (Nat.le_of_ble_eq_true rfl) (Nat.le_of_ble_eq_true rfl) (c_meaningSet w c (by omega)) ?_
    refine gd_ist2 dX7_letSet_13 rfl ?_
    refine gd_ald0 dX7_letSet_14 (by decide) ?_
    refine gd_getR (r := 6) dX7_letSet_15 fl_7_21 rfl rfl rfl (by decide) ?_
    refine gd_getR (r := 7) dX7_letSet_18 fl_7_86 rfl rfl rfl (by decide) ?_
    refine gd_ild1 dX7_letSet_21 ?_
    refine gd_iald (n := 30) dX7_letSet_22 rfl (by decide) (by repeat' (first | with_reducible rfl | apply ni_add | apply ni_mul)) (by omega) ?_
    rw [c.lk1 l hl, a1]
    refine gd_ic4 dX7_letSet_23 ?_
    refine gd_icmp_ne_t 54 dX7_letSet_24 (by decide) (by exact fun z => absurd ((nI_eq (by omega) (by omega)).mp z) (by omega)) ?_
    refine gd_ald0 dX7_letSet_54 (by decide) ?_
    refine gd_getR (r := 6) dX7_letSet_55 fl_7_21 rfl rfl rfl (by decide) ?_
    refine gd_ild1 dX7_letSet_58 ?_
    refine gd_ic2 dX7_letSet_59 ?_
    refine gd_cV2i dX7_letSet_60 ct_7_92 rc_6 ⟨Nat.le_of_ble_eq_true rfl, Nat.le_of_ble_eq_true rfl⟩ (Nat.le_of_ble_eq_true rfl) (Nat.le_of_ble_eq_true rfl) (c_isOfKind (by omega) (by rw [c.lk1 l hl]; exact a1) (by omega) (by decide)) ?_
    rw [bi_df (by omega)]
    refine gd_if_eq_t 76 dX7_letSet_63 (by decide) (by decide) ?_
    refine gd_ild2 dX7_letSet_76 ?_
    refine gd_sipush (v := nI 4095) dX7_letSet_77 (by decide) ?_
    refine gd_iand dX7_letSet_80 ?_
    refine gd_iret dX7_letSet_81 rfl rfl ?_
    rw [and4095 (stS_lt _ _ _ _)]
theorem m_letsOf {h : Hp} (w : WF (ms h)) {l : Nat} (hl : l < nN (ms h)) : Gd mX9_letsOf 0 [.ref 72, .int (nI l), .null, .null, .null, .null] [] h (some (.int (nI (letN (ms h) l))), h) := by
  have lN := w.n.2
  obtain ⟨k, t, x, d, r, q, z, e, a1, a2, a3, a4, a5, a6, a7, a8, b1, b2, b3, b4, b5, b6, b7, b8, b9, b10⟩ := w.l l hl
  have ek : lF (ms h) l = k := by unfold lF; rw [a1, tn_nI (by omega)]
  have ex : tn ((ms h) 4 (9 * l + 2)) = x := by rw [a3, tn_nI (by omega)]
  have ee : tn ((ms h) 4 (9 * l + 8)) = e := by rw [a8, tn_nI (by omega)]
  have mo := mm_ok w (show x < 16 by omega)
  rcases (show k = 4 ∨ (k = 2 ∨ k = 3) ∨ (k ≠ 4 ∧ k ≠ 2 ∧ k ≠ 3) by omega) with q1 | q1 | q1
  · have el : letN (ms h) l = stS (mF (ms h) x) (mL (ms h) x) e 0 := by unfold letN ld1 ld2; rw [ek, ex, ee, if_pos q1, if_neg (by omega)]
    rw [el]
    cases eq : rk (ms h) (8 + x) with
    | none =>
      have f1 : mF (ms h) x = 0 := (mm_n eq).1
      have f2 : mL (ms h) x = 11 := (mm_n eq).2
      have rg := m_range (f := mF (ms h) x) (L := mL (ms h) x + 0) (d := e) (by omega) (by omega) (by omega) (by omega) h
      rw [f1, f2] at rg ⊢
      refine gd_ald0 dX9_letsOf_0 (by decide) ?_
      refine gd_ic0 dX9_letsOf_1 ?_
      refine gd_ald0 dX9_letsOf_2 (by decide) ?_
      refine gd_ild1 dX9_letsOf_3 ?_
      refine gd_ic2 dX9_letsOf_4 ?_
      refine gd_cV2i dX9_letsOf_5 ct_9_120 rc_72 ⟨Nat.le_of_ble_eq_true rfl, Nat.le_of_ble_eq_true rfl⟩ (Nat.le_of_ble_eq_true rfl) (Nat.le_of_ble_eq_true rfl) (m_its (l := l) (w := 2) (by omega) (by decide) _) ?_
      rw [← ms_r4 (by omega), a3]
      refine gd_cV2i dX9_letsOf_8 ct_9_127 rc_72 ⟨Nat.le_of_ble_eq_true rfl, Nat.le_of_ble_eq_true rfl⟩ (Nat.le_of_ble_eq_true rfl) (Nat.le_of_ble_eq_true rfl) (m_ruleOf w _ _) ?_
      rw [rk_w, eq]
      refine gd_ist2 dX9_letsOf_11 rfl ?_
      refine gd_ild2 dX9_letsOf_12 ?_
      refine gd_if_ge_f 20 dX9_letsOf_13 (by decide) (by show ¬ 0 ≤ (-1 : Int32); decide) ?_
      refine gd_ic0 dX9_letsOf_16 ?_
      refine gd_goto 30 dX9_letsOf_17 (by decide) ?_
      refine gd_ist3 dX9_letsOf_30 rfl ?_
      refine gd_ild2 dX9_letsOf_31 ?_
      refine gd_if_ge_f 40 dX9_letsOf_32 (by decide) (by show ¬ 0 ≤ (-1 : Int32); decide) ?_
      refine gd_bipush (v := nI 11) dX9_letsOf_35 (by decide) ?_
      refine gd_goto 50 dX9_letsOf_37 (by decide) ?_
      refine gd_ist4 dX9_letsOf_50 rfl ?_
      refine gd_ald0 dX9_letsOf_52 (by decide) ?_
      refine gd_ild1 dX9_letsOf_53 ?_
      refine gd_ic0 dX9_letsOf_54 ?_
      refine gd_cV2i dX9_letsOf_55 ct_9_120 rc_72 ⟨Nat.le_of_ble_eq_true rfl, Nat.le_of_ble_eq_true rfl⟩ (Nat.le_of_ble_eq_true rfl) (Nat.le_of_ble_eq_true rfl) (m_its (l := l) (w := 0) (by omega) (by decide) _) ?_
      rw [show h.1 78 (9 * l + 0) = nI k by rw [← ms_r4 (by omega)]; exact a1]
      refine gd_ist5 dX9_letsOf_58 rfl ?_
      refine gd_ild5 dX9_letsOf_60 ?_
      refine gd_ic4 dX9_letsOf_62 ?_
      refine gd_icmp_ne_f 83 dX9_letsOf_63 (by decide) (by exact (nI_eq (by omega) (by omega)).mpr (by omega)) ?_
      refine gd_ild3 dX9_letsOf_66 ?_
      refine gd_ald0 dX9_letsOf_67 (by decide) ?_
      refine gd_ild1 dX9_letsOf_68 ?_
      refine gd_bipush (v := nI 8) dX9_letsOf_69 (by decide) ?_
      refine gd_cV2i dX9_letsOf_71 ct_9_120 rc_72 ⟨Nat.le_of_ble_eq_true rfl, Nat.le_of_ble_eq_true rfl⟩ (Nat.le_of_ble_eq_true rfl) (Nat.le_of_ble_eq_true rfl) (m_its (l := l) (w := 8) (by omega) (by decide) _) ?_
      rw [← ms_r4 (by omega), a8]
      refine gd_isub dX9_letsOf_74 ?_
      refine gd_ild4 dX9_letsOf_75 ?_
      refine gd_cS2i dX9_letsOf_77 ct_9_130 ⟨Nat.le_of_ble_eq_true rfl, Nat.le_of_ble_eq_true rfl⟩ (Nat.le_of_ble_eq_true rfl) (Nat.le_of_ble_eq_true rfl) (rg) ?_
      refine gd_goto 114 dX9_letsOf_80 (by decide) ?_
      refine gd_iret dX9_letsOf_114 rfl rfl ?_
      rfl
    | some q2 =>
      obtain ⟨t2, r2, h1, h2, h3, h4, _⟩ := rk_at w eq
      have f1 := (mm_s w (by omega) eq).1
      have f2 := (mm_s w (by omega) eq).2.1
      have rg := m_range (f := mF (ms h) x) (L := mL (ms h) x + 0) (d := e) (by omega) (by omega) (by omega) (by omega) h
      refine gd_ald0 dX9_letsOf_0 (by decide) ?_
      refine gd_ic0 dX9_letsOf_1 ?_
      refine gd_ald0 dX9_letsOf_2 (by decide) ?_
      refine gd_ild1 dX9_letsOf_3 ?_
      refine gd_ic2 dX9_letsOf_4 ?_
      refine gd_cV2i dX9_letsOf_5 ct_9_120 rc_72 ⟨Nat.le_of_ble_eq_true rfl, Nat.le_of_ble_eq_true rfl⟩ (Nat.le_of_ble_eq_true rfl) (Nat.le_of_ble_eq_true rfl) (m_its (l := l) (w := 2) (by omega) (by decide) _) ?_
      rw [← ms_r4 (by omega), a3]
      refine gd_cV2i dX9_letsOf_8 ct_9_127 rc_72 ⟨Nat.le_of_ble_eq_true rfl, Nat.le_of_ble_eq_true rfl⟩ (Nat.le_of_ble_eq_true rfl) (Nat.le_of_ble_eq_true rfl) (m_ruleOf w _ _) ?_
      rw [rk_w, eq, show oI (some q2) = nI q2 from rfl]
      refine gd_ist2 dX9_letsOf_11 rfl ?_
      refine gd_ild2 dX9_letsOf_12 ?_
      refine gd_if_ge_t 20 dX9_letsOf_13 (by decide) (nI_pos' (by omega)) ?_
      refine gd_ald0 dX9_letsOf_20 (by decide) ?_
      refine gd_getR (r := 80) dX9_letsOf_21 fl_9_31 rfl rfl rfl (by decide) ?_
      refine gd_ic4 dX9_letsOf_24 ?_
      refine gd_ild2 dX9_letsOf_25 ?_
      refine gd_imul dX9_letsOf_26 ?_
      refine gd_ic2 dX9_letsOf_27 ?_
      refine gd_iadd dX9_letsOf_28 ?_
      refine gd_iald (n := 192) dX9_letsOf_29 rfl (by decide) (by repeat' (first | with_reducible rfl | apply ni_add | apply ni_mul)) (by omega) ?_
      rw [← ms_r6 (by omega), f1]
      refine gd_ist3 dX9_letsOf_30 rfl ?_
      refine gd_ild2 dX9_letsOf_31 ?_
      refine gd_if_ge_t 40 dX9_letsOf_32 (by decide) (nI_pos' (by omega)) ?_
      refine gd_ald0 dX9_letsOf_40 (by decide) ?_
      refine gd_getR (r := 80) dX9_letsOf_41 fl_9_31 rfl rfl rfl (by decide) ?_
      refine gd_ic4 dX9_letsOf_44 ?_
      refine gd_ild2 dX9_letsOf_45 ?_
      refine gd_imul dX9_letsOf_46 ?_
      refine gd_ic3 dX9_letsOf_47 ?_
      refine gd_iadd dX9_letsOf_48 ?_
      refine gd_iald (n := 192) dX9_letsOf_49 rfl (by decide) (by repeat' (first | with_reducible rfl | apply ni_add | apply ni_mul)) (by omega) ?_
      rw [← ms_r6 (by omega), f2]
      refine gd_ist4 dX9_letsOf_50 rfl ?_
      refine gd_ald0 dX9_letsOf_52 (by decide) ?_
      refine gd_ild1 dX9_letsOf_53 ?_
      refine gd_ic0 dX9_letsOf_54 ?_
      refine gd_cV2i dX9_letsOf_55 ct_9_120 rc_72 ⟨Nat.le_of_ble_eq_true rfl, Nat.le_of_ble_eq_true rfl⟩ (Nat.le_of_ble_eq_true rfl) (Nat.le_of_ble_eq_true rfl) (m_its (l := l) (w := 0) (by omega) (by decide) _) ?_
      rw [show h.1 78 (9 * l + 0) = nI k by rw [← ms_r4 (by omega)]; exact a1]
      refine gd_ist5 dX9_letsOf_58 rfl ?_
      refine gd_ild5 dX9_letsOf_60 ?_
      refine gd_ic4 dX9_letsOf_62 ?_
      refine gd_icmp_ne_f 83 dX9_letsOf_63 (by decide) (by exact (nI_eq (by omega) (by omega)).mpr (by omega)) ?_
      refine gd_ild3 dX9_letsOf_66 ?_
      refine gd_ald0 dX9_letsOf_67 (by decide) ?_
      refine gd_ild1 dX9_letsOf_68 ?_
      refine gd_bipush (v := nI 8) dX9_letsOf_69 (by decide) ?_
      refine gd_cV2i dX9_letsOf_71 ct_9_120 rc_72 ⟨Nat.le_of_ble_eq_true rfl, Nat.le_of_ble_eq_true rfl⟩ (Nat.le_of_ble_eq_true rfl) (Nat.le_of_ble_eq_true rfl) (m_its (l := l) (w := 8) (by omega) (by decide) _) ?_
      rw [← ms_r4 (by omega), a8]
      refine gd_isub dX9_letsOf_74 ?_
      refine gd_ild4 dX9_letsOf_75 ?_
      refine gd_cS2i dX9_letsOf_77 ct_9_130 ⟨Nat.le_of_ble_eq_true rfl, Nat.le_of_ble_eq_true rfl⟩ (Nat.le_of_ble_eq_true rfl) (Nat.le_of_ble_eq_true rfl) (rg) ?_
      refine gd_goto 114 dX9_letsOf_80 (by decide) ?_
      refine gd_iret dX9_letsOf_114 rfl rfl ?_
      rfl
  · have el : letN (ms h) l = stS (mF (ms h) x) (mL (ms h) x) 1 1 := by unfold letN ld1 ld2; rw [ek, ex, if_neg (by omega), if_pos q1]
    rw [el]
    cases eq : rk (ms h) (8 + x) with
    | none =>
      have f1 : mF (ms h) x = 0 := (mm_n eq).1
      have f2 : mL (ms h) x = 11 := (mm_n eq).2
      have rg := m_range (f := mF (ms h) x) (L := mL (ms h) x + 1) (d := 1) (by omega) (by omega) (by omega) (by omega) h
      rw [f1, f2] at rg ⊢
      rcases q1 with q1 | q1
      · refine gd_ald0 dX9_letsOf_0 (by decide) ?_
        refine gd_ic0 dX9_letsOf_1 ?_
        refine gd_ald0 dX9_letsOf_2 (by decide) ?_
        refine gd_ild1 dX9_letsOf_3 ?_
        refine gd_ic2 dX9_letsOf_4 ?_
        refine gd_cV2i dX9_letsOf_5 ct_9_120 rc_72 ⟨Nat.le_of_ble_eq_true rfl, Nat.le_of_ble_eq_true rfl⟩ (Nat.le_of_ble_eq_true rfl) (Nat.le_of_ble_eq_true rfl) (m_its (l := l) (w := 2) (by omega) (by decide) _) ?_
        rw [← ms_r4 (by omega), a3]
        refine gd_cV2i dX9_letsOf_8 ct_9_127 rc_72 ⟨Nat.le_of_ble_eq_true rfl, Nat.le_of_ble_eq_true rfl⟩ (Nat.le_of_ble_eq_true rfl) (Nat.le_of_ble_eq_true rfl) (m_ruleOf w _ _) ?_
        rw [rk_w, eq]
        refine gd_ist2 dX9_letsOf_11 rfl ?_
        refine gd_ild2 dX9_letsOf_12 ?_
        refine gd_if_ge_f 20 dX9_letsOf_13 (by decide) (by show ¬ 0 ≤ (-1 : Int32); decide) ?_
        refine gd_ic0 dX9_letsOf_16 ?_
        refine gd_goto 30 dX9_letsOf_17 (by decide) ?_
        refine gd_ist3 dX9_letsOf_30 rfl ?_
        refine gd_ild2 dX9_letsOf_31 ?_
        refine gd_if_ge_f 40 dX9_letsOf_32 (by decide) (by show ¬ 0 ≤ (-1 : Int32); decide) ?_
        refine gd_bipush (v := nI 11) dX9_letsOf_35 (by decide) ?_
        refine gd_goto 50 dX9_letsOf_37 (by decide) ?_
        refine gd_ist4 dX9_letsOf_50 rfl ?_
        refine gd_ald0 dX9_letsOf_52 (by decide) ?_
        refine gd_ild1 dX9_letsOf_53 ?_
        refine gd_ic0 dX9_letsOf_54 ?_
        refine gd_cV2i dX9_letsOf_55 ct_9_120 rc_72 ⟨Nat.le_of_ble_eq_true rfl, Nat.le_of_ble_eq_true rfl⟩ (Nat.le_of_ble_eq_true rfl) (Nat.le_of_ble_eq_true rfl) (m_its (l := l) (w := 0) (by omega) (by decide) _) ?_
        rw [show h.1 78 (9 * l + 0) = nI k by rw [← ms_r4 (by omega)]; exact a1]
        refine gd_ist5 dX9_letsOf_58 rfl ?_
        refine gd_ild5 dX9_letsOf_60 ?_
        refine gd_ic4 dX9_letsOf_62 ?_
        refine gd_icmp_ne_t 83 dX9_letsOf_63 (by decide) (by exact fun z => absurd ((nI_eq (by omega) (by omega)).mp z) (by omega)) ?_
        refine gd_ild5 dX9_letsOf_83 ?_
        refine gd_ic2 dX9_letsOf_85 ?_
        refine gd_icmp_eq_t 95 dX9_letsOf_86 (by decide) (by exact (nI_eq (by omega) (by omega)).mpr (by omega)) ?_
        refine gd_ild3 dX9_letsOf_95 ?_
        refine gd_ic1 dX9_letsOf_96 ?_
        refine gd_isub dX9_letsOf_97 ?_
        refine gd_ild4 dX9_letsOf_98 ?_
        refine gd_ic1 dX9_letsOf_100 ?_
        refine gd_iadd dX9_letsOf_101 ?_
        rw [nI_add]
        refine gd_cS2i dX9_letsOf_102 ct_9_130 ⟨Nat.le_of_ble_eq_true rfl, Nat.le_of_ble_eq_true rfl⟩ (Nat.le_of_ble_eq_true rfl) (Nat.le_of_ble_eq_true rfl) (rg) ?_
        refine gd_goto 114 dX9_letsOf_105 (by decide) ?_
        refine gd_iret dX9_letsOf_114 rfl rfl ?_
        rfl
      · refine gd_ald0 dX9_letsOf_0 (by decide) ?_
        refine gd_ic0 dX9_letsOf_1 ?_
        refine gd_ald0 dX9_letsOf_2 (by decide) ?_
        refine gd_ild1 dX9_letsOf_3 ?_
        refine gd_ic2 dX9_letsOf_4 ?_
        refine gd_cV2i dX9_letsOf_5 ct_9_120 rc_72 ⟨Nat.le_of_ble_eq_true rfl, Nat.le_of_ble_eq_true rfl⟩ (Nat.le_of_ble_eq_true rfl) (Nat.le_of_ble_eq_true rfl) (m_its (l := l) (w := 2) (by omega) (by decide) _) ?_
        rw [← ms_r4 (by omega), a3]
        refine gd_cV2i dX9_letsOf_8 ct_9_127 rc_72 ⟨Nat.le_of_ble_eq_true rfl, Nat.le_of_ble_eq_true rfl⟩ (Nat.le_of_ble_eq_true rfl) (Nat.le_of_ble_eq_true rfl) (m_ruleOf w _ _) ?_
        rw [rk_w, eq]
        refine gd_ist2 dX9_letsOf_11 rfl ?_
        refine gd_ild2 dX9_letsOf_12 ?_
        refine gd_if_ge_f 20 dX9_letsOf_13 (by decide) (by show ¬ 0 ≤ (-1 : Int32); decide) ?_
        refine gd_ic0 dX9_letsOf_16 ?_
        refine gd_goto 30 dX9_letsOf_17 (by decide) ?_
        refine gd_ist3 dX9_letsOf_30 rfl ?_
        refine gd_ild2 dX9_letsOf_31 ?_
        refine gd_if_ge_f 40 dX9_letsOf_32 (by decide) (by show ¬ 0 ≤ (-1 : Int32); decide) ?_
        refine gd_bipush (v := nI 11) dX9_letsOf_35 (by decide) ?_
        refine gd_goto 50 dX9_letsOf_37 (by decide) ?_
        refine gd_ist4 dX9_letsOf_50 rfl ?_
        refine gd_ald0 dX9_letsOf_52 (by decide) ?_
        refine gd_ild1 dX9_letsOf_53 ?_
        refine gd_ic0 dX9_letsOf_54 ?_
        refine gd_cV2i dX9_letsOf_55 ct_9_120 rc_72 ⟨Nat.le_of_ble_eq_true rfl, Nat.le_of_ble_eq_true rfl⟩ (Nat.le_of_ble_eq_true rfl) (Nat.le_of_ble_eq_true rfl) (m_its (l := l) (w := 0) (by omega) (by decide) _) ?_
        rw [show h.1 78 (9 * l + 0) = nI k by rw [← ms_r4 (by omega)]; exact a1]
        refine gd_ist5 dX9_letsOf_58 rfl ?_
        refine gd_ild5 dX9_letsOf_60 ?_
        refine gd_ic4 dX9_letsOf_62 ?_
        refine gd_icmp_ne_t 83 dX9_letsOf_63 (by decide) (by exact fun z => absurd ((nI_eq (by omega) (by omega)).mp z) (by omega)) ?_
        refine gd_ild5 dX9_letsOf_83 ?_
        refine gd_ic2 dX9_letsOf_85 ?_
        refine gd_icmp_eq_f 95 dX9_letsOf_86 (by decide) (by exact fun z => absurd ((nI_eq (by omega) (by omega)).mp z) (by omega)) ?_
        refine gd_ild5 dX9_letsOf_89 ?_
        refine gd_ic3 dX9_letsOf_91 ?_
        refine gd_icmp_ne_f 108 dX9_letsOf_92 (by decide) (by exact (nI_eq (by omega) (by omega)).mpr (by omega)) ?_
        refine gd_ild3 dX9_letsOf_95 ?_
        refine gd_ic1 dX9_letsOf_96 ?_
        refine gd_isub dX9_letsOf_97 ?_
        refine gd_ild4 dX9_letsOf_98 ?_
        refine gd_ic1 dX9_letsOf_100 ?_
        refine gd_iadd dX9_letsOf_101 ?_
        rw [nI_add]
        refine gd_cS2i dX9_letsOf_102 ct_9_130 ⟨Nat.le_of_ble_eq_true rfl, Nat.le_of_ble_eq_true rfl⟩ (Nat.le_of_ble_eq_true rfl) (Nat.le_of_ble_eq_true rfl) (rg) ?_
        refine gd_goto 114 dX9_letsOf_105 (by decide) ?_
        refine gd_iret dX9_letsOf_114 rfl rfl ?_
        rfl
    | some q2 =>
      obtain ⟨t2, r2, h1, h2, h3, h4, _⟩ := rk_at w eq
      have f1 := (mm_s w (by omega) eq).1
      have f2 := (mm_s w (by omega) eq).2.1
      have rg := m_range (f := mF (ms h) x) (L := mL (ms h) x + 1) (d := 1) (by omega) (by omega) (by omega) (by omega) h
      rcases q1 with q1 | q1
      · refine gd_ald0 dX9_letsOf_0 (by decide) ?_
        refine gd_ic0 dX9_letsOf_1 ?_
        refine gd_ald0 dX9_letsOf_2 (by decide) ?_
        refine gd_ild1 dX9_letsOf_3 ?_
        refine gd_ic2 dX9_letsOf_4 ?_
        refine gd_cV2i dX9_letsOf_5 ct_9_120 rc_72 ⟨Nat.le_of_ble_eq_true rfl, Nat.le_of_ble_eq_true rfl⟩ (Nat.le_of_ble_eq_true rfl) (Nat.le_of_ble_eq_true rfl) (m_its (l := l) (w := 2) (by omega) (by decide) _) ?_
        rw [← ms_r4 (by omega), a3]
        refine gd_cV2i dX9_letsOf_8 ct_9_127 rc_72 ⟨Nat.le_of_ble_eq_true rfl, Nat.le_of_ble_eq_true rfl⟩ (Nat.le_of_ble_eq_true rfl) (Nat.le_of_ble_eq_true rfl) (m_ruleOf w _ _) ?_
        rw [rk_w, eq, show oI (some q2) = nI q2 from rfl]
        refine gd_ist2 dX9_letsOf_11 rfl ?_
        refine gd_ild2 dX9_letsOf_12 ?_
        refine gd_if_ge_t 20 dX9_letsOf_13 (by decide) (nI_pos' (by omega)) ?_
        refine gd_ald0 dX9_letsOf_20 (by decide) ?_
        refine gd_getR (r := 80) dX9_letsOf_21 fl_9_31 rfl rfl rfl (by decide) ?_
        refine gd_ic4 dX9_letsOf_24 ?_
        refine gd_ild2 dX9_letsOf_25 ?_
        refine gd_imul dX9_letsOf_26 ?_
        refine gd_ic2 dX9_letsOf_27 ?_
        refine gd_iadd dX9_letsOf_28 ?_
        refine gd_iald (n := 192) dX9_letsOf_29 rfl (by decide) (by repeat' (first | with_reducible rfl | apply ni_add | apply ni_mul)) (by omega) ?_
        rw [← ms_r6 (by omega), f1]
        refine gd_ist3 dX9_letsOf_30 rfl ?_
        refine gd_ild2 dX9_letsOf_31 ?_
        refine gd_if_ge_t 40 dX9_letsOf_32 (by decide) (nI_pos' (by omega)) ?_
        refine gd_ald0 dX9_letsOf_40 (by decide) ?_
        refine gd_getR (r := 80) dX9_letsOf_41 fl_9_31 rfl rfl rfl (by decide) ?_
        refine gd_ic4 dX9_letsOf_44 ?_
        refine gd_ild2 dX9_letsOf_45 ?_
        refine gd_imul dX9_letsOf_46 ?_
        refine gd_ic3 dX9_letsOf_47 ?_
        refine gd_iadd dX9_letsOf_48 ?_
        refine gd_iald (n := 192) dX9_letsOf_49 rfl (by decide) (by repeat' (first | with_reducible rfl | apply ni_add | apply ni_mul)) (by omega) ?_
        rw [← ms_r6 (by omega), f2]
        refine gd_ist4 dX9_letsOf_50 rfl ?_
        refine gd_ald0 dX9_letsOf_52 (by decide) ?_
        refine gd_ild1 dX9_letsOf_53 ?_
        refine gd_ic0 dX9_letsOf_54 ?_
        refine gd_cV2i dX9_letsOf_55 ct_9_120 rc_72 ⟨Nat.le_of_ble_eq_true rfl, Nat.le_of_ble_eq_true rfl⟩ (Nat.le_of_ble_eq_true rfl) (Nat.le_of_ble_eq_true rfl) (m_its (l := l) (w := 0) (by omega) (by decide) _) ?_
        rw [show h.1 78 (9 * l + 0) = nI k by rw [← ms_r4 (by omega)]; exact a1]
        refine gd_ist5 dX9_letsOf_58 rfl ?_
        refine gd_ild5 dX9_letsOf_60 ?_
        refine gd_ic4 dX9_letsOf_62 ?_
        refine gd_icmp_ne_t 83 dX9_letsOf_63 (by decide) (by exact fun z => absurd ((nI_eq (by omega) (by omega)).mp z) (by omega)) ?_
        refine gd_ild5 dX9_letsOf_83 ?_
        refine gd_ic2 dX9_letsOf_85 ?_
        refine gd_icmp_eq_t 95 dX9_letsOf_86 (by decide) (by exact (nI_eq (by omega) (by omega)).mpr (by omega)) ?_
        refine gd_ild3 dX9_letsOf_95 ?_
        refine gd_ic1 dX9_letsOf_96 ?_
        refine gd_isub dX9_letsOf_97 ?_
        refine gd_ild4 dX9_letsOf_98 ?_
        refine gd_ic1 dX9_letsOf_100 ?_
        refine gd_iadd dX9_letsOf_101 ?_
        rw [nI_add]
        refine gd_cS2i dX9_letsOf_102 ct_9_130 ⟨Nat.le_of_ble_eq_true rfl, Nat.le_of_ble_eq_true rfl⟩ (Nat.le_of_ble_eq_true rfl) (Nat.le_of_ble_eq_true rfl) (rg) ?_
        refine gd_goto 114 dX9_letsOf_105 (by decide) ?_
        refine gd_iret dX9_letsOf_114 rfl rfl ?_
        rfl
      · refine gd_ald0 dX9_letsOf_0 (by decide) ?_
        refine gd_ic0 dX9_letsOf_1 ?_
        refine gd_ald0 dX9_letsOf_2 (by decide) ?_
        refine gd_ild1 dX9_letsOf_3 ?_
        refine gd_ic2 dX9_letsOf_4 ?_
        refine gd_cV2i dX9_letsOf_5 ct_9_120 rc_72 ⟨Nat.le_of_ble_eq_true rfl, Nat.le_of_ble_eq_true rfl⟩ (Nat.le_of_ble_eq_true rfl) (Nat.le_of_ble_eq_true rfl) (m_its (l := l) (w := 2) (by omega) (by decide) _) ?_
        rw [← ms_r4 (by omega), a3]
        refine gd_cV2i dX9_letsOf_8 ct_9_127 rc_72 ⟨Nat.le_of_ble_eq_true rfl, Nat.le_of_ble_eq_true rfl⟩ (Nat.le_of_ble_eq_true rfl) (Nat.le_of_ble_eq_true rfl) (m_ruleOf w _ _) ?_
        rw [rk_w, eq, show oI (some q2) = nI q2 from rfl]
        refine gd_ist2 dX9_letsOf_11 rfl ?_
        refine gd_ild2 dX9_letsOf_12 ?_
        refine gd_if_ge_t 20 dX9_letsOf_13 (by decide) (nI_pos' (by omega)) ?_
        refine gd_ald0 dX9_letsOf_20 (by decide) ?_
        refine gd_getR (r := 80) dX9_letsOf_21 fl_9_31 rfl rfl rfl (by decide) ?_
        refine gd_ic4 dX9_letsOf_24 ?_
        refine gd_ild2 dX9_letsOf_25 ?_
        refine gd_imul dX9_letsOf_26 ?_
        refine gd_ic2 dX9_letsOf_27 ?_
        refine gd_iadd dX9_letsOf_28 ?_
        refine gd_iald (n := 192) dX9_letsOf_29 rfl (by decide) (by repeat' (first | with_reducible rfl | apply ni_add | apply ni_mul)) (by omega) ?_
        rw [← ms_r6 (by omega), f1]
        refine gd_ist3 dX9_letsOf_30 rfl ?_
        refine gd_ild2 dX9_letsOf_31 ?_
        refine gd_if_ge_t 40 dX9_letsOf_32 (by decide) (nI_pos' (by omega)) ?_
        refine gd_ald0 dX9_letsOf_40 (by decide) ?_
        refine gd_getR (r := 80) dX9_letsOf_41 fl_9_31 rfl rfl rfl (by decide) ?_
        refine gd_ic4 dX9_letsOf_44 ?_
        refine gd_ild2 dX9_letsOf_45 ?_
        refine gd_imul dX9_letsOf_46 ?_
        refine gd_ic3 dX9_letsOf_47 ?_
        refine gd_iadd dX9_letsOf_48 ?_
        refine gd_iald (n := 192) dX9_letsOf_49 rfl (by decide) (by repeat' (first | with_reducible rfl | apply ni_add | apply ni_mul)) (by omega) ?_
        rw [← ms_r6 (by omega), f2]
        refine gd_ist4 dX9_letsOf_50 rfl ?_
        refine gd_ald0 dX9_letsOf_52 (by decide) ?_
        refine gd_ild1 dX9_letsOf_53 ?_
        refine gd_ic0 dX9_letsOf_54 ?_
        refine gd_cV2i dX9_letsOf_55 ct_9_120 rc_72 ⟨Nat.le_of_ble_eq_true rfl, Nat.le_of_ble_eq_true rfl⟩ (Nat.le_of_ble_eq_true rfl) (Nat.le_of_ble_eq_true rfl) (m_its (l := l) (w := 0) (by omega) (by decide) _) ?_
        rw [show h.1 78 (9 * l + 0) = nI k by rw [← ms_r4 (by omega)]; exact a1]
        refine gd_ist5 dX9_letsOf_58 rfl ?_
        refine gd_ild5 dX9_letsOf_60 ?_
        refine gd_ic4 dX9_letsOf_62 ?_
        refine gd_icmp_ne_t 83 dX9_letsOf_63 (by decide) (by exact fun z => absurd ((nI_eq (by omega) (by omega)).mp z) (by omega)) ?_
        refine gd_ild5 dX9_letsOf_83 ?_
        refine gd_ic2 dX9_letsOf_85 ?_
        refine gd_icmp_eq_f 95 dX9_letsOf_86 (by decide) (by exact fun z => absurd ((nI_eq (by omega) (by omega)).mp z) (by omega)) ?_
        refine gd_ild5 dX9_letsOf_89 ?_
        refine gd_ic3 dX9_letsOf_91 ?_
        refine gd_icmp_ne_f 108 dX9_letsOf_92 (by decide) (by exact (nI_eq (by omega) (by omega)).mpr (by omega)) ?_
        refine gd_ild3 dX9_letsOf_95 ?_
        refine gd_ic1 dX9_letsOf_96 ?_
        refine gd_isub dX9_letsOf_97 ?_
        refine gd_ild4 dX9_letsOf_98 ?_
        refine gd_ic1 dX9_letsOf_100 ?_
        refine gd_iadd dX9_letsOf_101 ?_
        rw [nI_add]
        refine gd_cS2i dX9_letsOf_102 ct_9_130 ⟨Nat.le_of_ble_eq_true rfl, Nat.le_of_ble_eq_true rfl⟩ (Nat.le_of_ble_eq_true rfl) (Nat.le_of_ble_eq_true rfl) (rg) ?_
        refine gd_goto 114 dX9_letsOf_105 (by decide) ?_
        refine gd_iret dX9_letsOf_114 rfl rfl ?_
        rfl
  · have el : letN (ms h) l = stS (mF (ms h) x) (mL (ms h) x) 0 0 := by unfold letN ld1 ld2; rw [ek, ex, if_neg (by omega), if_neg (by omega)]
    rw [el]
    cases eq : rk (ms h) (8 + x) with
    | none =>
      have f1 : mF (ms h) x = 0 := (mm_n eq).1
      have f2 : mL (ms h) x = 11 := (mm_n eq).2
      have rg := m_range (f := mF (ms h) x) (L := mL (ms h) x + 0) (d := 0) (by omega) (by omega) (by omega) (by omega) h
      rw [sub0] at rg
      rw [f1, f2] at rg ⊢
      refine gd_ald0 dX9_letsOf_0 (by decide) ?_
      refine gd_ic0 dX9_letsOf_1 ?_
      refine gd_ald0 dX9_letsOf_2 (by decide) ?_
      refine gd_ild1 dX9_letsOf_3 ?_
      refine gd_ic2 dX9_letsOf_4 ?_
      refine gd_cV2i dX9_letsOf_5 ct_9_120 rc_72 ⟨Nat.le_of_ble_eq_true rfl, Nat.le_of_ble_eq_true rfl⟩ (Nat.le_of_ble_eq_true rfl) (Nat.le_of_ble_eq_true rfl) (m_its (l := l) (w := 2) (by omega) (by decide) _) ?_
      rw [← ms_r4 (by omega), a3]
      refine gd_cV2i dX9_letsOf_8 ct_9_127 rc_72 ⟨Nat.le_of_ble_eq_true rfl, Nat.le_of_ble_eq_true rfl⟩ (Nat.le_of_ble_eq_true rfl) (Nat.le_of_ble_eq_true rfl) (m_ruleOf w _ _) ?_
      rw [rk_w, eq]
      refine gd_ist2 dX9_letsOf_11 rfl ?_
      refine gd_ild2 dX9_letsOf_12 ?_
      refine gd_if_ge_f 20 dX9_letsOf_13 (by decide) (by show ¬ 0 ≤ (-1 : Int32); decide) ?_
      refine gd_ic0 dX9_letsOf_16 ?_
      refine gd_goto 30 dX9_letsOf_17 (by decide) ?_
      refine gd_ist3 dX9_letsOf_30 rfl ?_
      refine gd_ild2 dX9_letsOf_31 ?_
      refine gd_if_ge_f 40 dX9_letsOf_32 (by decide) (by show ¬ 0 ≤ (-1 : Int32); decide) ?_
      refine gd_bipush (v := nI 11) dX9_letsOf_35 (by decide) ?_
      refine gd_goto 50 dX9_letsOf_37 (by decide) ?_
      refine gd_ist4 dX9_letsOf_50 rfl ?_
      refine gd_ald0 dX9_letsOf_52 (by decide) ?_
      refine gd_ild1 dX9_letsOf_53 ?_
      refine gd_ic0 dX9_letsOf_54 ?_
      refine gd_cV2i dX9_letsOf_55 ct_9_120 rc_72 ⟨Nat.le_of_ble_eq_true rfl, Nat.le_of_ble_eq_true rfl⟩ (Nat.le_of_ble_eq_true rfl) (Nat.le_of_ble_eq_true rfl) (m_its (l := l) (w := 0) (by omega) (by decide) _) ?_
      rw [show h.1 78 (9 * l + 0) = nI k by rw [← ms_r4 (by omega)]; exact a1]
      refine gd_ist5 dX9_letsOf_58 rfl ?_
      refine gd_ild5 dX9_letsOf_60 ?_
      refine gd_ic4 dX9_letsOf_62 ?_
      refine gd_icmp_ne_t 83 dX9_letsOf_63 (by decide) (by exact fun z => absurd ((nI_eq (by omega) (by omega)).mp z) (by omega)) ?_
      refine gd_ild5 dX9_letsOf_83 ?_
      refine gd_ic2 dX9_letsOf_85 ?_
      refine gd_icmp_eq_f 95 dX9_letsOf_86 (by decide) (by exact fun z => absurd ((nI_eq (by omega) (by omega)).mp z) (by omega)) ?_
      refine gd_ild5 dX9_letsOf_89 ?_
      refine gd_ic3 dX9_letsOf_91 ?_
      refine gd_icmp_ne_t 108 dX9_letsOf_92 (by decide) (by exact fun z => absurd ((nI_eq (by omega) (by omega)).mp z) (by omega)) ?_
      refine gd_ild3 dX9_letsOf_108 ?_
      refine gd_ild4 dX9_letsOf_109 ?_
      refine gd_cS2i dX9_letsOf_111 ct_9_130 ⟨Nat.le_of_ble_eq_true rfl, Nat.le_of_ble_eq_true rfl⟩ (Nat.le_of_ble_eq_true rfl) (Nat.le_of_ble_eq_true rfl) (rg) ?_
      refine gd_iret dX9_letsOf_114 rfl rfl ?_
      rfl
    | some q2 =>
      obtain ⟨t2, r2, h1, h2, h3, h4, _⟩ := rk_at w eq
      have f1 := (mm_s w (by omega) eq).1
      have f2 := (mm_s w (by omega) eq).2.1
      have rg := m_range (f := mF (ms h) x) (L := mL (ms h) x + 0) (d := 0) (by omega) (by omega) (by omega) (by omega) h
      rw [sub0] at rg
      refine gd_ald0 dX9_letsOf_0 (by decide) ?_
      refine gd_ic0 dX9_letsOf_1 ?_
      refine gd_ald0 dX9_letsOf_2 (by decide) ?_
      refine gd_ild1 dX9_letsOf_3 ?_
      refine gd_ic2 dX9_letsOf_4 ?_
      refine gd_cV2i dX9_letsOf_5 ct_9_120 rc_72 ⟨Nat.le_of_ble_eq_true rfl, Nat.le_of_ble_eq_true rfl⟩ (Nat.le_of_ble_eq_true rfl) (Nat.le_of_ble_eq_true rfl) (m_its (l := l) (w := 2) (by omega) (by decide) _) ?_
      rw [← ms_r4 (by omega), a3]
      refine gd_cV2i dX9_letsOf_8 ct_9_127 rc_72 ⟨Nat.le_of_ble_eq_true rfl, Nat.le_of_ble_eq_true rfl⟩ (Nat.le_of_ble_eq_true rfl) (Nat.le_of_ble_eq_true rfl) (m_ruleOf w _ _) ?_
      rw [rk_w, eq, show oI (some q2) = nI q2 from rfl]
      refine gd_ist2 dX9_letsOf_11 rfl ?_
      refine gd_ild2 dX9_letsOf_12 ?_
      refine gd_if_ge_t 20 dX9_letsOf_13 (by decide) (nI_pos' (by omega)) ?_
      refine gd_ald0 dX9_letsOf_20 (by decide) ?_
      refine gd_getR (r := 80) dX9_letsOf_21 fl_9_31 rfl rfl rfl (by decide) ?_
      refine gd_ic4 dX9_letsOf_24 ?_
      refine gd_ild2 dX9_letsOf_25 ?_
      refine gd_imul dX9_letsOf_26 ?_
      refine gd_ic2 dX9_letsOf_27 ?_
      refine gd_iadd dX9_letsOf_28 ?_
      refine gd_iald (n := 192) dX9_letsOf_29 rfl (by decide) (by repeat' (first | with_reducible rfl | apply ni_add | apply ni_mul)) (by omega) ?_
      rw [← ms_r6 (by omega), f1]
      refine gd_ist3 dX9_letsOf_30 rfl ?_
      refine gd_ild2 dX9_letsOf_31 ?_
      refine gd_if_ge_t 40 dX9_letsOf_32 (by decide) (nI_pos' (by omega)) ?_
      refine gd_ald0 dX9_letsOf_40 (by decide) ?_
      refine gd_getR (r := 80) dX9_letsOf_41 fl_9_31 rfl rfl rfl (by decide) ?_
      refine gd_ic4 dX9_letsOf_44 ?_
      refine gd_ild2 dX9_letsOf_45 ?_
      refine gd_imul dX9_letsOf_46 ?_
      refine gd_ic3 dX9_letsOf_47 ?_
      refine gd_iadd dX9_letsOf_48 ?_
      refine gd_iald (n := 192) dX9_letsOf_49 rfl (by decide) (by repeat' (first | with_reducible rfl | apply ni_add | apply ni_mul)) (by omega) ?_
      rw [← ms_r6 (by omega), f2]
      refine gd_ist4 dX9_letsOf_50 rfl ?_
      refine gd_ald0 dX9_letsOf_52 (by decide) ?_
      refine gd_ild1 dX9_letsOf_53 ?_
      refine gd_ic0 dX9_letsOf_54 ?_
      refine gd_cV2i dX9_letsOf_55 ct_9_120 rc_72 ⟨Nat.le_of_ble_eq_true rfl, Nat.le_of_ble_eq_true rfl⟩ (Nat.le_of_ble_eq_true rfl) (Nat.le_of_ble_eq_true rfl) (m_its (l := l) (w := 0) (by omega) (by decide) _) ?_
      rw [show h.1 78 (9 * l + 0) = nI k by rw [← ms_r4 (by omega)]; exact a1]
      refine gd_ist5 dX9_letsOf_58 rfl ?_
      refine gd_ild5 dX9_letsOf_60 ?_
      refine gd_ic4 dX9_letsOf_62 ?_
      refine gd_icmp_ne_t 83 dX9_letsOf_63 (by decide) (by exact fun z => absurd ((nI_eq (by omega) (by omega)).mp z) (by omega)) ?_
      refine gd_ild5 dX9_letsOf_83 ?_
      refine gd_ic2 dX9_letsOf_85 ?_
      refine gd_icmp_eq_f 95 dX9_letsOf_86 (by decide) (by exact fun z => absurd ((nI_eq (by omega) (by omega)).mp z) (by omega)) ?_
      refine gd_ild5 dX9_letsOf_89 ?_
      refine gd_ic3 dX9_letsOf_91 ?_
      refine gd_icmp_ne_t 108 dX9_letsOf_92 (by decide) (by exact fun z => absurd ((nI_eq (by omega) (by omega)).mp z) (by omega)) ?_
      refine gd_ild3 dX9_letsOf_108 ?_
      refine gd_ild4 dX9_letsOf_109 ?_
      refine gd_cS2i dX9_letsOf_111 ct_9_130 ⟨Nat.le_of_ble_eq_true rfl, Nat.le_of_ble_eq_true rfl⟩ (Nat.le_of_ble_eq_true rfl) (Nat.le_of_ble_eq_true rfl) (rg) ?_
      refine gd_iret dX9_letsOf_114 rfl rfl ?_
      rfl
set_option maxHeartbeats 1000000 in
theorem p_lets {h : Hp} (i : Inv h) (a : Int32) : Pas mX8_lets mX9_lets [.ref 0, .int a] [.ref 72, .int a] h := by
  rcases rng a (nN (ms h)) (by have := i.lN; omega) with ⟨l, hl, rfl⟩ | ha
  · refine Pas.read (r := .int (nI (letN (ms h) l))) (r2 := .int (nI (letN (ms h) l))) (h1 := h) (h2 := h) i rfl (Same.rf _) (Same.rf _) ?_ ?_
    · refine gd_ald0 dX8_lets_0 (by decide) ?_
      refine gd_ild1 dX8_lets_1 ?_
      refine gd_cV1i dX8_lets_2 ct_8_142 rc_0 ⟨Nat.le_of_ble_eq_true rfl, Nat.le_of_ble_eq_true rfl⟩ (Nat.le_of_ble_eq_true rfl) (Nat.le_of_ble_eq_true rfl) (c_isLetter_t i.w i.c hl) ?_
      refine gd_if_ne_t 15 dX8_lets_5 (by decide) (by decide) ?_
      refine gd_ald0 dX8_lets_15 (by decide) ?_
      refine gd_getR (r := 1) dX8_lets_16 fl_8_12 rfl rfl rfl (by decide) ?_
      refine gd_ild1 dX8_lets_19 ?_
      refine gd_cV1i dX8_lets_20 ct_8_162 rc_1 ⟨Nat.le_of_ble_eq_true rfl, Nat.le_of_ble_eq_true rfl⟩ (Nat.le_of_ble_eq_true rfl) (Nat.le_of_ble_eq_true rfl) (c_letSet i.w i.c hl) ?_
      refine gd_iret dX8_lets_23 rfl rfl ?_
      rfl
    · refine gd_ald0 dX9_lets_0 (by decide) ?_
      refine gd_ild1 dX9_lets_1 ?_
      refine gd_cV1i dX9_lets_2 ct_9_113 rc_72 ⟨Nat.le_of_ble_eq_true rfl, Nat.le_of_ble_eq_true rfl⟩ (Nat.le_of_ble_eq_true rfl) (Nat.le_of_ble_eq_true rfl) (m_isLetter_t (h := h) (by exact i.w) hl) ?_
      refine gd_if_eq_f 16 dX9_lets_5 (by decide) (by decide) ?_
      refine gd_ald0 dX9_lets_8 (by decide) ?_
      refine gd_ild1 dX9_lets_9 ?_
      refine gd_cV1i dX9_lets_10 ct_9_133 rc_72 ⟨Nat.le_of_ble_eq_true rfl, Nat.le_of_ble_eq_true rfl⟩ (Nat.le_of_ble_eq_true rfl) (Nat.le_of_ble_eq_true rfl) (m_letsOf i.w hl) ?_
      refine gd_goto 21 dX9_lets_13 (by decide) ?_
      refine gd_iret dX9_lets_21 rfl rfl ?_
      rfl
  · refine Pas.find (h1 := h) (h2 := hf (h) 0) (v := -1000000001) (w := (-1000000000 : Int32) - nI 1) 0 i (by decide) (by decide) (by decide) (Same.rf _) (Same.rf _) ?_ ?_
    · refine gd_ald0 dX8_lets_0 (by decide) ?_
      refine gd_ild1 dX8_lets_1 ?_
      refine gd_cV1i dX8_lets_2 ct_8_142 rc_0 ⟨Nat.le_of_ble_eq_true rfl, Nat.le_of_ble_eq_true rfl⟩ (Nat.le_of_ble_eq_true rfl) (Nat.le_of_ble_eq_true rfl) (c_isLetter_f i.w i.c ha) ?_
      refine gd_if_ne_f 15 dX8_lets_5 (by decide) (by decide) ?_
      refine gd_ald0 dX8_lets_8 (by decide) ?_
      refine gd_ldc dX8_lets_9 ld_8_52 ?_
      refine gd_cV1i dX8_lets_11 ct_8_53 rc_0 ⟨Nat.le_of_ble_eq_true rfl, Nat.le_of_ble_eq_true rfl⟩ (Nat.le_of_ble_eq_true rfl) (Nat.le_of_ble_eq_true rfl) (c_f0 _) ?_
      refine gd_iret dX8_lets_14 rfl rfl ?_
      rfl
    · refine gd_ald0 dX9_lets_0 (by decide) ?_
      refine gd_ild1 dX9_lets_1 ?_
      refine gd_cV1i dX9_lets_2 ct_9_113 rc_72 ⟨Nat.le_of_ble_eq_true rfl, Nat.le_of_ble_eq_true rfl⟩ (Nat.le_of_ble_eq_true rfl) (Nat.le_of_ble_eq_true rfl) (m_isLetter_f (h := hf h 0) (by exact i.w) ha) ?_
      refine gd_if_eq_t 16 dX9_lets_5 (by decide) (by decide) ?_
      refine gd_ald0 dX9_lets_16 (by decide) ?_
      refine gd_ic1 dX9_lets_17 ?_
      refine gd_cV1i dX9_lets_18 ct_9_97 rc_72 ⟨Nat.le_of_ble_eq_true rfl, Nat.le_of_ble_eq_true rfl⟩ (Nat.le_of_ble_eq_true rfl) (Nat.le_of_ble_eq_true rfl) (m_f0 _) ?_
      refine gd_iret dX9_lets_21 rfl rfl ?_
      rfl
