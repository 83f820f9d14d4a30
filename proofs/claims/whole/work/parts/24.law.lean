
theorem ms_hf {h : Hp} {j : Nat} : ms (hf h j) = ms h := ms_si (Or.inl (by decide))
def lawV (s : Nat → Nat → Int32) (k : Nat) : Int32 := match rk s k with
  | some q => s 6 (4 * q + 2)
  | none => (stI 97).getD k 0
theorem lawV_s {s : Nat → Nat → Int32} {k q : Nat} (e : rk s k = some q) : lawV s k = s 6 (4 * q + 2) := by unfold lawV; rw [e]
theorem lawV_n {s : Nat → Nat → Int32} {k : Nat} (e : rk s k = none) : lawV s k = (stI 97).getD k 0 := by unfold lawV; rw [e]
theorem rk_ok {s : Nat → Nat → Int32} {k q : Nat} (w : WF s) (hk : k < 24) (e : rk s k = some q) : ∃ u v : Nat, s 6 (4 * q + 2) = nI u ∧ s 6 (4 * q + 3) = nI v ∧ u ≤ v ∧ (8 ≤ k → v ≤ 11) ∧ (k < 4 → v ≤ 99) ∧ (k = 4 → 1 ≤ u ∧ v ≤ 20) ∧ (4 < k ∧ k < 8 → v ≤ 9) := by
  obtain ⟨t, r, h1, h2, rfl, h4, h5, h6⟩ := rk_at w e
  obtain ⟨wn, an, un, vn, e1, e2, e3, e4, g1, g2⟩ := w.r t h1 r h2
  rw [e1] at h5
  have kb : kw k ≤ 3 := by unfold kw; split <;> (try split) <;> (try split) <;> omega
  rw [nI_eq (by omega) (by omega)] at h5
  refine ⟨un, vn, e3, e4, g1, ?_⟩
  unfold kw at h5
  repeat' split at h5
  all_goals refine ⟨fun _ => ?_, fun _ => ?_, fun _ => ?_, fun _ => ?_⟩
  all_goals omega
theorem law_ok {s : Nat → Nat → Int32} (w : WF s) {k : Nat} (hk : k < 8) : ∃ v : Nat, lawV s k = nI v ∧ v ≤ 99 ∧ (k = 4 → 1 ≤ v ∧ v ≤ 20) ∧ (4 < k → v ≤ 9) := by
  cases e : rk s k with
  | none =>
    rw [lawV_n e]
    have : ∀ k, k < 8 → ∃ v, v < 10 ∧ (stI 97).getD k 0 = nI v ∧ (k = 4 → 1 ≤ v) := by decide
    obtain ⟨v, h1, h2, h3⟩ := this k hk
    exact ⟨v, h2, by omega, fun z => ⟨h3 z, by omega⟩, fun _ => by omega⟩
  | some q =>
    rw [lawV_s e]
    obtain ⟨u, v, h1, h2, h3, h4, h5, h6, h7⟩ := rk_ok w (by omega) e
    refine ⟨u, h1, ?_, fun z => ⟨(h6 z).1, by have := (h6 z).2; omega⟩, fun z => by have := h7 ⟨z, hk⟩; omega⟩
    rcases (show k < 4 ∨ k = 4 ∨ (4 < k ∧ k < 8) by omega) with z | z | z
    · have := h5 z; omega
    · have := (h6 z).2; omega
    · have := h7 z; omega

theorem c_lawOf {h : Hp} {s : Nat → Nat → Int32} (w : WF s) (c : CR h 1 s) {k : Nat} (hk : k < 8) : Gd mX7_lawOf 0 [.ref 1, .int (nI k), .null] [] h (some (.int (lawV s k)), h) := by
  cases e : rk s k with
  | none =>
    refine gd_ald0 dX7_lawOf_0 (by decide) ?_
    refine gd_getR (r := 15) dX7_lawOf_1 fl_7_28 rfl rfl rfl (by decide) ?_
    refine gd_ild1 dX7_lawOf_4 ?_
    refine gd_ald0 dX7_lawOf_5 (by decide) ?_
    refine gd_getR (r := 2) dX7_lawOf_6 fl_7_12 rfl rfl rfl (by decide) ?_
    refine gd_getI dX7_lawOf_9 fl_7_56 rfl rfl ?_
    rw [c.d1]
    refine gd_cV2i dX7_lawOf_12 ct_7_64 rc_15 ⟨Nat.le_of_ble_eq_true rfl, Nat.le_of_ble_eq_true rfl⟩ (Nat.le_of_ble_eq_true rfl) (Nat.le_of_ble_eq_true rfl) (c_ruleFor w c (by omega)) ?_
    rw [e]
    refine gd_ist2 dX7_lawOf_15 rfl ?_
    refine gd_ild2 dX7_lawOf_16 ?_
    refine gd_if_ge_f 28 dX7_lawOf_17 (by decide) (by show ¬ 0 ≤ (-1 : Int32); decide) ?_
    refine gd_gsW rfl dX7_lawOf_20 ?_
    refine gd_ild1 dX7_lawOf_23 ?_
    refine gd_wald dX7_lawOf_24 (by repeat' (first | with_reducible rfl | apply ni_add | apply ni_mul)) (by omega) ?_
    refine gd_goto 37 dX7_lawOf_25 (by decide) ?_
    refine gd_iret dX7_lawOf_37 rfl rfl ?_
    rw [lawV_n e]
  | some q =>
    obtain ⟨t, r, h1, h2, h3, h4, _⟩ := rk_at w e
    refine gd_ald0 dX7_lawOf_0 (by decide) ?_
    refine gd_getR (r := 15) dX7_lawOf_1 fl_7_28 rfl rfl rfl (by decide) ?_
    refine gd_ild1 dX7_lawOf_4 ?_
    refine gd_ald0 dX7_lawOf_5 (by decide) ?_
    refine gd_getR (r := 2) dX7_lawOf_6 fl_7_12 rfl rfl rfl (by decide) ?_
    refine gd_getI dX7_lawOf_9 fl_7_56 rfl rfl ?_
    rw [c.d1]
    refine gd_cV2i dX7_lawOf_12 ct_7_64 rc_15 ⟨Nat.le_of_ble_eq_true rfl, Nat.le_of_ble_eq_true rfl⟩ (Nat.le_of_ble_eq_true rfl) (Nat.le_of_ble_eq_true rfl) (c_ruleFor w c (by omega)) ?_
    rw [e]
    refine gd_ist2 dX7_lawOf_15 rfl ?_
    refine gd_ild2 dX7_lawOf_16 ?_
    refine gd_if_ge_t 28 dX7_lawOf_17 (by decide) (nI_pos' (by omega)) ?_
    refine gd_ald0 dX7_lawOf_28 (by decide) ?_
    refine gd_getR (r := 15) dX7_lawOf_29 fl_7_28 rfl rfl rfl (by decide) ?_
    refine gd_getR (r := 19) dX7_lawOf_32 fl_7_70 rfl rfl rfl (by decide) ?_
    refine gd_ild2 dX7_lawOf_35 ?_
    refine gd_iald (j := q) (n := 48) dX7_lawOf_36 rfl (by decide) (rfl) (by omega) ?_
    refine gd_iret dX7_lawOf_37 rfl rfl ?_
    rw [lawV_s e, h3, c.rl1 t h1 r h2]
theorem m_lawOf {h : Hp} (f : WF (ms h)) {k : Nat} (hk : k < 8) : Gd mX9_lawOf 0 [.ref 72, .int (nI k), .null] [] h (some (.int (lawV (ms h) k)), h) := by
  cases e : rk (ms h) k with
  | none =>
    rcases (show k < 4 ∨ k = 4 ∨ (4 < k ∧ k < 8) by omega) with q | q | q
    · refine gd_ald0 dX9_lawOf_0 (by decide) ?_
      refine gd_ild1 dX9_lawOf_1 ?_
      refine gd_cV1i dX9_lawOf_2 ct_9_210 rc_72 ⟨Nat.le_of_ble_eq_true rfl, Nat.le_of_ble_eq_true rfl⟩ (Nat.le_of_ble_eq_true rfl) (Nat.le_of_ble_eq_true rfl) (m_ruleAbout f (by omega)) ?_
      rw [e]
      refine gd_ist2 dX9_lawOf_5 rfl ?_
      refine gd_ild2 dX9_lawOf_6 ?_
      refine gd_if_lt_t 23 dX9_lawOf_7 (by decide) (by show (-1 : Int32) < 0; decide) ?_
      refine gd_ild1 dX9_lawOf_23 ?_
      refine gd_ic4 dX9_lawOf_24 ?_
      refine gd_icmp_ge_f 32 dX9_lawOf_25 (by decide) (by exact nI_ge (by omega) (by omega)) ?_
      refine gd_ic0 dX9_lawOf_28 ?_
      refine gd_goto 44 dX9_lawOf_29 (by decide) ?_
      refine gd_iret dX9_lawOf_44 rfl rfl ?_
      rw [lawV_n e]
      have : ∀ k, k < 4 → (stI 97).getD k 0 = nI 0 := by decide
      rw [this k q]
    · refine gd_ald0 dX9_lawOf_0 (by decide) ?_
      refine gd_ild1 dX9_lawOf_1 ?_
      refine gd_cV1i dX9_lawOf_2 ct_9_210 rc_72 ⟨Nat.le_of_ble_eq_true rfl, Nat.le_of_ble_eq_true rfl⟩ (Nat.le_of_ble_eq_true rfl) (Nat.le_of_ble_eq_true rfl) (m_ruleAbout f (by omega)) ?_
      rw [e]
      refine gd_ist2 dX9_lawOf_5 rfl ?_
      refine gd_ild2 dX9_lawOf_6 ?_
      refine gd_if_lt_t 23 dX9_lawOf_7 (by decide) (by show (-1 : Int32) < 0; decide) ?_
      refine gd_ild1 dX9_lawOf_23 ?_
      refine gd_ic4 dX9_lawOf_24 ?_
      refine gd_icmp_ge_t 32 dX9_lawOf_25 (by decide) (by exact nI_le (by omega) (by omega)) ?_
      refine gd_ild1 dX9_lawOf_32 ?_
      refine gd_ic4 dX9_lawOf_33 ?_
      refine gd_icmp_ne_f 41 dX9_lawOf_34 (by decide) (by exact (nI_eq (by omega) (by omega)).mpr (by omega)) ?_
      refine gd_ic4 dX9_lawOf_37 ?_
      refine gd_goto 44 dX9_lawOf_38 (by decide) ?_
      refine gd_iret dX9_lawOf_44 rfl rfl ?_
      rw [lawV_n e]
      subst q
      rfl
    · refine gd_ald0 dX9_lawOf_0 (by decide) ?_
      refine gd_ild1 dX9_lawOf_1 ?_
      refine gd_cV1i dX9_lawOf_2 ct_9_210 rc_72 ⟨Nat.le_of_ble_eq_true rfl, Nat.le_of_ble_eq_true rfl⟩ (Nat.le_of_ble_eq_true rfl) (Nat.le_of_ble_eq_true rfl) (m_ruleAbout f (by omega)) ?_
      rw [e]
      refine gd_ist2 dX9_lawOf_5 rfl ?_
      refine gd_ild2 dX9_lawOf_6 ?_
      refine gd_if_lt_t 23 dX9_lawOf_7 (by decide) (by show (-1 : Int32) < 0; decide) ?_
      refine gd_ild1 dX9_lawOf_23 ?_
      refine gd_ic4 dX9_lawOf_24 ?_
      refine gd_icmp_ge_t 32 dX9_lawOf_25 (by decide) (by exact nI_le (by omega) (by omega)) ?_
      refine gd_ild1 dX9_lawOf_32 ?_
      refine gd_ic4 dX9_lawOf_33 ?_
      refine gd_icmp_ne_t 41 dX9_lawOf_34 (by decide) (by exact fun z => absurd ((nI_eq (by omega) (by omega)).mp z) (by omega)) ?_
      refine gd_ild1 dX9_lawOf_41 ?_
      refine gd_ic5 dX9_lawOf_42 ?_
      refine gd_isub dX9_lawOf_43 ?_
      refine gd_iret dX9_lawOf_44 rfl rfl ?_
      rw [lawV_n e, pk_sub (by omega)]
      have : ∀ k, k < 8 → 4 < k → (stI 97).getD k 0 = nI (k - 5) := by decide
      rw [this k hk q.1]
  | some q =>
    obtain ⟨t, r, h1, h2, h3, h4, _⟩ := rk_at f e
    refine gd_ald0 dX9_lawOf_0 (by decide) ?_
    refine gd_ild1 dX9_lawOf_1 ?_
    refine gd_cV1i dX9_lawOf_2 ct_9_210 rc_72 ⟨Nat.le_of_ble_eq_true rfl, Nat.le_of_ble_eq_true rfl⟩ (Nat.le_of_ble_eq_true rfl) (Nat.le_of_ble_eq_true rfl) (m_ruleAbout f (by omega)) ?_
    rw [e, show oI (some q) = nI q from rfl]
    refine gd_ist2 dX9_lawOf_5 rfl ?_
    refine gd_ild2 dX9_lawOf_6 ?_
    refine gd_if_lt_f 23 dX9_lawOf_7 (by decide) (nI_pos (by omega)) ?_
    refine gd_ald0 dX9_lawOf_10 (by decide) ?_
    refine gd_getR (r := 80) dX9_lawOf_11 fl_9_31 rfl rfl rfl (by decide) ?_
    refine gd_ic4 dX9_lawOf_14 ?_
    refine gd_ild2 dX9_lawOf_15 ?_
    refine gd_imul dX9_lawOf_16 ?_
    refine gd_ic2 dX9_lawOf_17 ?_
    refine gd_iadd dX9_lawOf_18 ?_
    refine gd_iald (n := 192) dX9_lawOf_19 rfl (by decide) (by repeat' (first | with_reducible rfl | apply ni_add | apply ni_mul)) (by omega) ?_
    refine gd_goto 44 dX9_lawOf_20 (by decide) ?_
    refine gd_iret dX9_lawOf_44 rfl rfl ?_
    rw [lawV_s e, ms_r6 (by omega)]
set_option maxHeartbeats 1000000 in
theorem p_law {h : Hp} (i : Inv h) (a : Int32) : Pas mX8_law mX9_law [.ref 0, .int a] [.ref 72, .int a] h := by
  rcases rng a (8) (by decide) with ⟨k, hk, rfl⟩ | ha
  · refine Pas.read (r := .int (lawV (ms h) k)) (r2 := .int (lawV (ms h) k)) (h1 := h) (h2 := h) i rfl (Same.rf _) (Same.rf _) ?_ ?_
    · refine gd_ild1 dX8_law_0 ?_
      refine gd_bipush (v := nI 8) dX8_law_1 (by decide) ?_
      refine gd_cS2i dX8_law_3 ct_8_48 ⟨Nat.le_of_ble_eq_true rfl, Nat.le_of_ble_eq_true rfl⟩ (Nat.le_of_ble_eq_true rfl) (Nat.le_of_ble_eq_true rfl) (c_isBelow_t hk (by decide) _) ?_
      refine gd_if_ne_t 16 dX8_law_6 (by decide) (by decide) ?_
      refine gd_ald0 dX8_law_16 (by decide) ?_
      refine gd_getR (r := 1) dX8_law_17 fl_8_12 rfl rfl rfl (by decide) ?_
      refine gd_ild1 dX8_law_20 ?_
      refine gd_cV1i dX8_law_21 ct_8_205 rc_1 ⟨Nat.le_of_ble_eq_true rfl, Nat.le_of_ble_eq_true rfl⟩ (Nat.le_of_ble_eq_true rfl) (Nat.le_of_ble_eq_true rfl) (c_lawOf i.w i.c hk) ?_
      refine gd_iret dX8_law_24 rfl rfl ?_
      rfl
    · refine gd_ild1 dX9_law_0 ?_
      refine gd_ic0 dX9_law_1 ?_
      refine gd_bipush (v := nI 7) dX9_law_2 (by decide) ?_
      refine gd_cS3i dX9_law_4 ct_9_79 ⟨Nat.le_of_ble_eq_true rfl, Nat.le_of_ble_eq_true rfl⟩ (Nat.le_of_ble_eq_true rfl) (Nat.le_of_ble_eq_true rfl) (m_in_t (m := 7) (by omega) (by decide) _) ?_
      refine gd_if_eq_f 18 dX9_law_7 (by decide) (by decide) ?_
      refine gd_ald0 dX9_law_10 (by decide) ?_
      refine gd_ild1 dX9_law_11 ?_
      refine gd_cV1i dX9_law_12 ct_9_143 rc_72 ⟨Nat.le_of_ble_eq_true rfl, Nat.le_of_ble_eq_true rfl⟩ (Nat.le_of_ble_eq_true rfl) (Nat.le_of_ble_eq_true rfl) (m_lawOf i.w hk) ?_
      refine gd_goto 23 dX9_law_15 (by decide) ?_
      refine gd_iret dX9_law_23 rfl rfl ?_
      rfl
  · refine Pas.find (h1 := h) (h2 := hf (h) 0) (v := -1000000001) (w := (-1000000000 : Int32) - nI 1) 0 i (by decide) (by decide) (by decide) (Same.rf _) (Same.rf _) ?_ ?_
    · refine gd_ild1 dX8_law_0 ?_
      refine gd_bipush (v := nI 8) dX8_law_1 (by decide) ?_
      refine gd_cS2i dX8_law_3 ct_8_48 ⟨Nat.le_of_ble_eq_true rfl, Nat.le_of_ble_eq_true rfl⟩ (Nat.le_of_ble_eq_true rfl) (Nat.le_of_ble_eq_true rfl) (c_isBelow_f ha _) ?_
      refine gd_if_ne_f 16 dX8_law_6 (by decide) (by decide) ?_
      refine gd_ald0 dX8_law_9 (by decide) ?_
      refine gd_ldc dX8_law_10 ld_8_52 ?_
      refine gd_cV1i dX8_law_12 ct_8_53 rc_0 ⟨Nat.le_of_ble_eq_true rfl, Nat.le_of_ble_eq_true rfl⟩ (Nat.le_of_ble_eq_true rfl) (Nat.le_of_ble_eq_true rfl) (c_f0 _) ?_
      refine gd_iret dX8_law_15 rfl rfl ?_
      rfl
    · refine gd_ild1 dX9_law_0 ?_
      refine gd_ic0 dX9_law_1 ?_
      refine gd_bipush (v := nI 7) dX9_law_2 (by decide) ?_
      refine gd_cS3i dX9_law_4 ct_9_79 ⟨Nat.le_of_ble_eq_true rfl, Nat.le_of_ble_eq_true rfl⟩ (Nat.le_of_ble_eq_true rfl) (Nat.le_of_ble_eq_true rfl) (m_in_f (n := 8) (by decide) (by decide) ha _) ?_
      refine gd_if_eq_t 18 dX9_law_7 (by decide) (by decide) ?_
      refine gd_ald0 dX9_law_18 (by decide) ?_
      refine gd_ic1 dX9_law_19 ?_
      refine gd_cV1i dX9_law_20 ct_9_97 rc_72 ⟨Nat.le_of_ble_eq_true rfl, Nat.le_of_ble_eq_true rfl⟩ (Nat.le_of_ble_eq_true rfl) (Nat.le_of_ble_eq_true rfl) (m_f0 _) ?_
      refine gd_iret dX9_law_23 rfl rfl ?_
      rfl
set_option maxHeartbeats 1000000 in
theorem p_why {h : Hp} (i : Inv h) (a : Int32) : Pas mX8_why mX9_why [.ref 0, .int a, .null] [.ref 72, .int a, .null] h := by
  rcases rng a (24) (by decide) with ⟨k, hk, rfl⟩ | ha
  · cases e : rk (ms h) k with
    | none =>
      refine Pas.find (h1 := h) (h2 := hf (h) 3) (v := -1000000004) (w := (-1000000000 : Int32) - nI 4) 3 i (by decide) (by decide) (by decide) (Same.rf _) (Same.rf _) ?_ ?_
      · refine gd_ild1 dX8_why_0 ?_
        refine gd_bipush (v := nI 24) dX8_why_1 (by decide) ?_
        refine gd_cS2i dX8_why_3 ct_8_48 ⟨Nat.le_of_ble_eq_true rfl, Nat.le_of_ble_eq_true rfl⟩ (Nat.le_of_ble_eq_true rfl) (Nat.le_of_ble_eq_true rfl) (c_isBelow_t hk (by decide) _) ?_
        refine gd_if_ne_t 16 dX8_why_6 (by decide) (by decide) ?_
        refine gd_ald0 dX8_why_16 (by decide) ?_
        refine gd_getR (r := 1) dX8_why_17 fl_8_12 rfl rfl rfl (by decide) ?_
        refine gd_getR (r := 15) dX8_why_20 fl_8_188 rfl rfl rfl (by decide) ?_
        refine gd_ild1 dX8_why_23 ?_
        refine gd_ald0 dX8_why_24 (by decide) ?_
        refine gd_getR (r := 1) dX8_why_25 fl_8_12 rfl rfl rfl (by decide) ?_
        refine gd_getR (r := 2) dX8_why_28 fl_8_57 rfl rfl rfl (by decide) ?_
        refine gd_getI dX8_why_31 fl_8_120 rfl rfl ?_
        rw [i.c.d1]
        refine gd_cV2i dX8_why_34 ct_8_208 rc_15 ⟨Nat.le_of_ble_eq_true rfl, Nat.le_of_ble_eq_true rfl⟩ (Nat.le_of_ble_eq_true rfl) (Nat.le_of_ble_eq_true rfl) (c_ruleFor i.w i.c hk) ?_
        rw [e]
        refine gd_ist2 dX8_why_37 rfl ?_
        refine gd_ild2 dX8_why_38 ?_
        refine gd_if_ge_f 49 dX8_why_39 (by decide) (by show ¬ 0 ≤ (-1 : Int32); decide) ?_
        refine gd_ald0 dX8_why_42 (by decide) ?_
        refine gd_ldc dX8_why_43 ld_8_174 ?_
        refine gd_cV1i dX8_why_45 ct_8_53 rc_0 ⟨Nat.le_of_ble_eq_true rfl, Nat.le_of_ble_eq_true rfl⟩ (Nat.le_of_ble_eq_true rfl) (Nat.le_of_ble_eq_true rfl) (c_f3 _) ?_
        refine gd_iret dX8_why_48 rfl rfl ?_
        rfl
      · refine gd_ild1 dX9_why_0 ?_
        refine gd_ic0 dX9_why_1 ?_
        refine gd_bipush (v := nI 23) dX9_why_2 (by decide) ?_
        refine gd_cS3i dX9_why_4 ct_9_79 ⟨Nat.le_of_ble_eq_true rfl, Nat.le_of_ble_eq_true rfl⟩ (Nat.le_of_ble_eq_true rfl) (Nat.le_of_ble_eq_true rfl) (m_in_t (m := 23) (by omega) (by decide) _) ?_
        refine gd_if_ne_t 16 dX9_why_7 (by decide) (by decide) ?_
        refine gd_ald0 dX9_why_16 (by decide) ?_
        refine gd_ild1 dX9_why_17 ?_
        refine gd_cV1i dX9_why_18 ct_9_210 rc_72 ⟨Nat.le_of_ble_eq_true rfl, Nat.le_of_ble_eq_true rfl⟩ (Nat.le_of_ble_eq_true rfl) (Nat.le_of_ble_eq_true rfl) (m_ruleAbout (h := hf h 3) (by exact i.w) hk) ?_
        rw [ms_hf, e]
        refine gd_ist2 dX9_why_21 rfl ?_
        refine gd_ild2 dX9_why_22 ?_
        refine gd_if_ge_f 34 dX9_why_23 (by decide) (by show ¬ 0 ≤ (-1 : Int32); decide) ?_
        refine gd_ald0 dX9_why_26 (by decide) ?_
        refine gd_ic4 dX9_why_27 ?_
        refine gd_cV1i dX9_why_28 ct_9_97 rc_72 ⟨Nat.le_of_ble_eq_true rfl, Nat.le_of_ble_eq_true rfl⟩ (Nat.le_of_ble_eq_true rfl) (Nat.le_of_ble_eq_true rfl) (m_f3 _) ?_
        refine gd_goto 46 dX9_why_31 (by decide) ?_
        refine gd_iret dX9_why_46 rfl rfl ?_
        rfl
    | some q =>
      obtain ⟨t, r, h1, h2, h3, h4, _⟩ := rk_at i.w e
      refine Pas.read (r := .int (nI 10 * (nI q / nI 6) + (nI q - nI q / nI 6 * nI 6))) (r2 := .int (nI 10 * (nI q / nI 6) + (nI q - nI q / nI 6 * nI 6))) (h1 := h) (h2 := h) i rfl (Same.rf _) (Same.rf _) ?_ ?_
      · refine gd_ild1 dX8_why_0 ?_
        refine gd_bipush (v := nI 24) dX8_why_1 (by decide) ?_
        refine gd_cS2i dX8_why_3 ct_8_48 ⟨Nat.le_of_ble_eq_true rfl, Nat.le_of_ble_eq_true rfl⟩ (Nat.le_of_ble_eq_true rfl) (Nat.le_of_ble_eq_true rfl) (c_isBelow_t hk (by decide) _) ?_
        refine gd_if_ne_t 16 dX8_why_6 (by decide) (by decide) ?_
        refine gd_ald0 dX8_why_16 (by decide) ?_
        refine gd_getR (r := 1) dX8_why_17 fl_8_12 rfl rfl rfl (by decide) ?_
        refine gd_getR (r := 15) dX8_why_20 fl_8_188 rfl rfl rfl (by decide) ?_
        refine gd_ild1 dX8_why_23 ?_
        refine gd_ald0 dX8_why_24 (by decide) ?_
        refine gd_getR (r := 1) dX8_why_25 fl_8_12 rfl rfl rfl (by decide) ?_
        refine gd_getR (r := 2) dX8_why_28 fl_8_57 rfl rfl rfl (by decide) ?_
        refine gd_getI dX8_why_31 fl_8_120 rfl rfl ?_
        rw [i.c.d1]
        refine gd_cV2i dX8_why_34 ct_8_208 rc_15 ⟨Nat.le_of_ble_eq_true rfl, Nat.le_of_ble_eq_true rfl⟩ (Nat.le_of_ble_eq_true rfl) (Nat.le_of_ble_eq_true rfl) (c_ruleFor i.w i.c hk) ?_
        rw [e, show oI (some q) = nI q from rfl]
        refine gd_ist2 dX8_why_37 rfl ?_
        refine gd_ild2 dX8_why_38 ?_
        refine gd_if_ge_t 49 dX8_why_39 (by decide) (nI_pos' (by omega)) ?_
        refine gd_bipush (v := nI 10) dX8_why_49 (by decide) ?_
        refine gd_ild2 dX8_why_51 ?_
        refine gd_bipush (v := nI 6) dX8_why_52 (by decide) ?_
        refine gd_idiv dX8_why_54 (by decide) ?_
        refine gd_imul dX8_why_55 ?_
        refine gd_ild2 dX8_why_56 ?_
        refine gd_bipush (v := nI 6) dX8_why_57 (by decide) ?_
        refine gd_irem dX8_why_59 (by decide) ?_
        refine gd_iadd dX8_why_60 ?_
        refine gd_iret dX8_why_61 rfl rfl ?_
        rfl
      · refine gd_ild1 dX9_why_0 ?_
        refine gd_ic0 dX9_why_1 ?_
        refine gd_bipush (v := nI 23) dX9_why_2 (by decide) ?_
        refine gd_cS3i dX9_why_4 ct_9_79 ⟨Nat.le_of_ble_eq_true rfl, Nat.le_of_ble_eq_true rfl⟩ (Nat.le_of_ble_eq_true rfl) (Nat.le_of_ble_eq_true rfl) (m_in_t (m := 23) (by omega) (by decide) _) ?_
        refine gd_if_ne_t 16 dX9_why_7 (by decide) (by decide) ?_
        refine gd_ald0 dX9_why_16 (by decide) ?_
        refine gd_ild1 dX9_why_17 ?_
        refine gd_cV1i dX9_why_18 ct_9_210 rc_72 ⟨Nat.le_of_ble_eq_true rfl, Nat.le_of_ble_eq_true rfl⟩ (Nat.le_of_ble_eq_true rfl) (Nat.le_of_ble_eq_true rfl) (m_ruleAbout (h := h) (by exact i.w) hk) ?_
        rw [show rk (ms (h)) k = _ from e, show oI (some q) = nI q from rfl]
        refine gd_ist2 dX9_why_21 rfl ?_
        refine gd_ild2 dX9_why_22 ?_
        refine gd_if_ge_t 34 dX9_why_23 (by decide) (nI_pos' (by omega)) ?_
        refine gd_bipush (v := nI 10) dX9_why_34 (by decide) ?_
        refine gd_ild2 dX9_why_36 ?_
        refine gd_bipush (v := nI 6) dX9_why_37 (by decide) ?_
        refine gd_idiv dX9_why_39 (by decide) ?_
        refine gd_imul dX9_why_40 ?_
        refine gd_ild2 dX9_why_41 ?_
        refine gd_bipush (v := nI 6) dX9_why_42 (by decide) ?_
        refine gd_irem dX9_why_44 (by decide) ?_
        refine gd_iadd dX9_why_45 ?_
        refine gd_iret dX9_why_46 rfl rfl ?_
        rfl
  · refine Pas.find (h1 := h) (h2 := hf (h) 0) (v := -1000000001) (w := (-1000000000 : Int32) - nI 1) 0 i (by decide) (by decide) (by decide) (Same.rf _) (Same.rf _) ?_ ?_
    · refine gd_ild1 dX8_why_0 ?_
      refine gd_bipush (v := nI 24) dX8_why_1 (by decide) ?_
      refine gd_cS2i dX8_why_3 ct_8_48 ⟨Nat.le_of_ble_eq_true rfl, Nat.le_of_ble_eq_true rfl⟩ (Nat.le_of_ble_eq_true rfl) (Nat.le_of_ble_eq_true rfl) (c_isBelow_f ha _) ?_
      refine gd_if_ne_f 16 dX8_why_6 (by decide) (by decide) ?_
      refine gd_ald0 dX8_why_9 (by decide) ?_
      refine gd_ldc dX8_why_10 ld_8_52 ?_
      refine gd_cV1i dX8_why_12 ct_8_53 rc_0 ⟨Nat.le_of_ble_eq_true rfl, Nat.le_of_ble_eq_true rfl⟩ (Nat.le_of_ble_eq_true rfl) (Nat.le_of_ble_eq_true rfl) (c_f0 _) ?_
      refine gd_iret dX8_why_15 rfl rfl ?_
      rfl
    · refine gd_ild1 dX9_why_0 ?_
      refine gd_ic0 dX9_why_1 ?_
      refine gd_bipush (v := nI 23) dX9_why_2 (by decide) ?_
      refine gd_cS3i dX9_why_4 ct_9_79 ⟨Nat.le_of_ble_eq_true rfl, Nat.le_of_ble_eq_true rfl⟩ (Nat.le_of_ble_eq_true rfl) (Nat.le_of_ble_eq_true rfl) (m_in_f (n := 24) (by decide) (by decide) ha _) ?_
      refine gd_if_ne_f 16 dX9_why_7 (by decide) (by decide) ?_
      refine gd_ald0 dX9_why_10 (by decide) ?_
      refine gd_ic1 dX9_why_11 ?_
      refine gd_cV1i dX9_why_12 ct_9_97 rc_72 ⟨Nat.le_of_ble_eq_true rfl, Nat.le_of_ble_eq_true rfl⟩ (Nat.le_of_ble_eq_true rfl) (Nat.le_of_ble_eq_true rfl) (m_f0 _) ?_
      refine gd_iret dX9_why_15 rfl rfl ?_
      rfl
