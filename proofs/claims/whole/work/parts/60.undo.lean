
/-! ===== image, undo: the promises ===== -/
theorem m_mk0 {h : Hp} (hp : h.1 72 34 = nI 0) : ∃ h2, Gd mX9_move 0 [.ref 72, .ref 74, .int (nI 5), .int (nI 1), .null] [] h (none, h2) ∧ (∀ k, k ≠ 94 → k ≠ 72 → h2.1 k = h.1 k) ∧ (∀ j, j ≠ 34 → h2.1 72 j = h.1 72 j) ∧ h2.1 72 34 = nI 5 ∧ h2.2 = h.2 ∧ (∀ i, i < 5 → h2.1 94 (0 + i) = h.1 74 i) ∧ ∀ i, (i < 0 ∨ 5 ≤ i) → h2.1 94 i = h.1 94 i := by
  refine ⟨_, m_mv0_1 hp, fun k h1 h2 => by rw [sI_n h2, sI_n h1], fun j hj => by rw [sI_s, upd_n hj], ?_, rfl, fun i hi => ?_, fun i hi => ?_⟩
  · rw [sI_s, upd_ss]
  · rw [sI_n (by decide), sI_s]
    unfold va_cpy
    rw [if_pos (by omega), show 0 + (0 + i - 0) = i by omega]
  · rw [sI_n (by decide), sI_s]
    unfold va_cpy
    rw [if_neg (by omega)]
theorem m_mu0 {h : Hp} (hp : h.1 72 34 = nI 0) : ∃ h2, Gd mX9_move 0 [.ref 72, .ref 74, .int (nI 5), .int (nI 0), .null] [] h (none, h2) ∧ (∀ k, k ≠ 74 → k ≠ 72 → h2.1 k = h.1 k) ∧ (∀ j, j ≠ 34 → h2.1 72 j = h.1 72 j) ∧ h2.1 72 34 = nI 5 ∧ h2.2 = h.2 ∧ (∀ i, i < 5 → h2.1 74 i = h.1 94 (0 + i)) := by
  refine ⟨_, m_mv0_0 hp, fun k h1 h2 => by rw [sI_n h2, sI_n h1], fun j hj => by rw [sI_s, upd_n hj], ?_, rfl, fun i hi => ?_⟩
  · rw [sI_s, upd_ss]
  · rw [sI_n (by decide), sI_s]
    unfold va_cpy
    rw [if_pos (by omega)]
    congr 1
theorem m_mk1 {h : Hp} (hp : h.1 72 34 = nI 5) : ∃ h2, Gd mX9_move 0 [.ref 72, .ref 75, .int (nI 144), .int (nI 1), .null] [] h (none, h2) ∧ (∀ k, k ≠ 94 → k ≠ 72 → h2.1 k = h.1 k) ∧ (∀ j, j ≠ 34 → h2.1 72 j = h.1 72 j) ∧ h2.1 72 34 = nI 149 ∧ h2.2 = h.2 ∧ (∀ i, i < 144 → h2.1 94 (5 + i) = h.1 75 i) ∧ ∀ i, (i < 5 ∨ 149 ≤ i) → h2.1 94 i = h.1 94 i := by
  refine ⟨_, m_mv1_1 hp, fun k h1 h2 => by rw [sI_n h2, sI_n h1], fun j hj => by rw [sI_s, upd_n hj], ?_, rfl, fun i hi => ?_, fun i hi => ?_⟩
  · rw [sI_s, upd_ss]
  · rw [sI_n (by decide), sI_s]
    unfold va_cpy
    rw [if_pos (by omega), show 0 + (5 + i - 5) = i by omega]
  · rw [sI_n (by decide), sI_s]
    unfold va_cpy
    rw [if_neg (by omega)]
theorem m_mu1 {h : Hp} (hp : h.1 72 34 = nI 5) : ∃ h2, Gd mX9_move 0 [.ref 72, .ref 75, .int (nI 144), .int (nI 0), .null] [] h (none, h2) ∧ (∀ k, k ≠ 75 → k ≠ 72 → h2.1 k = h.1 k) ∧ (∀ j, j ≠ 34 → h2.1 72 j = h.1 72 j) ∧ h2.1 72 34 = nI 149 ∧ h2.2 = h.2 ∧ (∀ i, i < 144 → h2.1 75 i = h.1 94 (5 + i)) := by
  refine ⟨_, m_mv1_0 hp, fun k h1 h2 => by rw [sI_n h2, sI_n h1], fun j hj => by rw [sI_s, upd_n hj], ?_, rfl, fun i hi => ?_⟩
  · rw [sI_s, upd_ss]
  · rw [sI_n (by decide), sI_s]
    unfold va_cpy
    rw [if_pos (by omega)]
    congr 1
theorem m_mk2 {h : Hp} (hp : h.1 72 34 = nI 149) : ∃ h2, Gd mX9_move 0 [.ref 72, .ref 76, .int (nI 16), .int (nI 1), .null] [] h (none, h2) ∧ (∀ k, k ≠ 94 → k ≠ 72 → h2.1 k = h.1 k) ∧ (∀ j, j ≠ 34 → h2.1 72 j = h.1 72 j) ∧ h2.1 72 34 = nI 165 ∧ h2.2 = h.2 ∧ (∀ i, i < 16 → h2.1 94 (149 + i) = h.1 76 i) ∧ ∀ i, (i < 149 ∨ 165 ≤ i) → h2.1 94 i = h.1 94 i := by
  refine ⟨_, m_mv2_1 hp, fun k h1 h2 => by rw [sI_n h2, sI_n h1], fun j hj => by rw [sI_s, upd_n hj], ?_, rfl, fun i hi => ?_, fun i hi => ?_⟩
  · rw [sI_s, upd_ss]
  · rw [sI_n (by decide), sI_s]
    unfold va_cpy
    rw [if_pos (by omega), show 0 + (149 + i - 149) = i by omega]
  · rw [sI_n (by decide), sI_s]
    unfold va_cpy
    rw [if_neg (by omega)]
theorem m_mu2 {h : Hp} (hp : h.1 72 34 = nI 149) : ∃ h2, Gd mX9_move 0 [.ref 72, .ref 76, .int (nI 16), .int (nI 0), .null] [] h (none, h2) ∧ (∀ k, k ≠ 76 → k ≠ 72 → h2.1 k = h.1 k) ∧ (∀ j, j ≠ 34 → h2.1 72 j = h.1 72 j) ∧ h2.1 72 34 = nI 165 ∧ h2.2 = h.2 ∧ (∀ i, i < 16 → h2.1 76 i = h.1 94 (149 + i)) := by
  refine ⟨_, m_mv2_0 hp, fun k h1 h2 => by rw [sI_n h2, sI_n h1], fun j hj => by rw [sI_s, upd_n hj], ?_, rfl, fun i hi => ?_⟩
  · rw [sI_s, upd_ss]
  · rw [sI_n (by decide), sI_s]
    unfold va_cpy
    rw [if_pos (by omega)]
    congr 1
theorem m_mk3 {h : Hp} (hp : h.1 72 34 = nI 165) : ∃ h2, Gd mX9_move 0 [.ref 72, .ref 77, .int (nI 96), .int (nI 1), .null] [] h (none, h2) ∧ (∀ k, k ≠ 94 → k ≠ 72 → h2.1 k = h.1 k) ∧ (∀ j, j ≠ 34 → h2.1 72 j = h.1 72 j) ∧ h2.1 72 34 = nI 261 ∧ h2.2 = h.2 ∧ (∀ i, i < 96 → h2.1 94 (165 + i) = h.1 77 i) ∧ ∀ i, (i < 165 ∨ 261 ≤ i) → h2.1 94 i = h.1 94 i := by
  refine ⟨_, m_mv3_1 hp, fun k h1 h2 => by rw [sI_n h2, sI_n h1], fun j hj => by rw [sI_s, upd_n hj], ?_, rfl, fun i hi => ?_, fun i hi => ?_⟩
  · rw [sI_s, upd_ss]
  · rw [sI_n (by decide), sI_s]
    unfold va_cpy
    rw [if_pos (by omega), show 0 + (165 + i - 165) = i by omega]
  · rw [sI_n (by decide), sI_s]
    unfold va_cpy
    rw [if_neg (by omega)]
theorem m_mu3 {h : Hp} (hp : h.1 72 34 = nI 165) : ∃ h2, Gd mX9_move 0 [.ref 72, .ref 77, .int (nI 96), .int (nI 0), .null] [] h (none, h2) ∧ (∀ k, k ≠ 77 → k ≠ 72 → h2.1 k = h.1 k) ∧ (∀ j, j ≠ 34 → h2.1 72 j = h.1 72 j) ∧ h2.1 72 34 = nI 261 ∧ h2.2 = h.2 ∧ (∀ i, i < 96 → h2.1 77 i = h.1 94 (165 + i)) := by
  refine ⟨_, m_mv3_0 hp, fun k h1 h2 => by rw [sI_n h2, sI_n h1], fun j hj => by rw [sI_s, upd_n hj], ?_, rfl, fun i hi => ?_⟩
  · rw [sI_s, upd_ss]
  · rw [sI_n (by decide), sI_s]
    unfold va_cpy
    rw [if_pos (by omega)]
    congr 1
theorem m_mk4 {h : Hp} (hp : h.1 72 34 = nI 261) : ∃ h2, Gd mX9_move 0 [.ref 72, .ref 78, .int (nI 270), .int (nI 1), .null] [] h (none, h2) ∧ (∀ k, k ≠ 94 → k ≠ 72 → h2.1 k = h.1 k) ∧ (∀ j, j ≠ 34 → h2.1 72 j = h.1 72 j) ∧ h2.1 72 34 = nI 531 ∧ h2.2 = h.2 ∧ (∀ i, i < 270 → h2.1 94 (261 + i) = h.1 78 i) ∧ ∀ i, (i < 261 ∨ 531 ≤ i) → h2.1 94 i = h.1 94 i := by
  refine ⟨_, m_mv4_1 hp, fun k h1 h2 => by rw [sI_n h2, sI_n h1], fun j hj => by rw [sI_s, upd_n hj], ?_, rfl, fun i hi => ?_, fun i hi => ?_⟩
  · rw [sI_s, upd_ss]
  · rw [sI_n (by decide), sI_s]
    unfold va_cpy
    rw [if_pos (by omega), show 0 + (261 + i - 261) = i by omega]
  · rw [sI_n (by decide), sI_s]
    unfold va_cpy
    rw [if_neg (by omega)]
theorem m_mu4 {h : Hp} (hp : h.1 72 34 = nI 261) : ∃ h2, Gd mX9_move 0 [.ref 72, .ref 78, .int (nI 270), .int (nI 0), .null] [] h (none, h2) ∧ (∀ k, k ≠ 78 → k ≠ 72 → h2.1 k = h.1 k) ∧ (∀ j, j ≠ 34 → h2.1 72 j = h.1 72 j) ∧ h2.1 72 34 = nI 531 ∧ h2.2 = h.2 ∧ (∀ i, i < 270 → h2.1 78 i = h.1 94 (261 + i)) := by
  refine ⟨_, m_mv4_0 hp, fun k h1 h2 => by rw [sI_n h2, sI_n h1], fun j hj => by rw [sI_s, upd_n hj], ?_, rfl, fun i hi => ?_⟩
  · rw [sI_s, upd_ss]
  · rw [sI_n (by decide), sI_s]
    unfold va_cpy
    rw [if_pos (by omega)]
    congr 1
theorem m_mk5 {h : Hp} (hp : h.1 72 34 = nI 531) : ∃ h2, Gd mX9_move 0 [.ref 72, .ref 79, .int (nI 16), .int (nI 1), .null] [] h (none, h2) ∧ (∀ k, k ≠ 94 → k ≠ 72 → h2.1 k = h.1 k) ∧ (∀ j, j ≠ 34 → h2.1 72 j = h.1 72 j) ∧ h2.1 72 34 = nI 547 ∧ h2.2 = h.2 ∧ (∀ i, i < 16 → h2.1 94 (531 + i) = h.1 79 i) ∧ ∀ i, (i < 531 ∨ 547 ≤ i) → h2.1 94 i = h.1 94 i := by
  refine ⟨_, m_mv5_1 hp, fun k h1 h2 => by rw [sI_n h2, sI_n h1], fun j hj => by rw [sI_s, upd_n hj], ?_, rfl, fun i hi => ?_, fun i hi => ?_⟩
  · rw [sI_s, upd_ss]
  · rw [sI_n (by decide), sI_s]
    unfold va_cpy
    rw [if_pos (by omega), show 0 + (531 + i - 531) = i by omega]
  · rw [sI_n (by decide), sI_s]
    unfold va_cpy
    rw [if_neg (by omega)]
theorem m_mu5 {h : Hp} (hp : h.1 72 34 = nI 531) : ∃ h2, Gd mX9_move 0 [.ref 72, .ref 79, .int (nI 16), .int (nI 0), .null] [] h (none, h2) ∧ (∀ k, k ≠ 79 → k ≠ 72 → h2.1 k = h.1 k) ∧ (∀ j, j ≠ 34 → h2.1 72 j = h.1 72 j) ∧ h2.1 72 34 = nI 547 ∧ h2.2 = h.2 ∧ (∀ i, i < 16 → h2.1 79 i = h.1 94 (531 + i)) := by
  refine ⟨_, m_mv5_0 hp, fun k h1 h2 => by rw [sI_n h2, sI_n h1], fun j hj => by rw [sI_s, upd_n hj], ?_, rfl, fun i hi => ?_⟩
  · rw [sI_s, upd_ss]
  · rw [sI_n (by decide), sI_s]
    unfold va_cpy
    rw [if_pos (by omega)]
    congr 1
theorem m_mk6 {h : Hp} (hp : h.1 72 34 = nI 547) : ∃ h2, Gd mX9_move 0 [.ref 72, .ref 80, .int (nI 192), .int (nI 1), .null] [] h (none, h2) ∧ (∀ k, k ≠ 94 → k ≠ 72 → h2.1 k = h.1 k) ∧ (∀ j, j ≠ 34 → h2.1 72 j = h.1 72 j) ∧ h2.1 72 34 = nI 739 ∧ h2.2 = h.2 ∧ (∀ i, i < 192 → h2.1 94 (547 + i) = h.1 80 i) ∧ ∀ i, (i < 547 ∨ 739 ≤ i) → h2.1 94 i = h.1 94 i := by
  refine ⟨_, m_mv6_1 hp, fun k h1 h2 => by rw [sI_n h2, sI_n h1], fun j hj => by rw [sI_s, upd_n hj], ?_, rfl, fun i hi => ?_, fun i hi => ?_⟩
  · rw [sI_s, upd_ss]
  · rw [sI_n (by decide), sI_s]
    unfold va_cpy
    rw [if_pos (by omega), show 0 + (547 + i - 547) = i by omega]
  · rw [sI_n (by decide), sI_s]
    unfold va_cpy
    rw [if_neg (by omega)]
theorem m_mu6 {h : Hp} (hp : h.1 72 34 = nI 547) : ∃ h2, Gd mX9_move 0 [.ref 72, .ref 80, .int (nI 192), .int (nI 0), .null] [] h (none, h2) ∧ (∀ k, k ≠ 80 → k ≠ 72 → h2.1 k = h.1 k) ∧ (∀ j, j ≠ 34 → h2.1 72 j = h.1 72 j) ∧ h2.1 72 34 = nI 739 ∧ h2.2 = h.2 ∧ (∀ i, i < 192 → h2.1 80 i = h.1 94 (547 + i)) := by
  refine ⟨_, m_mv6_0 hp, fun k h1 h2 => by rw [sI_n h2, sI_n h1], fun j hj => by rw [sI_s, upd_n hj], ?_, rfl, fun i hi => ?_⟩
  · rw [sI_s, upd_ss]
  · rw [sI_n (by decide), sI_s]
    unfold va_cpy
    rw [if_pos (by omega)]
    congr 1
theorem m_mk7 {h : Hp} (hp : h.1 72 34 = nI 739) : ∃ h2, Gd mX9_move 0 [.ref 72, .ref 81, .int (nI 60), .int (nI 1), .null] [] h (none, h2) ∧ (∀ k, k ≠ 94 → k ≠ 72 → h2.1 k = h.1 k) ∧ (∀ j, j ≠ 34 → h2.1 72 j = h.1 72 j) ∧ h2.1 72 34 = nI 799 ∧ h2.2 = h.2 ∧ (∀ i, i < 60 → h2.1 94 (739 + i) = h.1 81 i) ∧ ∀ i, (i < 739 ∨ 799 ≤ i) → h2.1 94 i = h.1 94 i := by
  refine ⟨_, m_mv7_1 hp, fun k h1 h2 => by rw [sI_n h2, sI_n h1], fun j hj => by rw [sI_s, upd_n hj], ?_, rfl, fun i hi => ?_, fun i hi => ?_⟩
  · rw [sI_s, upd_ss]
  · rw [sI_n (by decide), sI_s]
    unfold va_cpy
    rw [if_pos (by omega), show 0 + (739 + i - 739) = i by omega]
  · rw [sI_n (by decide), sI_s]
    unfold va_cpy
    rw [if_neg (by omega)]
theorem m_mu7 {h : Hp} (hp : h.1 72 34 = nI 739) : ∃ h2, Gd mX9_move 0 [.ref 72, .ref 81, .int (nI 60), .int (nI 0), .null] [] h (none, h2) ∧ (∀ k, k ≠ 81 → k ≠ 72 → h2.1 k = h.1 k) ∧ (∀ j, j ≠ 34 → h2.1 72 j = h.1 72 j) ∧ h2.1 72 34 = nI 799 ∧ h2.2 = h.2 ∧ (∀ i, i < 60 → h2.1 81 i = h.1 94 (739 + i)) := by
  refine ⟨_, m_mv7_0 hp, fun k h1 h2 => by rw [sI_n h2, sI_n h1], fun j hj => by rw [sI_s, upd_n hj], ?_, rfl, fun i hi => ?_⟩
  · rw [sI_s, upd_ss]
  · rw [sI_n (by decide), sI_s]
    unfold va_cpy
    rw [if_pos (by omega)]
    congr 1
theorem m_keepAll (h : Hp) : ∃ h2, Gd mX9_moveAll 0 [.ref 72, .int (nI 1)] [] h (none, h2) ∧ (∀ k, k ≠ 94 → k ≠ 72 → h2.1 k = h.1 k) ∧ (∀ j, j ≠ 34 → h2.1 72 j = h.1 72 j) ∧ h2.2 = h.2 ∧ ks h2 = ms h := by
  obtain ⟨z0, ez⟩ : ∃ z0, z0 = sI h 72 (upd (h.1 72) 34 (nI 0)) := ⟨_, rfl⟩
  have p0 : z0.1 72 34 = nI 0 := by rw [ez]; rfl
  have fz : ∀ k, k ≠ 72 → z0.1 k = h.1 k := fun k hk => by rw [ez]; exact sI_n hk
  have gz : ∀ j, j ≠ 34 → z0.1 72 j = h.1 72 j := fun j hj => by rw [ez, sI_s, upd_n hj]
  have kz : z0.2 = h.2 := by rw [ez]; rfl
  obtain ⟨z1, g0, f0, q0, p1, k0, a0, b0⟩ := m_mk0 p0
  obtain ⟨z2, g1, f1, q1, p2, k1, a1, b1⟩ := m_mk1 p1
  obtain ⟨z3, g2, f2, q2, p3, k2, a2, b2⟩ := m_mk2 p2
  obtain ⟨z4, g3, f3, q3, p4, k3, a3, b3⟩ := m_mk3 p3
  obtain ⟨z5, g4, f4, q4, p5, k4, a4, b4⟩ := m_mk4 p4
  obtain ⟨z6, g5, f5, q5, p6, k5, a5, b5⟩ := m_mk5 p5
  obtain ⟨z7, g6, f6, q6, p7, k6, a6, b6⟩ := m_mk6 p6
  obtain ⟨z8, g7, f7, q7, p8, k7, a7, b7⟩ := m_mk7 p7
  refine ⟨z8, ?_, ?_, ?_, ?_, ?_⟩
  · refine gd_ald0 dX9_moveAll_0 (by decide) ?_
    refine gd_ic0 dX9_moveAll_1 ?_
    refine gd_putI dX9_moveAll_2 fl_9_272 rfl rfl (fun _ _ _ e => by cases e; rfl) ?_
    rw [← ez]
    refine gd_ald0 dX9_moveAll_5 (by decide) ?_
    refine gd_ald0 dX9_moveAll_6 (by decide) ?_
    refine gd_getR (r := 74) dX9_moveAll_7 fl_9_13 rfl rfl rfl (by decide) ?_
    refine gd_ic5 dX9_moveAll_10 ?_
    refine gd_ild1 dX9_moveAll_11 ?_
    refine gd_cV3v dX9_moveAll_12 ct_9_275 rc_72 ⟨Nat.le_of_ble_eq_true rfl, Nat.le_of_ble_eq_true rfl⟩ (Nat.le_of_ble_eq_true rfl) (Nat.le_of_ble_eq_true rfl) (g0) ?_
    refine gd_ald0 dX9_moveAll_15 (by decide) ?_
    refine gd_ald0 dX9_moveAll_16 (by decide) ?_
    refine gd_getR (r := 75) dX9_moveAll_17 fl_9_16 rfl rfl rfl (by decide) ?_
    refine gd_sipush (v := nI 144) dX9_moveAll_20 (by decide) ?_
    refine gd_ild1 dX9_moveAll_23 ?_
    refine gd_cV3v dX9_moveAll_24 ct_9_275 rc_72 ⟨Nat.le_of_ble_eq_true rfl, Nat.le_of_ble_eq_true rfl⟩ (Nat.le_of_ble_eq_true rfl) (Nat.le_of_ble_eq_true rfl) (g1) ?_
    refine gd_ald0 dX9_moveAll_27 (by decide) ?_
    refine gd_ald0 dX9_moveAll_28 (by decide) ?_
    refine gd_getR (r := 76) dX9_moveAll_29 fl_9_19 rfl rfl rfl (by decide) ?_
    refine gd_bipush (v := nI 16) dX9_moveAll_32 (by decide) ?_
    refine gd_ild1 dX9_moveAll_34 ?_
    refine gd_cV3v dX9_moveAll_35 ct_9_275 rc_72 ⟨Nat.le_of_ble_eq_true rfl, Nat.le_of_ble_eq_true rfl⟩ (Nat.le_of_ble_eq_true rfl) (Nat.le_of_ble_eq_true rfl) (g2) ?_
    refine gd_ald0 dX9_moveAll_38 (by decide) ?_
    refine gd_ald0 dX9_moveAll_39 (by decide) ?_
    refine gd_getR (r := 77) dX9_moveAll_40 fl_9_22 rfl rfl rfl (by decide) ?_
    refine gd_bipush (v := nI 96) dX9_moveAll_43 (by decide) ?_
    refine gd_ild1 dX9_moveAll_45 ?_
    refine gd_cV3v dX9_moveAll_46 ct_9_275 rc_72 ⟨Nat.le_of_ble_eq_true rfl, Nat.le_of_ble_eq_true rfl⟩ (Nat.le_of_ble_eq_true rfl) (Nat.le_of_ble_eq_true rfl) (g3) ?_
    refine gd_ald0 dX9_moveAll_49 (by decide) ?_
    refine gd_ald0 dX9_moveAll_50 (by decide) ?_
    refine gd_getR (r := 78) dX9_moveAll_51 fl_9_25 rfl rfl rfl (by decide) ?_
    refine gd_sipush (v := nI 270) dX9_moveAll_54 (by decide) ?_
    refine gd_ild1 dX9_moveAll_57 ?_
    refine gd_cV3v dX9_moveAll_58 ct_9_275 rc_72 ⟨Nat.le_of_ble_eq_true rfl, Nat.le_of_ble_eq_true rfl⟩ (Nat.le_of_ble_eq_true rfl) (Nat.le_of_ble_eq_true rfl) (g4) ?_
    refine gd_ald0 dX9_moveAll_61 (by decide) ?_
    refine gd_ald0 dX9_moveAll_62 (by decide) ?_
    refine gd_getR (r := 79) dX9_moveAll_63 fl_9_28 rfl rfl rfl (by decide) ?_
    refine gd_bipush (v := nI 16) dX9_moveAll_66 (by decide) ?_
    refine gd_ild1 dX9_moveAll_68 ?_
    refine gd_cV3v dX9_moveAll_69 ct_9_275 rc_72 ⟨Nat.le_of_ble_eq_true rfl, Nat.le_of_ble_eq_true rfl⟩ (Nat.le_of_ble_eq_true rfl) (Nat.le_of_ble_eq_true rfl) (g5) ?_
    refine gd_ald0 dX9_moveAll_72 (by decide) ?_
    refine gd_ald0 dX9_moveAll_73 (by decide) ?_
    refine gd_getR (r := 80) dX9_moveAll_74 fl_9_31 rfl rfl rfl (by decide) ?_
    refine gd_sipush (v := nI 192) dX9_moveAll_77 (by decide) ?_
    refine gd_ild1 dX9_moveAll_80 ?_
    refine gd_cV3v dX9_moveAll_81 ct_9_275 rc_72 ⟨Nat.le_of_ble_eq_true rfl, Nat.le_of_ble_eq_true rfl⟩ (Nat.le_of_ble_eq_true rfl) (Nat.le_of_ble_eq_true rfl) (g6) ?_
    refine gd_ald0 dX9_moveAll_84 (by decide) ?_
    refine gd_ald0 dX9_moveAll_85 (by decide) ?_
    refine gd_getR (r := 81) dX9_moveAll_86 fl_9_34 rfl rfl rfl (by decide) ?_
    refine gd_bipush (v := nI 60) dX9_moveAll_89 (by decide) ?_
    refine gd_ild1 dX9_moveAll_91 ?_
    refine gd_cV3v dX9_moveAll_92 ct_9_275 rc_72 ⟨Nat.le_of_ble_eq_true rfl, Nat.le_of_ble_eq_true rfl⟩ (Nat.le_of_ble_eq_true rfl) (Nat.le_of_ble_eq_true rfl) (g7) ?_
    refine gd_vret dX9_moveAll_95 rfl ?_
    rfl
  · intro k h1 h2
    rw [f7 k h1 h2, f6 k h1 h2, f5 k h1 h2, f4 k h1 h2, f3 k h1 h2, f2 k h1 h2, f1 k h1 h2, f0 k h1 h2, fz k h2]
  · intro j hj
    rw [q7 j hj, q6 j hj, q5 j hj, q4 j hj, q3 j hj, q2 j hj, q1 j hj, q0 j hj, gz j hj]
  · rw [k7, k6, k5, k4, k3, k2, k1, k0, kz]
  · funext k i
    by_cases hk : k < 8
    · rcases (show k = 0 ∨ k = 1 ∨ k = 2 ∨ k = 3 ∨ k = 4 ∨ k = 5 ∨ k = 6 ∨ k = 7 by omega) with e | e | e | e | e | e | e | e
      · subst e
        show (if i < 5 then z8.1 94 (0 + i) else 0) = if i < 5 then h.1 74 i else 0
        by_cases y : i < 5
        · rw [if_pos y, if_pos y, b7 _ (by omega), b6 _ (by omega), b5 _ (by omega), b4 _ (by omega), b3 _ (by omega), b2 _ (by omega), b1 _ (by omega), a0 i y, fz 74 (by decide)]
        · rw [if_neg y, if_neg y]
      · subst e
        show (if i < 144 then z8.1 94 (5 + i) else 0) = if i < 144 then h.1 75 i else 0
        by_cases y : i < 144
        · rw [if_pos y, if_pos y, b7 _ (by omega), b6 _ (by omega), b5 _ (by omega), b4 _ (by omega), b3 _ (by omega), b2 _ (by omega), a1 i y, f0 75 (by decide) (by decide), fz 75 (by decide)]
        · rw [if_neg y, if_neg y]
      · subst e
        show (if i < 16 then z8.1 94 (149 + i) else 0) = if i < 16 then h.1 76 i else 0
        by_cases y : i < 16
        · rw [if_pos y, if_pos y, b7 _ (by omega), b6 _ (by omega), b5 _ (by omega), b4 _ (by omega), b3 _ (by omega), a2 i y, f1 76 (by decide) (by decide), f0 76 (by decide) (by decide), fz 76 (by decide)]
        · rw [if_neg y, if_neg y]
      · subst e
        show (if i < 96 then z8.1 94 (165 + i) else 0) = if i < 96 then h.1 77 i else 0
        by_cases y : i < 96
        · rw [if_pos y, if_pos y, b7 _ (by omega), b6 _ (by omega), b5 _ (by omega), b4 _ (by omega), a3 i y, f2 77 (by decide) (by decide), f1 77 (by decide) (by decide), f0 77 (by decide) (by decide), fz 77 (by decide)]
        · rw [if_neg y, if_neg y]
      · subst e
        show (if i < 270 then z8.1 94 (261 + i) else 0) = if i < 270 then h.1 78 i else 0
        by_cases y : i < 270
        · rw [if_pos y, if_pos y, b7 _ (by omega), b6 _ (by omega), b5 _ (by omega), a4 i y, f3 78 (by decide) (by decide), f2 78 (by decide) (by decide), f1 78 (by decide) (by decide), f0 78 (by decide) (by decide), fz 78 (by decide)]
        · rw [if_neg y, if_neg y]
      · subst e
        show (if i < 16 then z8.1 94 (531 + i) else 0) = if i < 16 then h.1 79 i else 0
        by_cases y : i < 16
        · rw [if_pos y, if_pos y, b7 _ (by omega), b6 _ (by omega), a5 i y, f4 79 (by decide) (by decide), f3 79 (by decide) (by decide), f2 79 (by decide) (by decide), f1 79 (by decide) (by decide), f0 79 (by decide) (by decide), fz 79 (by decide)]
        · rw [if_neg y, if_neg y]
      · subst e
        show (if i < 192 then z8.1 94 (547 + i) else 0) = if i < 192 then h.1 80 i else 0
        by_cases y : i < 192
        · rw [if_pos y, if_pos y, b7 _ (by omega), a6 i y, f5 80 (by decide) (by decide), f4 80 (by decide) (by decide), f3 80 (by decide) (by decide), f2 80 (by decide) (by decide), f1 80 (by decide) (by decide), f0 80 (by decide) (by decide), fz 80 (by decide)]
        · rw [if_neg y, if_neg y]
      · subst e
        show (if i < 60 then z8.1 94 (739 + i) else 0) = if i < 60 then h.1 81 i else 0
        by_cases y : i < 60
        · rw [if_pos y, if_pos y, a7 i y, f6 81 (by decide) (by decide), f5 81 (by decide) (by decide), f4 81 (by decide) (by decide), f3 81 (by decide) (by decide), f2 81 (by decide) (by decide), f1 81 (by decide) (by decide), f0 81 (by decide) (by decide), fz 81 (by decide)]
        · rw [if_neg y, if_neg y]
    · unfold ks ms
      have z : szR k = 0 := by unfold szR; rw [List.getD_eq_getElem?_getD, List.getElem?_eq_none (by simp; omega)]; rfl
      simp [z]
theorem m_backAll (h : Hp) : ∃ h2, Gd mX9_moveAll 0 [.ref 72, .int (nI 0)] [] h (none, h2) ∧ (∀ k, ¬ (74 ≤ k ∧ k ≤ 81) → k ≠ 72 → h2.1 k = h.1 k) ∧ (∀ j, j ≠ 34 → h2.1 72 j = h.1 72 j) ∧ h2.2 = h.2 ∧ ms h2 = ks h := by
  obtain ⟨z0, ez⟩ : ∃ z0, z0 = sI h 72 (upd (h.1 72) 34 (nI 0)) := ⟨_, rfl⟩
  have p0 : z0.1 72 34 = nI 0 := by rw [ez]; rfl
  have fz : ∀ k, k ≠ 72 → z0.1 k = h.1 k := fun k hk => by rw [ez]; exact sI_n hk
  have gz : ∀ j, j ≠ 34 → z0.1 72 j = h.1 72 j := fun j hj => by rw [ez, sI_s, upd_n hj]
  have kz : z0.2 = h.2 := by rw [ez]; rfl
  obtain ⟨z1, g0, f0, q0, p1, k0, a0⟩ := m_mu0 p0
  obtain ⟨z2, g1, f1, q1, p2, k1, a1⟩ := m_mu1 p1
  obtain ⟨z3, g2, f2, q2, p3, k2, a2⟩ := m_mu2 p2
  obtain ⟨z4, g3, f3, q3, p4, k3, a3⟩ := m_mu3 p3
  obtain ⟨z5, g4, f4, q4, p5, k4, a4⟩ := m_mu4 p4
  obtain ⟨z6, g5, f5, q5, p6, k5, a5⟩ := m_mu5 p5
  obtain ⟨z7, g6, f6, q6, p7, k6, a6⟩ := m_mu6 p6
  obtain ⟨z8, g7, f7, q7, p8, k7, a7⟩ := m_mu7 p7
  refine ⟨z8, ?_, ?_, ?_, ?_, ?_⟩
  · refine gd_ald0 dX9_moveAll_0 (by decide) ?_
    refine gd_ic0 dX9_moveAll_1 ?_
    refine gd_putI dX9_moveAll_2 fl_9_272 rfl rfl (fun _ _ _ e => by cases e; rfl) ?_
    rw [← ez]
    refine gd_ald0 dX9_moveAll_5 (by decide) ?_
    refine gd_ald0 dX9_moveAll_6 (by decide) ?_
    refine gd_getR (r := 74) dX9_moveAll_7 fl_9_13 rfl rfl rfl (by decide) ?_
    refine gd_ic5 dX9_moveAll_10 ?_
    refine gd_ild1 dX9_moveAll_11 ?_
    refine gd_cV3v dX9_moveAll_12 ct_9_275 rc_72 ⟨Nat.le_of_ble_eq_true rfl, Nat.le_of_ble_eq_true rfl⟩ (Nat.le_of_ble_eq_true rfl) (Nat.le_of_ble_eq_true rfl) (g0) ?_
    refine gd_ald0 dX9_moveAll_15 (by decide) ?_
    refine gd_ald0 dX9_moveAll_16 (by decide) ?_
    refine gd_getR (r := 75) dX9_moveAll_17 fl_9_16 rfl rfl rfl (by decide) ?_
    refine gd_sipush (v := nI 144) dX9_moveAll_20 (by decide) ?_
    refine gd_ild1 dX9_moveAll_23 ?_
    refine gd_cV3v dX9_moveAll_24 ct_9_275 rc_72 ⟨Nat.le_of_ble_eq_true rfl, Nat.le_of_ble_eq_true rfl⟩ (Nat.le_of_ble_eq_true rfl) (Nat.le_of_ble_eq_true rfl) (g1) ?_
    refine gd_ald0 dX9_moveAll_27 (by decide) ?_
    refine gd_ald0 dX9_moveAll_28 (by decide) ?_
    refine gd_getR (r := 76) dX9_moveAll_29 fl_9_19 rfl rfl rfl (by decide) ?_
    refine gd_bipush (v := nI 16) dX9_moveAll_32 (by decide) ?_
    refine gd_ild1 dX9_moveAll_34 ?_
    refine gd_cV3v dX9_moveAll_35 ct_9_275 rc_72 ⟨Nat.le_of_ble_eq_true rfl, Nat.le_of_ble_eq_true rfl⟩ (Nat.le_of_ble_eq_true rfl) (Nat.le_of_ble_eq_true rfl) (g2) ?_
    refine gd_ald0 dX9_moveAll_38 (by decide) ?_
    refine gd_ald0 dX9_moveAll_39 (by decide) ?_
    refine gd_getR (r := 77) dX9_moveAll_40 fl_9_22 rfl rfl rfl (by decide) ?_
    refine gd_bipush (v := nI 96) dX9_moveAll_43 (by decide) ?_
    refine gd_ild1 dX9_moveAll_45 ?_
    refine gd_cV3v dX9_moveAll_46 ct_9_275 rc_72 ⟨Nat.le_of_ble_eq_true rfl, Nat.le_of_ble_eq_true rfl⟩ (Nat.le_of_ble_eq_true rfl) (Nat.le_of_ble_eq_true rfl) (g3) ?_
    refine gd_ald0 dX9_moveAll_49 (by decide) ?_
    refine gd_ald0 dX9_moveAll_50 (by decide) ?_
    refine gd_getR (r := 78) dX9_moveAll_51 fl_9_25 rfl rfl rfl (by decide) ?_
    refine gd_sipush (v := nI 270) dX9_moveAll_54 (by decide) ?_
    refine gd_ild1 dX9_moveAll_57 ?_
    refine gd_cV3v dX9_moveAll_58 ct_9_275 rc_72 ⟨Nat.le_of_ble_eq_true rfl, Nat.le_of_ble_eq_true rfl⟩ (Nat.le_of_ble_eq_true rfl) (Nat.le_of_ble_eq_true rfl) (g4) ?_
    refine gd_ald0 dX9_moveAll_61 (by decide) ?_
    refine gd_ald0 dX9_moveAll_62 (by decide) ?_
    refine gd_getR (r := 79) dX9_moveAll_63 fl_9_28 rfl rfl rfl (by decide) ?_
    refine gd_bipush (v := nI 16) dX9_moveAll_66 (by decide) ?_
    refine gd_ild1 dX9_moveAll_68 ?_
    refine gd_cV3v dX9_moveAll_69 ct_9_275 rc_72 ⟨Nat.le_of_ble_eq_true rfl, Nat.le_of_ble_eq_true rfl⟩ (Nat.le_of_ble_eq_true rfl) (Nat.le_of_ble_eq_true rfl) (g5) ?_
    refine gd_ald0 dX9_moveAll_72 (by decide) ?_
    refine gd_ald0 dX9_moveAll_73 (by decide) ?_
    refine gd_getR (r := 80) dX9_moveAll_74 fl_9_31 rfl rfl rfl (by decide) ?_
    refine gd_sipush (v := nI 192) dX9_moveAll_77 (by decide) ?_
    refine gd_ild1 dX9_moveAll_80 ?_
    refine gd_cV3v dX9_moveAll_81 ct_9_275 rc_72 ⟨Nat.le_of_ble_eq_true rfl, Nat.le_of_ble_eq_true rfl⟩ (Nat.le_of_ble_eq_true rfl) (Nat.le_of_ble_eq_true rfl) (g6) ?_
    refine gd_ald0 dX9_moveAll_84 (by decide) ?_
    refine gd_ald0 dX9_moveAll_85 (by decide) ?_
    refine gd_getR (r := 81) dX9_moveAll_86 fl_9_34 rfl rfl rfl (by decide) ?_
    refine gd_bipush (v := nI 60) dX9_moveAll_89 (by decide) ?_
    refine gd_ild1 dX9_moveAll_91 ?_
    refine gd_cV3v dX9_moveAll_92 ct_9_275 rc_72 ⟨Nat.le_of_ble_eq_true rfl, Nat.le_of_ble_eq_true rfl⟩ (Nat.le_of_ble_eq_true rfl) (Nat.le_of_ble_eq_true rfl) (g7) ?_
    refine gd_vret dX9_moveAll_95 rfl ?_
    rfl
  · intro k h1 h2
    rw [f7 k (by omega) h2, f6 k (by omega) h2, f5 k (by omega) h2, f4 k (by omega) h2, f3 k (by omega) h2, f2 k (by omega) h2, f1 k (by omega) h2, f0 k (by omega) h2, fz k h2]
  · intro j hj
    rw [q7 j hj, q6 j hj, q5 j hj, q4 j hj, q3 j hj, q2 j hj, q1 j hj, q0 j hj, gz j hj]
  · rw [k7, k6, k5, k4, k3, k2, k1, k0, kz]
  · funext k i
    by_cases hk : k < 8
    · rcases (show k = 0 ∨ k = 1 ∨ k = 2 ∨ k = 3 ∨ k = 4 ∨ k = 5 ∨ k = 6 ∨ k = 7 by omega) with e | e | e | e | e | e | e | e
      · subst e
        show (if i < 5 then z8.1 74 i else 0) = if i < 5 then h.1 94 (0 + i) else 0
        by_cases y : i < 5
        · rw [if_pos y, if_pos y, f7 74 (by decide) (by decide), f6 74 (by decide) (by decide), f5 74 (by decide) (by decide), f4 74 (by decide) (by decide), f3 74 (by decide) (by decide), f2 74 (by decide) (by decide), f1 74 (by decide) (by decide), a0 i y, fz 94 (by decide)]
        · rw [if_neg y, if_neg y]
      · subst e
        show (if i < 144 then z8.1 75 i else 0) = if i < 144 then h.1 94 (5 + i) else 0
        by_cases y : i < 144
        · rw [if_pos y, if_pos y, f7 75 (by decide) (by decide), f6 75 (by decide) (by decide), f5 75 (by decide) (by decide), f4 75 (by decide) (by decide), f3 75 (by decide) (by decide), f2 75 (by decide) (by decide), a1 i y, f0 94 (by decide) (by decide), fz 94 (by decide)]
        · rw [if_neg y, if_neg y]
      · subst e
        show (if i < 16 then z8.1 76 i else 0) = if i < 16 then h.1 94 (149 + i) else 0
        by_cases y : i < 16
        · rw [if_pos y, if_pos y, f7 76 (by decide) (by decide), f6 76 (by decide) (by decide), f5 76 (by decide) (by decide), f4 76 (by decide) (by decide), f3 76 (by decide) (by decide), a2 i y, f1 94 (by decide) (by decide), f0 94 (by decide) (by decide), fz 94 (by decide)]
        · rw [if_neg y, if_neg y]
      · subst e
        show (if i < 96 then z8.1 77 i else 0) = if i < 96 then h.1 94 (165 + i) else 0
        by_cases y : i < 96
        · rw [if_pos y, if_pos y, f7 77 (by decide) (by decide), f6 77 (by decide) (by decide), f5 77 (by decide) (by decide), f4 77 (by decide) (by decide), a3 i y, f2 94 (by decide) (by decide), f1 94 (by decide) (by decide), f0 94 (by decide) (by decide), fz 94 (by decide)]
        · rw [if_neg y, if_neg y]
      · subst e
        show (if i < 270 then z8.1 78 i else 0) = if i < 270 then h.1 94 (261 + i) else 0
        by_cases y : i < 270
        · rw [if_pos y, if_pos y, f7 78 (by decide) (by decide), f6 78 (by decide) (by decide), f5 78 (by decide) (by decide), a4 i y, f3 94 (by decide) (by decide), f2 94 (by decide) (by decide), f1 94 (by decide) (by decide), f0 94 (by decide) (by decide), fz 94 (by decide)]
        · rw [if_neg y, if_neg y]
      · subst e
        show (if i < 16 then z8.1 79 i else 0) = if i < 16 then h.1 94 (531 + i) else 0
        by_cases y : i < 16
        · rw [if_pos y, if_pos y, f7 79 (by decide) (by decide), f6 79 (by decide) (by decide), a5 i y, f4 94 (by decide) (by decide), f3 94 (by decide) (by decide), f2 94 (by decide) (by decide), f1 94 (by decide) (by decide), f0 94 (by decide) (by decide), fz 94 (by decide)]
        · rw [if_neg y, if_neg y]
      · subst e
        show (if i < 192 then z8.1 80 i else 0) = if i < 192 then h.1 94 (547 + i) else 0
        by_cases y : i < 192
        · rw [if_pos y, if_pos y, f7 80 (by decide) (by decide), a6 i y, f5 94 (by decide) (by decide), f4 94 (by decide) (by decide), f3 94 (by decide) (by decide), f2 94 (by decide) (by decide), f1 94 (by decide) (by decide), f0 94 (by decide) (by decide), fz 94 (by decide)]
        · rw [if_neg y, if_neg y]
      · subst e
        show (if i < 60 then z8.1 81 i else 0) = if i < 60 then h.1 94 (739 + i) else 0
        by_cases y : i < 60
        · rw [if_pos y, if_pos y, a7 i y, f6 94 (by decide) (by decide), f5 94 (by decide) (by decide), f4 94 (by decide) (by decide), f3 94 (by decide) (by decide), f2 94 (by decide) (by decide), f1 94 (by decide) (by decide), f0 94 (by decide) (by decide), fz 94 (by decide)]
        · rw [if_neg y, if_neg y]
    · unfold ks ms
      have z : szR k = 0 := by unfold szR; rw [List.getD_eq_getElem?_getD, List.getElem?_eq_none (by simp; omega)]; rfl
      simp [z]
set_option maxHeartbeats 2000000 in
theorem p_image {h : Hp} (i : Inv h) : Pas mX8_image mX9_image [.ref 0] [.ref 72] h := by
  obtain ⟨hA, gA, fA, kA, bc⟩ := c_become_26 (h := h)
  obtain ⟨hC, gC, fC, qC, kC, eC⟩ := m_keepAll (sI hA 0 (upd (hA.1 0) 2 (nI 1)))
  have fr : ∀ k, k ≠ 0 → k ≠ 72 → k ≠ 94 → ¬ (27 ≤ k ∧ k ≤ 49) → (sI hC 72 (upd (hC.1 72) 32 (nI 1))).1 k = h.1 k := fun k a b c d => by rw [sI_n b, fC k c b, sI_n a]; exact fA k d
  have f2 : (sI hC 72 (upd (hC.1 72) 32 (nI 1))).2 = h.2 := by show hC.2 = _; rw [kC]; exact kA
  have r72 : ∀ j, j ≠ 34 → j ≠ 32 → (sI hC 72 (upd (hC.1 72) 32 (nI 1))).1 72 j = h.1 72 j := fun j a b => by rw [sI_s, upd_n b, qC j a, sI_n (by decide), fA 72 (by decide)]
  have r0 : (sI hC 72 (upd (hC.1 72) 32 (nI 1))).1 0 2 = nI 1 := by rw [sI_n (by decide), fC 0 (by decide) (by decide), sI_s, upd_ss]
  have em : ms (sI hC 72 (upd (hC.1 72) 32 (nI 1))) = ms h := ms_eq (fun k h1 h2 => fr k (by omega) (by omega) (by omega) (by omega))
  have ek : ks (sI hC 72 (upd (hC.1 72) 32 (nI 1))) = ms h := by
    have e1 : ks (sI hC 72 (upd (hC.1 72) 32 (nI 1))) = ks hC := by funext k i; unfold ks; rw [sI_n (by decide)]
    rw [e1, eC]
    exact ms_eq (fun k h1 h2 => by rw [sI_n (by omega)]; exact fA k (by omega))
  have cA : CR hA 26 (ms h) := CR.copy i.w i.c bc
  have cD : CR (sI hC 72 (upd (hC.1 72) 32 (nI 1))) 26 (ms h) := cA.same (fun j h1 h2 => by rw [sI_n (by omega), fC _ (by omega) (by omega), sI_n (by omega)])
  refine ⟨.int (nI 1), sI hA 0 (upd (hA.1 0) 2 (nI 1)), sI hC 72 (upd (hC.1 72) 32 (nI 1)), ?_, ?_, ?_, ?_, ?_⟩
  · refine gd_ald0 dX8_image_0 (by decide) ?_
    refine gd_getR (r := 26) dX8_image_1 fl_8_16 rfl rfl rfl (by decide) ?_
    refine gd_ald0 dX8_image_4 (by decide) ?_
    refine gd_getR (r := 1) dX8_image_5 fl_8_12 rfl rfl rfl (by decide) ?_
    refine gd_cV1v dX8_image_8 ct_8_317 rc_26 ⟨Nat.le_of_ble_eq_true rfl, Nat.le_of_ble_eq_true rfl⟩ (Nat.le_of_ble_eq_true rfl) (Nat.le_of_ble_eq_true rfl) (gA) ?_
    refine gd_ald0 dX8_image_11 (by decide) ?_
    refine gd_ic1 dX8_image_12 ?_
    refine gd_putZ dX8_image_13 fl_8_19 rfl rfl (fun _ _ _ e => by cases e; rfl) (by first | exact Or.inl rfl | exact Or.inr rfl) ?_
    refine gd_ic1 dX8_image_16 ?_
    refine gd_iret dX8_image_17 rfl rfl ?_
    rfl
  · refine gd_ald0 dX9_image_0 (by decide) ?_
    refine gd_ic1 dX9_image_1 ?_
    refine gd_cV1v dX9_image_2 ct_9_279 rc_72 ⟨Nat.le_of_ble_eq_true rfl, Nat.le_of_ble_eq_true rfl⟩ (Nat.le_of_ble_eq_true rfl) (Nat.le_of_ble_eq_true rfl) (gC) ?_
    refine gd_ald0 dX9_image_5 (by decide) ?_
    refine gd_ic1 dX9_image_6 ?_
    refine gd_putZ dX9_image_7 fl_9_282 rfl rfl (fun _ _ _ e => by cases e; rfl) (by first | exact Or.inl rfl | exact Or.inr rfl) ?_
    refine gd_ic1 dX9_image_10 ?_
    refine gd_iret dX9_image_11 rfl rfl ?_
    rfl
  · refine ⟨by rw [em]; exact i.w, by rw [em]; exact i.c.same (fun j h1 h2 => fr _ (by omega) (by omega) (by omega) (by omega)), ⟨Or.inr r0, ?_, fun _ => by rw [ek]; exact ⟨i.w, cD⟩⟩, ?_, ⟨?_, ?_⟩, ⟨?_, ?_, ?_, ?_, ?_⟩, ?_⟩
    · rw [r0, sI_s, upd_ss]
    · rw [fr 73 (by decide) (by decide) (by decide) (by decide), fr 71 (by decide) (by decide) (by decide) (by decide)]; exact i.f
    · rw [r72 14 (by decide) (by decide), fr 51 (by decide) (by decide) (by decide) (by decide)]; exact i.p.n
    · rw [r72 14 (by decide) (by decide), fr 52 (by decide) (by decide) (by decide) (by decide), fr 85 (by decide) (by decide) (by decide) (by decide)]; exact i.p.b
    · rw [fr 58 (by decide) (by decide) (by decide) (by decide), fr 90 (by decide) (by decide) (by decide) (by decide)]; exact i.s.w
    · rw [fr 59 (by decide) (by decide) (by decide) (by decide), fr 91 (by decide) (by decide) (by decide) (by decide)]; exact i.s.z
    · rw [fr 91 (by decide) (by decide) (by decide) (by decide)]; exact i.s.n
    · rw [fr 90 (by decide) (by decide) (by decide) (by decide)]; exact i.s.v
    · rw [f2]; exact i.s.x
    · unfold scL; rw [f2]; exact i.l
  · exact fr 95 (by decide) (by decide) (by decide) (by decide)
  · rw [f2]
set_option maxHeartbeats 2000000 in
theorem p_undo {h : Hp} (i : Inv h) : Pas mX8_undo mX9_undo [.ref 0] [.ref 72] h := by
  rcases i.k.z with z0 | z1
  · refine Pas.find (h1 := h) (h2 := hf (h) 3) (v := -1000000004) (w := (-1000000000 : Int32) - nI 4) 3 i (by decide) (by decide) (by decide) (Same.rf _) (Same.rf _) ?_ ?_
    · refine gd_ald0 dX8_undo_0 (by decide) ?_
      refine gd_getZ dX8_undo_1 fl_8_19 rfl rfl ?_
      refine gd_if_ne_f 14 dX8_undo_4 (by decide) (by rw [z0]; decide) ?_
      refine gd_ald0 dX8_undo_7 (by decide) ?_
      refine gd_ldc dX8_undo_8 ld_8_174 ?_
      refine gd_cV1i dX8_undo_10 ct_8_53 rc_0 ⟨Nat.le_of_ble_eq_true rfl, Nat.le_of_ble_eq_true rfl⟩ (Nat.le_of_ble_eq_true rfl) (Nat.le_of_ble_eq_true rfl) (c_f3 _) ?_
      refine gd_iret dX8_undo_13 rfl rfl ?_
      rfl
    · refine gd_ald0 dX9_undo_0 (by decide) ?_
      refine gd_getZ dX9_undo_1 fl_9_282 rfl rfl ?_
      refine gd_if_ne_f 13 dX9_undo_4 (by decide) (by rw [show (hf h 3).1 72 32 = nI 0 from i.k.e.trans z0]; decide) ?_
      refine gd_ald0 dX9_undo_7 (by decide) ?_
      refine gd_ic4 dX9_undo_8 ?_
      refine gd_cV1i dX9_undo_9 ct_9_97 rc_72 ⟨Nat.le_of_ble_eq_true rfl, Nat.le_of_ble_eq_true rfl⟩ (Nat.le_of_ble_eq_true rfl) (Nat.le_of_ble_eq_true rfl) (m_f3 _) ?_
      refine gd_iret dX9_undo_12 rfl rfl ?_
      rfl
  · obtain ⟨kw, kc⟩ := i.k.k z1
    obtain ⟨hA, gA, fA, kA, bc⟩ := c_become_1 (h := h)
    obtain ⟨hC, gC, fC, qC, kC, eC⟩ := m_backAll hA
    have fr : ∀ k, ¬ (2 ≤ k ∧ k ≤ 24) → ¬ (74 ≤ k ∧ k ≤ 81) → k ≠ 72 → hC.1 k = h.1 k := fun k a b c => by rw [fC k b c]; exact fA k (by omega)
    have f2 : hC.2 = h.2 := kC.trans kA
    have r72 : ∀ j, j ≠ 34 → hC.1 72 j = h.1 72 j := fun j a => by rw [qC j a, fA 72 (by decide)]
    have eK : ks hA = ks h := by funext k j; unfold ks; rw [fA 94 (by decide)]
    have em : ms hC = ks h := eC.trans eK
    have cA : CR hA 1 (ks h) := CR.copy kw kc bc
    have cC : CR hC 1 (ks h) := cA.same (fun j h1 h2 => fC _ (by omega) (by omega))
    have ed : hC.1 74 4 = ks h 0 4 := by rw [← ms_r0 (by decide), em]
    refine ⟨.int (ks h 0 4), hA, hC, ?_, ?_, ?_, ?_, ?_⟩
    · refine gd_ald0 dX8_undo_0 (by decide) ?_
      refine gd_getZ dX8_undo_1 fl_8_19 rfl rfl ?_
      refine gd_if_ne_t 14 dX8_undo_4 (by decide) (by rw [z1]; decide) ?_
      refine gd_ald0 dX8_undo_14 (by decide) ?_
      refine gd_getR (r := 1) dX8_undo_15 fl_8_12 rfl rfl rfl (by decide) ?_
      refine gd_ald0 dX8_undo_18 (by decide) ?_
      refine gd_getR (r := 26) dX8_undo_19 fl_8_16 rfl rfl rfl (by decide) ?_
      refine gd_cV1v dX8_undo_22 ct_8_317 rc_1 ⟨Nat.le_of_ble_eq_true rfl, Nat.le_of_ble_eq_true rfl⟩ (Nat.le_of_ble_eq_true rfl) (Nat.le_of_ble_eq_true rfl) (gA) ?_
      refine gd_ald0 dX8_undo_25 (by decide) ?_
      refine gd_getR (r := 1) dX8_undo_26 fl_8_12 rfl rfl rfl (by decide) ?_
      refine gd_getR (r := 2) dX8_undo_29 fl_8_57 rfl rfl rfl (by decide) ?_
      refine gd_getI dX8_undo_32 fl_8_120 rfl rfl ?_
      rw [show hA.1 2 4 = ks h 0 4 from cA.d1]
      refine gd_iret dX8_undo_35 rfl rfl ?_
      rfl
    · refine gd_ald0 dX9_undo_0 (by decide) ?_
      refine gd_getZ dX9_undo_1 fl_9_282 rfl rfl ?_
      refine gd_if_ne_t 13 dX9_undo_4 (by decide) (by rw [show hA.1 72 32 = nI 1 from (congrFun (fA 72 (by decide)) 32).trans (i.k.e.trans z1)]; decide) ?_
      refine gd_ald0 dX9_undo_13 (by decide) ?_
      refine gd_ic0 dX9_undo_14 ?_
      refine gd_cV1v dX9_undo_15 ct_9_279 rc_72 ⟨Nat.le_of_ble_eq_true rfl, Nat.le_of_ble_eq_true rfl⟩ (Nat.le_of_ble_eq_true rfl) (Nat.le_of_ble_eq_true rfl) (gC) ?_
      refine gd_ald0 dX9_undo_18 (by decide) ?_
      refine gd_getR (r := 74) dX9_undo_19 fl_9_13 rfl rfl rfl (by decide) ?_
      refine gd_ic4 dX9_undo_22 ?_
      refine gd_iald (n := 5) dX9_undo_23 rfl (by decide) (by repeat' (first | with_reducible rfl | apply ni_add | apply ni_mul)) (by omega) ?_
      rw [ed]
      refine gd_iret dX9_undo_24 rfl rfl ?_
      rfl
    · refine inv_both i (fun k hk => fr k (by omega) (by omega) (by omega)) (by rw [fr 0 (by decide) (by decide) (by decide)]) (r72 32 (by decide)) ⟨?_, ?_⟩ ⟨?_, ?_, ?_, ?_, ?_⟩ (by rw [f2]) (by rw [em]; exact kw) (by rw [em]; exact cC)
      · rw [r72 14 (by decide), fr 51 (by decide) (by decide) (by decide)]; exact i.p.n
      · rw [r72 14 (by decide), fr 52 (by decide) (by decide) (by decide), fr 85 (by decide) (by decide) (by decide)]; exact i.p.b
      · rw [fr 58 (by decide) (by decide) (by decide), fr 90 (by decide) (by decide) (by decide)]; exact i.s.w
      · rw [fr 59 (by decide) (by decide) (by decide), fr 91 (by decide) (by decide) (by decide)]; exact i.s.z
      · rw [fr 91 (by decide) (by decide) (by decide)]; exact i.s.n
      · rw [fr 90 (by decide) (by decide) (by decide)]; exact i.s.v
      · rw [f2]; exact i.s.x
    · exact fr 95 (by decide) (by decide) (by decide)
    · rw [f2]
