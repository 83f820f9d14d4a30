
/-! ===== next ===== -/
def wdB (s : Nat → Nat → Int32) (g : Int32) (t : Nat) : Bool := decide (1 < cntN (spN s g t).testBit 30)
theorem cnt_hi {n : Nat} (h : n < 4096) : cntN n.testBit 32 = cntN n.testBit 30 := by
  show cntN n.testBit 30 + _ + _ = _
  rw [hi_bit h (by decide), hi_bit h (by decide)]; rfl
theorem cnt_bi (p : Nat → Bool) (k : Nat) : nI (cntN p k) + bi (p k) = nI (cntN p (k + 1)) := by
  show _ = nI (cntN p k + (if p k = true then 1 else 0))
  cases p k
  · exact add_z _
  · rw [← nI_add]; rfl
def tlP (s : Nat → Nat → Int32) (g : Int32) (d b t k i : Nat) : Bool := decide (mfN s g d i = b) && decide (stN s t (i / 40) (i % 40) d = k)
def tlN (s : Nat → Nat → Int32) (g : Int32) (d b t k : Nat) : Nat → Nat := cntN (tlP s g d b t k)
theorem tl_n {s : Nat → Nat → Int32} {g : Int32} {d b t k i : Nat} (h : ¬ mfN s g d i = b) : tlN s g d b t k (i + 1) = tlN s g d b t k i := cnt_no (by unfold tlP; rw [decide_eq_false h]; rfl)
theorem tl_y {s : Nat → Nat → Int32} {g : Int32} {d b t k i : Nat} (h : mfN s g d i = b) : tlN s g d b t k (i + 1) = tlN s g d b t k i + (if stN s t (i / 40) (i % 40) d = k then 1 else 0) := by
  by_cases e : stN s t (i / 40) (i % 40) d = k
  · rw [if_pos e]; exact cnt_ye (by unfold tlP; rw [decide_eq_true h, decide_eq_true e]; rfl)
  · rw [if_neg e]; exact cnt_no (by unfold tlP; rw [decide_eq_false e, Bool.and_false])
def mxN (f : Nat → Nat) : Nat → Nat
  | 0 => 0
  | k + 1 => max (mxN f k) (f k)
theorem mx_le {f : Nat → Nat} {m : Nat} (hf : ∀ k, f k ≤ m) : ∀ k, mxN f k ≤ m := by
  intro k
  induction k with
  | zero => exact Nat.zero_le _
  | succ k ih => exact Nat.max_le.mpr ⟨ih, hf k⟩
theorem mxx {a b : Nat} (ha : a < 2 ^ 31) (hb : b < 2 ^ 31) : (if nI a < nI b then nI b else nI a) = nI (max a b) := by
  by_cases h : a < b
  · rw [if_pos (nI_lt h hb), Nat.max_eq_right (by omega)]
  · rw [if_neg (nI_nlt (by omega) ha), Nat.max_eq_left (by omega)]
def nxN (wd : Nat → Bool) (m : Nat → Nat) : Nat → Nat × Nat
  | 0 => (0, 0)
  | t + 1 => if wd t = true ∧ ((nxN wd m t).1 = 0 ∨ m t < (nxN wd m t).2) then (t + 1, m t) else nxN wd m t
def akI (p : Nat × Nat) : Int32 := if p.1 = 0 then -1 else nI (p.1 - 1)
def fwI (x : Int32) (p : Nat × Nat) : Int32 := if p.1 = 0 then x else nI p.2
theorem nx_le {wd : Nat → Bool} {m : Nat → Nat} (hm : ∀ t, m t ≤ 5760) : ∀ t, (nxN wd m t).1 ≤ t ∧ (nxN wd m t).2 ≤ 5760 := by
  intro t
  induction t with
  | zero => exact ⟨Nat.le_refl _, Nat.zero_le _⟩
  | succ t ih =>
    rw [nxN]
    split
    · exact ⟨Nat.le_refl _, hm t⟩
    · exact ⟨by omega, ih.2⟩

theorem c_isWide {h : Hp} {s : Nat → Nat → Int32} (w : WF s) {g : Int32} (v : SV h s g) {t : Nat} (ht : t < nT s) : Gd mX4_isWide 0 [.ref 60, .int (nI t)] [] h (some (.int (bi (wdB s g t))), h) := by
  have lT := w.t.2
  have pl := spN_lt s g t
  have cl := cntN_le (spN s g t).testBit 30
  unfold wdB
  by_cases q : 1 < cntN (spN s g t).testBit 30
  · rw [decide_eq_true q]
    refine gd_ald0 dX4_isWide_0 (by decide) ?_
    refine gd_getR (r := 61) dX4_isWide_1 fl_4_9 rfl rfl rfl (by decide) ?_
    refine gd_ild1 dX4_isWide_4 ?_
    refine gd_iald (n := 16) dX4_isWide_5 rfl (by decide) (by repeat' (first | with_reducible rfl | apply ni_add | apply ni_mul)) (by omega) ?_
    rw [v.1.2.2 t ht]
    refine gd_cS1i dX4_isWide_6 ct_4_157 ⟨Nat.le_of_ble_eq_true rfl, Nat.le_of_ble_eq_true rfl⟩ (Nat.le_of_ble_eq_true rfl) (Nat.le_of_ble_eq_true rfl) (j_bitCount (by omega) _) ?_
    rw [cnt_hi pl]
    refine gd_ic1 dX4_isWide_9 ?_
    refine gd_icmp_le_f 17 dX4_isWide_10 (by decide) (by exact nI_ge (by omega) (by omega)) ?_
    refine gd_ic1 dX4_isWide_13 ?_
    refine gd_goto 18 dX4_isWide_14 (by decide) ?_
    refine gd_iret dX4_isWide_18 rfl (by first | rfl | decide | exact nar_bi _ | assumption) ?_
    rfl
  · rw [decide_eq_false q]
    refine gd_ald0 dX4_isWide_0 (by decide) ?_
    refine gd_getR (r := 61) dX4_isWide_1 fl_4_9 rfl rfl rfl (by decide) ?_
    refine gd_ild1 dX4_isWide_4 ?_
    refine gd_iald (n := 16) dX4_isWide_5 rfl (by decide) (by repeat' (first | with_reducible rfl | apply ni_add | apply ni_mul)) (by omega) ?_
    rw [v.1.2.2 t ht]
    refine gd_cS1i dX4_isWide_6 ct_4_157 ⟨Nat.le_of_ble_eq_true rfl, Nat.le_of_ble_eq_true rfl⟩ (Nat.le_of_ble_eq_true rfl) (Nat.le_of_ble_eq_true rfl) (j_bitCount (by omega) _) ?_
    rw [cnt_hi pl]
    refine gd_ic1 dX4_isWide_9 ?_
    refine gd_icmp_le_t 17 dX4_isWide_10 (by decide) (by exact nI_le (by omega) (by omega)) ?_
    refine gd_ic0 dX4_isWide_17 ?_
    refine gd_iret dX4_isWide_18 rfl (by first | rfl | decide | exact nar_bi _ | assumption) ?_
    rfl
theorem m_bits {n : Nat} (hn : n < 4096) (h : Hp) : Gd mX9_bits 0 [.int (nI n), .null, .null] [] h (some (.int (nI (cntN n.testBit 30))), h) := by
  have key := loopG (P := fun k => Gd mX9_bits 4 [.int (nI n), .int (nI (cntN n.testBit k)), .int (nI k)] [] h (some (.int (nI (cntN n.testBit 30))), h)) (n := 30) ?_ ?_ 0 (by omega)
  · refine gd_ic0 dX9_bits_0 ?_
    refine gd_ist1 dX9_bits_1 rfl ?_
    refine gd_ic0 dX9_bits_2 ?_
    refine gd_ist2 dX9_bits_3 rfl ?_
    exact key
  · refine gd_ild2 dX9_bits_4 ?_
    refine gd_bipush (v := nI 30) dX9_bits_5 (by decide) ?_
    refine gd_icmp_ge_t 24 dX9_bits_7 (by decide) (by exact nI_le (by omega) (by omega)) ?_
    refine gd_ild1 dX9_bits_24 ?_
    refine gd_iret dX9_bits_25 rfl rfl ?_
    rfl
  · intro k hk ih
    refine gd_ild2 dX9_bits_4 ?_
    refine gd_bipush (v := nI 30) dX9_bits_5 (by decide) ?_
    refine gd_icmp_ge_f 24 dX9_bits_7 (by decide) (by exact nI_ge (by omega) (by omega)) ?_
    refine gd_ild1 dX9_bits_10 ?_
    refine gd_ild0 dX9_bits_11 ?_
    refine gd_ild2 dX9_bits_12 ?_
    refine gd_ishr dX9_bits_13 ?_
    refine gd_ic1 dX9_bits_14 ?_
    refine gd_iand dX9_bits_15 ?_
    rw [bit_nI (by omega) (by omega)]
    refine gd_iadd dX9_bits_16 ?_
    rw [cnt_bi]
    refine gd_ist1 dX9_bits_17 rfl ?_
    refine gd_iinc2 (b := nI 1) dX9_bits_18 (by decide) rfl ?_
    rw [nI_add]
    refine gd_goto 4 dX9_bits_21 (by decide) ?_
    exact ih

def FC (h h' : Hp) : Prop := (∀ k, k ≠ 70 → h'.1 k = h.1 k) ∧ h'.2 = h.2
theorem FC.fs {h h' : Hp} (p : FC h h') : FS h h' := ⟨fun k hk => p.1 k (by omega), fun k _ => by rw [p.2]⟩
theorem FC.sv {h h' : Hp} {s : Nat → Nat → Int32} {g : Int32} (p : FC h h') (v : SV h s g) : SV h' s g := v.of (fun k h1 h2 => p.1 k (by omega))
theorem FC.rw {h h' : Hp} {s : Nat → Nat → Int32} {g : Int32} {c d : Nat} (p : FC h h') (r : RWP s g c d h) : RWP s g c d h' := by
  unfold RWP; rw [p.1 67 (by decide), p.1 68 (by decide)]; exact r
def CT1 (s : Nat → Nat → Int32) (g : Int32) (c z d : Nat) (L : Nat → Nat → Nat) (t k : Nat) : Nat := L t k + (if wdB s g t = true ∧ stN s t c z d = k then 1 else 0)
def RC (s : Nat → Nat → Int32) (h : Hp) (L : Nat → Nat → Nat) : Prop := ∀ t, t < nT s → ∀ k, k < 12 → h.1 70 (t * 12 + k) = nI (L t k)

theorem c_countStepsOf {h : Hp} {s : Nat → Nat → Int32} (w : WF s) {g : Int32} (v : SV h s g) {c z d : Nat} (hc : c < 144) (hz : z < 40) (hd : d < 4) {L : Nat → Nat → Nat} (r : RWP s g c d h) (hL : RC s h L) : ∃ h2, Gd mX4_countStepsOf 0 [.ref 60, .int (nI z), .null] [] h (none, h2) ∧ FC h h2 ∧ RC s h2 (CT1 s g c z d L) := by
  have lT := w.t.2
  have key : ∀ h', FC h h' → (∀ u, u < nT s → ∀ k, k < 12 → h'.1 70 (u * 12 + k) = nI (if u < 0 then CT1 s g c z d L u k else L u k)) → ∃ h2, Gd mX4_countStepsOf 2 [.ref 60, .int (nI z), .int (nI 0)] [] h' (none, h2) ∧ FC h h2 ∧ RC s h2 (CT1 s g c z d L) := by
    refine loopG (P := fun t => ∀ h', FC h h' → (∀ u, u < nT s → ∀ k, k < 12 → h'.1 70 (u * 12 + k) = nI (if u < t then CT1 s g c z d L u k else L u k)) → ∃ h2, Gd mX4_countStepsOf 2 [.ref 60, .int (nI z), .int (nI t)] [] h' (none, h2) ∧ FC h h2 ∧ RC s h2 (CT1 s g c z d L)) (n := nT s) ?_ ?_ 0 (by omega)
    · intro h' q1 q2
      refine ⟨h', ?_, q1, fun t ht k hk => by rw [q2 t ht k hk, if_pos ht]⟩
      refine gd_ild2 dX4_countStepsOf_2 ?_
      refine gd_ald0 dX4_countStepsOf_3 (by decide) ?_
      refine gd_getI dX4_countStepsOf_4 fl_4_43 rfl rfl ?_
      refine gd_icmp_ge_t 49 dX4_countStepsOf_7 (by decide) (by rw [(q1.sv v).1.1]; exact nI_le (by omega) (by omega)) ?_
      refine gd_vret dX4_countStepsOf_49 rfl ?_
      rfl
    · intro t ht ih h' q1 q2
      have c1 := cl_ok w ht
      obtain ⟨_, _, _, _, m1⟩ := mo_ok w ht
      have d1 := dq_le (s := s) (t := t) hc c1.2 hd
      have sl := stN_le s t c z d
      cases hw : wdB s g t with
      | false =>
        have q3 : ∀ u, u < nT s → ∀ k, k < 12 → h'.1 70 (u * 12 + k) = nI (if u < t + 1 then CT1 s g c z d L u k else L u k) := by
          intro u hu k hk
          rw [q2 u hu k hk]
          by_cases e : u = t
          · rw [if_neg (by omega), if_pos (by omega), e]; unfold CT1; rw [hw, if_neg (fun y => absurd y.1 (by decide))]; rfl
          · by_cases y : u < t
            · rw [if_pos y, if_pos (by omega)]
            · rw [if_neg y, if_neg (by omega)]
        obtain ⟨h2, gg, x⟩ := ih h' q1 q3
        refine ⟨h2, ?_, x⟩
        refine gd_ild2 dX4_countStepsOf_2 ?_
        refine gd_ald0 dX4_countStepsOf_3 (by decide) ?_
        refine gd_getI dX4_countStepsOf_4 fl_4_43 rfl rfl ?_
        refine gd_icmp_ge_f 49 dX4_countStepsOf_7 (by decide) (by rw [(q1.sv v).1.1]; exact nI_ge (by omega) (by omega)) ?_
        refine gd_ald0 dX4_countStepsOf_10 (by decide) ?_
        refine gd_ild2 dX4_countStepsOf_11 ?_
        refine gd_cV1i dX4_countStepsOf_12 ct_4_153 rc_60 ⟨Nat.le_of_ble_eq_true rfl, Nat.le_of_ble_eq_true rfl⟩ (Nat.le_of_ble_eq_true rfl) (Nat.le_of_ble_eq_true rfl) (c_isWide w (q1.sv v) ht) ?_
        refine gd_if_eq_t 43 dX4_countStepsOf_15 (by decide) (by rw [hw]; decide) ?_
        refine gd_iinc2 (b := nI 1) dX4_countStepsOf_43 (by decide) rfl ?_
        rw [nI_add]
        refine gd_goto 2 dX4_countStepsOf_46 (by decide) ?_
        exact gg
      | true =>
        have q3 : ∀ u, u < nT s → ∀ k, k < 12 → (sI h' 70 (upd (h'.1 70) (t * 12 + (stN s t c z d)) (nI (L t (stN s t c z d) + 1)))).1 70 (u * 12 + k) = nI (if u < t + 1 then CT1 s g c z d L u k else L u k) := by
          intro u hu k hk
          rw [sI_s, upd_at]
          by_cases e : u = t
          · subst e
            rw [if_pos (show u < u + 1 by omega)]
            unfold CT1
            by_cases y : (stN s u c z d) = k
            · rw [if_pos (by rw [y]), if_pos ⟨hw, y⟩, y]
            · rw [if_neg (by omega), if_neg (fun x => y x.2), q2 u hu k hk, if_neg (Nat.lt_irrefl _)]; rfl
          · rw [if_neg (by omega), q2 u hu k hk]
            by_cases y : u < t
            · rw [if_pos y, if_pos (by omega)]
            · rw [if_neg y, if_neg (by omega)]
        obtain ⟨h2, gg, x⟩ := ih (sI h' 70 (upd (h'.1 70) (t * 12 + (stN s t c z d)) (nI (L t (stN s t c z d) + 1)))) ⟨fun k hk => by rw [sI_n hk]; exact q1.1 k hk, q1.2⟩ q3
        refine ⟨h2, ?_, x⟩
        refine gd_ild2 dX4_countStepsOf_2 ?_
        refine gd_ald0 dX4_countStepsOf_3 (by decide) ?_
        refine gd_getI dX4_countStepsOf_4 fl_4_43 rfl rfl ?_
        refine gd_icmp_ge_f 49 dX4_countStepsOf_7 (by decide) (by rw [(q1.sv v).1.1]; exact nI_ge (by omega) (by omega)) ?_
        refine gd_ald0 dX4_countStepsOf_10 (by decide) ?_
        refine gd_ild2 dX4_countStepsOf_11 ?_
        refine gd_cV1i dX4_countStepsOf_12 ct_4_153 rc_60 ⟨Nat.le_of_ble_eq_true rfl, Nat.le_of_ble_eq_true rfl⟩ (Nat.le_of_ble_eq_true rfl) (Nat.le_of_ble_eq_true rfl) (c_isWide w (q1.sv v) ht) ?_
        refine gd_if_eq_f 43 dX4_countStepsOf_15 (by decide) (by rw [hw]; decide) ?_
        refine gd_ald0 dX4_countStepsOf_18 (by decide) ?_
        refine gd_getR (r := 70) dX4_countStepsOf_19 fl_4_40 rfl rfl rfl (by decide) ?_
        refine gd_ild2 dX4_countStepsOf_22 ?_
        refine gd_bipush (v := nI 12) dX4_countStepsOf_23 (by decide) ?_
        refine gd_imul dX4_countStepsOf_25 ?_
        refine gd_ild1 dX4_countStepsOf_26 ?_
        refine gd_ald0 dX4_countStepsOf_27 (by decide) ?_
        refine gd_getR (r := 67) dX4_countStepsOf_28 fl_4_30 rfl rfl rfl (by decide) ?_
        refine gd_ild2 dX4_countStepsOf_31 ?_
        refine gd_iald (n := 16) dX4_countStepsOf_32 rfl (by decide) (by repeat' (first | with_reducible rfl | apply ni_add | apply ni_mul)) (by omega) ?_
        rw [show h'.1 67 t = nI (moN s t) - nI (dqN s t c d) from (congrFun (q1.1 67 (by decide)) t).trans (r.1 t ht)]
        refine gd_iadd dX4_countStepsOf_33 ?_
        rw [z_sub]
        refine gd_cS1i dX4_countStepsOf_34 ct_4_113 ⟨Nat.le_of_ble_eq_true rfl, Nat.le_of_ble_eq_true rfl⟩ (Nat.le_of_ble_eq_true rfl) (Nat.le_of_ble_eq_true rfl) (c_bounded (A := z + moN s t) (q := dqN s t c d) (by omega) (by omega) _) ?_
        refine gd_iadd dX4_countStepsOf_37 ?_
        refine gd_dup2 (by decide) dX4_countStepsOf_38 ?_
        refine gd_iald (n := 192) dX4_countStepsOf_39 rfl (by decide) (by repeat' (first | with_reducible rfl | apply ni_add | apply ni_mul)) (by omega) ?_
        rw [show h'.1 70 (t * 12 + min 11 (z + moN s t - dqN s t c d)) = nI (L t (stN s t c z d)) from (q2 t ht _ (by omega)).trans (by rw [if_neg (Nat.lt_irrefl _)]; rfl)]
        refine gd_ic1 dX4_countStepsOf_40 ?_
        refine gd_iadd dX4_countStepsOf_41 ?_
        rw [nI_add]
        refine gd_iast (n := 192) dX4_countStepsOf_42 rfl (by decide) (by repeat' (first | with_reducible rfl | apply ni_add | apply ni_mul)) (by omega) ?_
        refine gd_iinc2 (b := nI 1) dX4_countStepsOf_43 (by decide) rfl ?_
        rw [nI_add]
        refine gd_goto 2 dX4_countStepsOf_46 (by decide) ?_
        exact gg
  obtain ⟨h2, gg, x⟩ := key h ⟨fun _ _ => rfl, rfl⟩ (fun u hu k hk => by rw [if_neg (by omega)]; exact hL u hu k hk)
  refine ⟨h2, ?_, x⟩
  refine gd_ic0 dX4_countStepsOf_0 ?_
  refine gd_ist2 dX4_countStepsOf_1 rfl ?_
  exact gg

theorem tl_le (s : Nat → Nat → Int32) (g : Int32) (d b t k n : Nat) : tlN s g d b t k n ≤ n := cntN_le _ _
theorem rc_congr {s : Nat → Nat → Int32} {h : Hp} {L M : Nat → Nat → Nat} (e : ∀ t k, L t k = M t k) (r : RC s h L) : RC s h M := fun t ht k hk => by rw [← e t k]; exact r t ht k hk

theorem lp_cs1 {h : Hp} {s : Nat → Nat → Int32} (w : WF s) {g : Int32} {c d b : Nat} (hc : c < 144) (hd : d < 4) (hb : b ≤ 192) (ih : ∀ h' l4, FS h h' → SV h' s g → RC s h' (fun t k => if wdB s g t = true then tlN s g d b t k (40 * (c + 1)) else 0) → ∃ h2, Gd mX4_countSteps 10 [.ref 60, .int (nI d), .int (nI b), .int (nI (c + 1)), l4] [] h' (none, h2) ∧ FS h h2 ∧ SV h2 s g ∧ RC s h2 (fun t k => if wdB s g t = true then tlN s g d b t k (5760) else 0)) : ∀ h', FS h h' → SV h' s g → RWP s g c d h' → RC s h' (fun t k => if wdB s g t = true then tlN s g d b t k (40 * c + 0) else 0) → ∃ h2, Gd mX4_countSteps 26 [.ref 60, .int (nI d), .int (nI b), .int (nI c), .int (nI 0)] [] h' (none, h2) ∧ FS h h2 ∧ SV h2 s g ∧ RC s h2 (fun t k => if wdB s g t = true then tlN s g d b t k (5760) else 0) := by
  refine loopG (P := fun z => ∀ h', FS h h' → SV h' s g → RWP s g c d h' → RC s h' (fun t k => if wdB s g t = true then tlN s g d b t k (40 * c + z) else 0) → ∃ h2, Gd mX4_countSteps 26 [.ref 60, .int (nI d), .int (nI b), .int (nI c), .int (nI z)] [] h' (none, h2) ∧ FS h h2 ∧ SV h2 s g ∧ RC s h2 (fun t k => if wdB s g t = true then tlN s g d b t k (5760) else 0)) (n := 40) ?_ ?_ 0 (by omega)
  · intro h' q1 q2 q3 q4
    rw [show 40 * (c + 1) = 40 * c + 40 by omega] at ih
    obtain ⟨h2, gg, x⟩ := ih h' (.int (nI 40)) q1 q2 q4
    refine ⟨h2, ?_, x⟩
    refine gd_ild4 dX4_countSteps_26 ?_
    refine gd_bipush (v := nI 40) dX4_countSteps_28 (by decide) ?_
    refine gd_icmp_ge_t 56 dX4_countSteps_30 (by decide) (by exact nI_le (by omega) (by omega)) ?_
    refine gd_iinc3 (b := nI 1) dX4_countSteps_56 (by decide) rfl ?_
    rw [nI_add]
    refine gd_goto 10 dX4_countSteps_59 (by decide) ?_
    exact gg
  · intro z hz ih2 h' q1 q2 q3 q4
    have em : mfN s g d (40 * c + z) = msN s g c z d := by unfold mfN; rw [(ix_cz hz).1, (ix_cz hz).2]
    have ml := ms_le w g c z d
    rw [show 40 * c + (z + 1) = 40 * c + z + 1 from rfl] at ih2
    by_cases y : msN s g c z d = b
    · obtain ⟨h3, g3, f3, r3⟩ := c_countStepsOf w q2 hc hz hd q3 q4
      have r4 : RC s h3 (fun t k => if wdB s g t = true then tlN s g d b t k (40 * c + z + 1) else 0) := rc_congr (fun t k => by
        unfold CT1
        rw [tl_y (em.trans y), (ix_cz hz).1, (ix_cz hz).2]
        dsimp only
        by_cases hw : wdB s g t = true
        · rw [if_pos hw, if_pos hw]
          by_cases e : stN s t c z d = k
          · rw [if_pos e, if_pos ⟨hw, e⟩]
          · rw [if_neg e, if_neg (fun x => e x.2)]
        · rw [if_neg hw, if_neg hw, if_neg (fun x => hw x.1)]) r3
      obtain ⟨h2, gg, x⟩ := ih2 h3 (q1.tr f3.fs) (f3.sv q2) (f3.rw q3) r4
      refine ⟨h2, ?_, x⟩
      refine gd_ild4 dX4_countSteps_26 ?_
      refine gd_bipush (v := nI 40) dX4_countSteps_28 (by decide) ?_
      refine gd_icmp_ge_f 56 dX4_countSteps_30 (by decide) (by exact nI_ge (by omega) (by omega)) ?_
      refine gd_ald0 dX4_countSteps_33 (by decide) ?_
      refine gd_getR (r := 68) dX4_countSteps_34 fl_4_33 rfl rfl rfl (by decide) ?_
      refine gd_ild4 dX4_countSteps_37 ?_
      refine gd_iald (n := 40) dX4_countSteps_39 rfl (by decide) (by repeat' (first | with_reducible rfl | apply ni_add | apply ni_mul)) (by omega) ?_
      rw [q3.2 z hz]
      refine gd_ild2 dX4_countSteps_40 ?_
      refine gd_icmp_ne_f 50 dX4_countSteps_41 (by decide) (by exact (nI_eq (by omega) (by omega)).mpr (by omega)) ?_
      refine gd_ald0 dX4_countSteps_44 (by decide) ?_
      refine gd_ild4 dX4_countSteps_45 ?_
      refine gd_cV1v dX4_countSteps_47 ct_4_162 rc_60 ⟨Nat.le_of_ble_eq_true rfl, Nat.le_of_ble_eq_true rfl⟩ (Nat.le_of_ble_eq_true rfl) (Nat.le_of_ble_eq_true rfl) (g3) ?_
      refine gd_iinc4 (b := nI 1) dX4_countSteps_50 (by decide) rfl ?_
      rw [nI_add]
      refine gd_goto 26 dX4_countSteps_53 (by decide) ?_
      exact gg
    · have r4 : RC s h' (fun t k => if wdB s g t = true then tlN s g d b t k (40 * c + z + 1) else 0) := rc_congr (fun t k => by rw [tl_n (by rw [em]; exact y)]) q4
      obtain ⟨h2, gg, x⟩ := ih2 h' q1 q2 q3 r4
      refine ⟨h2, ?_, x⟩
      refine gd_ild4 dX4_countSteps_26 ?_
      refine gd_bipush (v := nI 40) dX4_countSteps_28 (by decide) ?_
      refine gd_icmp_ge_f 56 dX4_countSteps_30 (by decide) (by exact nI_ge (by omega) (by omega)) ?_
      refine gd_ald0 dX4_countSteps_33 (by decide) ?_
      refine gd_getR (r := 68) dX4_countSteps_34 fl_4_33 rfl rfl rfl (by decide) ?_
      refine gd_ild4 dX4_countSteps_37 ?_
      refine gd_iald (n := 40) dX4_countSteps_39 rfl (by decide) (by repeat' (first | with_reducible rfl | apply ni_add | apply ni_mul)) (by omega) ?_
      rw [q3.2 z hz]
      refine gd_ild2 dX4_countSteps_40 ?_
      refine gd_icmp_ne_t 50 dX4_countSteps_41 (by decide) (by exact fun z => absurd ((nI_eq (by omega) (by omega)).mp z) (by omega)) ?_
      refine gd_iinc4 (b := nI 1) dX4_countSteps_50 (by decide) rfl ?_
      rw [nI_add]
      refine gd_goto 26 dX4_countSteps_53 (by decide) ?_
      exact gg
theorem c_countSteps {h : Hp} {s : Nat → Nat → Int32} (w : WF s) {g : Int32} (v : SV h s g) {d b : Nat} (hd : d < 4) (hb : b ≤ 192) : ∃ h2, Gd mX4_countSteps 0 [.ref 60, .int (nI d), .int (nI b), .null, .null] [] h (none, h2) ∧ FS h h2 ∧ SV h2 s g ∧ RC s h2 (fun t k => if wdB s g t = true then tlN s g d b t k (5760) else 0) := by
  have lT := w.t.2
  have key : ∀ h' l4, FS h h' → SV h' s g → RC s h' (fun t k => if wdB s g t = true then tlN s g d b t k (40 * 0) else 0) → ∃ h2, Gd mX4_countSteps 10 [.ref 60, .int (nI d), .int (nI b), .int (nI 0), l4] [] h' (none, h2) ∧ FS h h2 ∧ SV h2 s g ∧ RC s h2 (fun t k => if wdB s g t = true then tlN s g d b t k (5760) else 0) := by
    refine loopG (P := fun c => ∀ h' l4, FS h h' → SV h' s g → RC s h' (fun t k => if wdB s g t = true then tlN s g d b t k (40 * c) else 0) → ∃ h2, Gd mX4_countSteps 10 [.ref 60, .int (nI d), .int (nI b), .int (nI c), l4] [] h' (none, h2) ∧ FS h h2 ∧ SV h2 s g ∧ RC s h2 (fun t k => if wdB s g t = true then tlN s g d b t k (5760) else 0)) (n := 144) ?_ ?_ 0 (by omega)
    · intro h' l4 q1 q2 q3
      refine ⟨h', ?_, q1, q2, q3⟩
      refine gd_ild3 dX4_countSteps_10 ?_
      refine gd_sipush (v := nI 144) dX4_countSteps_11 (by decide) ?_
      refine gd_icmp_ge_t 62 dX4_countSteps_14 (by decide) (by exact nI_le (by omega) (by omega)) ?_
      refine gd_vret dX4_countSteps_62 rfl ?_
      rfl
    · intro c hc ih h' l4 q1 q2 q3
      obtain ⟨h3, g3, f3, r3⟩ := c_fillRow w q2 (c := c) hc hd
      have q4 : RC s h3 (fun t k => if wdB s g t = true then tlN s g d b t k (40 * c + 0) else 0) := fun t ht k hk => (congrFun (f3.1 70 (by decide) (by decide)) _).trans (q3 t ht k hk)
      obtain ⟨h2, gg, x⟩ := lp_cs1 w hc hd hb ih h3 (q1.tr f3.fs) (f3.sv q2) r3 q4
      refine ⟨h2, ?_, x⟩
      refine gd_ild3 dX4_countSteps_10 ?_
      refine gd_sipush (v := nI 144) dX4_countSteps_11 (by decide) ?_
      refine gd_icmp_ge_f 62 dX4_countSteps_14 (by decide) (by exact nI_ge (by omega) (by omega)) ?_
      refine gd_ald0 dX4_countSteps_17 (by decide) ?_
      refine gd_ild3 dX4_countSteps_18 ?_
      refine gd_ild1 dX4_countSteps_19 ?_
      refine gd_cV2v dX4_countSteps_20 ct_4_130 rc_60 ⟨Nat.le_of_ble_eq_true rfl, Nat.le_of_ble_eq_true rfl⟩ (Nat.le_of_ble_eq_true rfl) (Nat.le_of_ble_eq_true rfl) (g3) ?_
      refine gd_ic0 dX4_countSteps_23 ?_
      refine gd_ist4 dX4_countSteps_24 rfl ?_
      exact gg
  obtain ⟨h2, gg, x⟩ := key (sI h 70 (filI (h.1 70) 192 (nI 0))) .null ((FS.rf h).si (by decide) (by decide)) v (fun t ht k hk => by rw [sI_s]; exact (if_pos (show t * 12 + k < 192 by omega)).trans (congrArg nI (by show 0 = if _ then 0 else 0; split <;> rfl)))
  refine ⟨h2, ?_, x⟩
  refine gd_ald0 dX4_countSteps_0 (by decide) ?_
  refine gd_getR (r := 70) dX4_countSteps_1 fl_4_40 rfl rfl rfl (by decide) ?_
  refine gd_ic0 dX4_countSteps_4 ?_
  refine gd_cS2v dX4_countSteps_5 ct_4_82 ⟨Nat.le_of_ble_eq_true rfl, Nat.le_of_ble_eq_true rfl⟩ (Nat.le_of_ble_eq_true rfl) (Nat.le_of_ble_eq_true rfl) (c_fill70 _ _) ?_
  refine gd_ic0 dX4_countSteps_8 ?_
  refine gd_ist3 dX4_countSteps_9 rfl ?_
  exact gg
theorem c_most {h : Hp} {s : Nat → Nat → Int32} (w : WF s) {t : Nat} (ht : t < nT s) {L : Nat → Nat → Nat} (hL : ∀ k, L t k ≤ 5760) (r : RC s h L) : Gd mX4_mostOfOneStep 0 [.ref 60, .int (nI t), .null, .null] [] h (some (.int (nI (mxN (L t) 12))), h) := by
  have lT := w.t.2
  have key := loopG (P := fun k => Gd mX4_mostOfOneStep 4 [.ref 60, .int (nI t), .int (nI (mxN (L t) k)), .int (nI k)] [] h (some (.int (nI (mxN (L t) 12))), h)) (n := 12) ?_ ?_ 0 (by omega)
  · refine gd_ic0 dX4_mostOfOneStep_0 ?_
    refine gd_ist2 dX4_mostOfOneStep_1 rfl ?_
    refine gd_ic0 dX4_mostOfOneStep_2 ?_
    refine gd_ist3 dX4_mostOfOneStep_3 rfl ?_
    exact key
  · refine gd_ild3 dX4_mostOfOneStep_4 ?_
    refine gd_bipush (v := nI 12) dX4_mostOfOneStep_5 (by decide) ?_
    refine gd_icmp_ge_t 32 dX4_mostOfOneStep_7 (by decide) (by exact nI_le (by omega) (by omega)) ?_
    refine gd_ild2 dX4_mostOfOneStep_32 ?_
    refine gd_iret dX4_mostOfOneStep_33 rfl rfl ?_
    rfl
  · intro k hk ih
    have l1 := mx_le hL k
    have l2 := hL k
    refine gd_ild3 dX4_mostOfOneStep_4 ?_
    refine gd_bipush (v := nI 12) dX4_mostOfOneStep_5 (by decide) ?_
    refine gd_icmp_ge_f 32 dX4_mostOfOneStep_7 (by decide) (by exact nI_ge (by omega) (by omega)) ?_
    refine gd_ild2 dX4_mostOfOneStep_10 ?_
    refine gd_ald0 dX4_mostOfOneStep_11 (by decide) ?_
    refine gd_getR (r := 70) dX4_mostOfOneStep_12 fl_4_40 rfl rfl rfl (by decide) ?_
    refine gd_ild1 dX4_mostOfOneStep_15 ?_
    refine gd_bipush (v := nI 12) dX4_mostOfOneStep_16 (by decide) ?_
    refine gd_imul dX4_mostOfOneStep_18 ?_
    refine gd_ild3 dX4_mostOfOneStep_19 ?_
    refine gd_iadd dX4_mostOfOneStep_20 ?_
    refine gd_iald (n := 192) dX4_mostOfOneStep_21 rfl (by decide) (by repeat' (first | with_reducible rfl | apply ni_add | apply ni_mul)) (by omega) ?_
    rw [r t ht k hk]
    refine gd_mmax dX4_mostOfOneStep_22 mm_4_63 (Nat.le_of_ble_eq_true rfl) (Nat.le_of_ble_eq_true rfl) (Nat.le_of_ble_eq_true rfl) ?_
    rw [mxx (by omega) (by omega)]
    refine gd_ist2 dX4_mostOfOneStep_25 rfl ?_
    refine gd_iinc3 (b := nI 1) dX4_mostOfOneStep_26 (by decide) rfl ?_
    rw [nI_add]
    refine gd_goto 4 dX4_mostOfOneStep_29 (by decide) ?_
    exact ih
theorem c_townToAsk {h : Hp} {s : Nat → Nat → Int32} (w : WF s) {g : Int32} (v : SV h s g) {d : Nat} (hd : d < 4) : ∃ h4, Gd mX4_townToAsk 0 [.ref 60, .int (nI d), .null, .null, .null, .null] [] h (some (.int (akI (nxN (wdB s g) (fun t => mxN (fun k => tlN s g d ((mfN s g d) (amN (mfN s g d) 5760)) t k 5760) 12) (nT s)))), h4) ∧ FS h h4 := by
  have lT := w.t.2
  obtain ⟨h2, g2, f2, v2⟩ := c_bestShake w v hd
  have al := am_lt (mfN s g d) 5760 (by decide)
  have cs := cd_sh (d := d) (i := amN (mfN s g d) 5760) hd al
  have gm := c_missOf w v2 cs.1
  rw [cs.2.1, cs.2.2.1, cs.2.2.2] at gm
  have gm : Gd mX4_missOf 0 [.ref 60, .int (nI (cdN d (amN (mfN s g d) 5760))), .null, .null] [] h2 (some (.int (nI ((mfN s g d) (amN (mfN s g d) 5760)))), h2) := gm
  obtain ⟨h4, g4, f4, v4, r4⟩ := c_countSteps w v2 (d := d) (b := ((mfN s g d) (amN (mfN s g d) 5760))) hd (ms_le w g _ _ _)
  refine ⟨h4, ?_, f2.tr f4⟩
  have tl : ∀ t k, tlN s g d ((mfN s g d) (amN (mfN s g d) 5760)) t k 5760 ≤ 5760 := fun t k => tl_le s g d _ t k 5760
  have ml : ∀ t, (fun t => mxN (fun k => tlN s g d ((mfN s g d) (amN (mfN s g d) 5760)) t k 5760) 12) t ≤ 5760 := fun t => mx_le (tl t) 12
  have key := loopG (P := fun t => ∀ l5, Gd mX4_townToAsk 22 [.ref 60, .int (nI d), .int (akI (nxN (wdB s g) (fun t => mxN (fun k => tlN s g d ((mfN s g d) (amN (mfN s g d) 5760)) t k 5760) 12) t)), .int (fwI 1000000 (nxN (wdB s g) (fun t => mxN (fun k => tlN s g d ((mfN s g d) (amN (mfN s g d) 5760)) t k 5760) 12) t)), .int (nI t), l5] [] h4 (some (.int (akI (nxN (wdB s g) (fun t => mxN (fun k => tlN s g d ((mfN s g d) (amN (mfN s g d) 5760)) t k 5760) 12) (nT s)))), h4)) (n := nT s) ?_ ?_ 0 (by omega)
  · refine gd_ald0 dX4_townToAsk_0 (by decide) ?_
    refine gd_ild1 dX4_townToAsk_1 ?_
    refine gd_ald0 dX4_townToAsk_2 (by decide) ?_
    refine gd_ald0 dX4_townToAsk_3 (by decide) ?_
    refine gd_ild1 dX4_townToAsk_4 ?_
    refine gd_cV1i dX4_townToAsk_5 ct_4_141 rc_60 ⟨Nat.le_of_ble_eq_true rfl, Nat.le_of_ble_eq_true rfl⟩ (Nat.le_of_ble_eq_true rfl) (Nat.le_of_ble_eq_true rfl) (g2) ?_
    refine gd_cV1i dX4_townToAsk_8 ct_4_144 rc_60 ⟨Nat.le_of_ble_eq_true rfl, Nat.le_of_ble_eq_true rfl⟩ (Nat.le_of_ble_eq_true rfl) (Nat.le_of_ble_eq_true rfl) (gm) ?_
    refine gd_cV2v dX4_townToAsk_11 ct_4_147 rc_60 ⟨Nat.le_of_ble_eq_true rfl, Nat.le_of_ble_eq_true rfl⟩ (Nat.le_of_ble_eq_true rfl) (Nat.le_of_ble_eq_true rfl) (g4) ?_
    refine gd_icm1 dX4_townToAsk_14 ?_
    refine gd_ist2 dX4_townToAsk_15 rfl ?_
    refine gd_ldc dX4_townToAsk_16 ld_4_122 ?_
    refine gd_ist3 dX4_townToAsk_18 rfl ?_
    refine gd_ic0 dX4_townToAsk_19 ?_
    refine gd_ist4 dX4_townToAsk_20 rfl ?_
    exact key _
  · intro l5
    refine gd_ild4 dX4_townToAsk_22 ?_
    refine gd_ald0 dX4_townToAsk_24 (by decide) ?_
    refine gd_getI dX4_townToAsk_25 fl_4_43 rfl rfl ?_
    refine gd_icmp_ge_t 66 dX4_townToAsk_28 (by decide) (by rw [v4.1.1]; exact nI_le (by omega) (by omega)) ?_
    refine gd_ild2 dX4_townToAsk_66 ?_
    refine gd_iret dX4_townToAsk_67 rfl rfl ?_
    rfl
  · intro t ht ih l5
    have nl := nx_le (wd := wdB s g) ml t
    have mt := ml t
    have lL : ∀ k, (fun t k => if wdB s g t = true then tlN s g d ((mfN s g d) (amN (mfN s g d) 5760)) t k (5760) else 0) t k ≤ 5760 := fun k => by have := tl t k; show (if _ then _ else 0) ≤ _; split <;> omega
    cases hw : wdB s g t with
    | false =>
      rw [show (nxN (wdB s g) (fun t => mxN (fun k => tlN s g d ((mfN s g d) (amN (mfN s g d) 5760)) t k 5760) 12) (t + 1)) = (nxN (wdB s g) (fun t => mxN (fun k => tlN s g d ((mfN s g d) (amN (mfN s g d) 5760)) t k 5760) 12) t) from if_neg (fun y => absurd y.1 (by rw [hw]; decide))] at ih
      refine gd_ild4 dX4_townToAsk_22 ?_
      refine gd_ald0 dX4_townToAsk_24 (by decide) ?_
      refine gd_getI dX4_townToAsk_25 fl_4_43 rfl rfl ?_
      refine gd_icmp_ge_f 66 dX4_townToAsk_28 (by decide) (by rw [v4.1.1]; exact nI_ge (by omega) (by omega)) ?_
      refine gd_ald0 dX4_townToAsk_31 (by decide) ?_
      refine gd_ild4 dX4_townToAsk_32 ?_
      refine gd_cV1i dX4_townToAsk_34 ct_4_150 rc_60 ⟨Nat.le_of_ble_eq_true rfl, Nat.le_of_ble_eq_true rfl⟩ (Nat.le_of_ble_eq_true rfl) (Nat.le_of_ble_eq_true rfl) (c_most w ht lL r4) ?_
      refine gd_ist5 dX4_townToAsk_37 rfl ?_
      refine gd_ald0 dX4_townToAsk_39 (by decide) ?_
      refine gd_ild4 dX4_townToAsk_40 ?_
      refine gd_cV1i dX4_townToAsk_42 ct_4_153 rc_60 ⟨Nat.le_of_ble_eq_true rfl, Nat.le_of_ble_eq_true rfl⟩ (Nat.le_of_ble_eq_true rfl) (Nat.le_of_ble_eq_true rfl) (c_isWide w v4 ht) ?_
      refine gd_if_eq_t 60 dX4_townToAsk_45 (by decide) (by rw [hw]; decide) ?_
      refine gd_iinc4 (b := nI 1) dX4_townToAsk_60 (by decide) rfl ?_
      rw [nI_add]
      refine gd_goto 22 dX4_townToAsk_63 (by decide) ?_
      exact ih _
    | true =>
      have eL : mxN ((fun t k => if wdB s g t = true then tlN s g d ((mfN s g d) (amN (mfN s g d) 5760)) t k (5760) else 0) t) 12 = (fun t => mxN (fun k => tlN s g d ((mfN s g d) (amN (mfN s g d) 5760)) t k 5760) 12) t := by
        have : (fun t k => if wdB s g t = true then tlN s g d ((mfN s g d) (amN (mfN s g d) 5760)) t k (5760) else 0) t = fun k => tlN s g d ((mfN s g d) (amN (mfN s g d) 5760)) t k 5760 := funext (fun k => if_pos hw)
        rw [this]
      by_cases y : ((nxN (wdB s g) (fun t => mxN (fun k => tlN s g d ((mfN s g d) (amN (mfN s g d) 5760)) t k 5760) 12) t)).1 = 0 ∨ (fun t => mxN (fun k => tlN s g d ((mfN s g d) (amN (mfN s g d) 5760)) t k 5760) 12) t < ((nxN (wdB s g) (fun t => mxN (fun k => tlN s g d ((mfN s g d) (amN (mfN s g d) 5760)) t k 5760) 12) t)).2
      · rw [show (nxN (wdB s g) (fun t => mxN (fun k => tlN s g d ((mfN s g d) (amN (mfN s g d) 5760)) t k 5760) 12) (t + 1)) = (t + 1, (fun t => mxN (fun k => tlN s g d ((mfN s g d) (amN (mfN s g d) 5760)) t k 5760) 12) t) from if_pos ⟨hw, y⟩] at ih
        have c51 : ¬ fwI 1000000 (nxN (wdB s g) (fun t => mxN (fun k => tlN s g d ((mfN s g d) (amN (mfN s g d) 5760)) t k 5760) 12) t) ≤ nI (mxN ((fun t k => if wdB s g t = true then tlN s g d ((mfN s g d) (amN (mfN s g d) 5760)) t k (5760) else 0) t) 12) := by
          rw [eL]
          unfold fwI
          by_cases e : ((nxN (wdB s g) (fun t => mxN (fun k => tlN s g d ((mfN s g d) (amN (mfN s g d) 5760)) t k 5760) 12) t)).1 = 0
          · rw [if_pos e]; exact nI_ge (b := 1000000) (by omega) (by decide)
          · rw [if_neg e]; exact nI_ge (by omega) (by omega)
        refine gd_ild4 dX4_townToAsk_22 ?_
        refine gd_ald0 dX4_townToAsk_24 (by decide) ?_
        refine gd_getI dX4_townToAsk_25 fl_4_43 rfl rfl ?_
        refine gd_icmp_ge_f 66 dX4_townToAsk_28 (by decide) (by rw [v4.1.1]; exact nI_ge (by omega) (by omega)) ?_
        refine gd_ald0 dX4_townToAsk_31 (by decide) ?_
        refine gd_ild4 dX4_townToAsk_32 ?_
        refine gd_cV1i dX4_townToAsk_34 ct_4_150 rc_60 ⟨Nat.le_of_ble_eq_true rfl, Nat.le_of_ble_eq_true rfl⟩ (Nat.le_of_ble_eq_true rfl) (Nat.le_of_ble_eq_true rfl) (c_most w ht lL r4) ?_
        refine gd_ist5 dX4_townToAsk_37 rfl ?_
        refine gd_ald0 dX4_townToAsk_39 (by decide) ?_
        refine gd_ild4 dX4_townToAsk_40 ?_
        refine gd_cV1i dX4_townToAsk_42 ct_4_153 rc_60 ⟨Nat.le_of_ble_eq_true rfl, Nat.le_of_ble_eq_true rfl⟩ (Nat.le_of_ble_eq_true rfl) (Nat.le_of_ble_eq_true rfl) (c_isWide w v4 ht) ?_
        refine gd_if_eq_f 60 dX4_townToAsk_45 (by decide) (by rw [hw]; decide) ?_
        refine gd_ild5 dX4_townToAsk_48 ?_
        refine gd_ild3 dX4_townToAsk_50 ?_
        refine gd_icmp_ge_f 60 dX4_townToAsk_51 (by decide) (c51) ?_
        refine gd_ild5 dX4_townToAsk_54 ?_
        refine gd_ist3 dX4_townToAsk_56 rfl ?_
        refine gd_ild4 dX4_townToAsk_57 ?_
        refine gd_ist2 dX4_townToAsk_59 rfl ?_
        refine gd_iinc4 (b := nI 1) dX4_townToAsk_60 (by decide) rfl ?_
        rw [nI_add]
        refine gd_goto 22 dX4_townToAsk_63 (by decide) ?_
        rw [eL]
        exact ih _
      · rw [show (nxN (wdB s g) (fun t => mxN (fun k => tlN s g d ((mfN s g d) (amN (mfN s g d) 5760)) t k 5760) 12) (t + 1)) = (nxN (wdB s g) (fun t => mxN (fun k => tlN s g d ((mfN s g d) (amN (mfN s g d) 5760)) t k 5760) 12) t) from if_neg (fun z => y z.2)] at ih
        have c51 : fwI 1000000 (nxN (wdB s g) (fun t => mxN (fun k => tlN s g d ((mfN s g d) (amN (mfN s g d) 5760)) t k 5760) 12) t) ≤ nI (mxN ((fun t k => if wdB s g t = true then tlN s g d ((mfN s g d) (amN (mfN s g d) 5760)) t k (5760) else 0) t) 12) := by
          rw [eL]
          unfold fwI
          rw [if_neg (by omega)]
          exact nI_le (by omega) (by omega)
        refine gd_ild4 dX4_townToAsk_22 ?_
        refine gd_ald0 dX4_townToAsk_24 (by decide) ?_
        refine gd_getI dX4_townToAsk_25 fl_4_43 rfl rfl ?_
        refine gd_icmp_ge_f 66 dX4_townToAsk_28 (by decide) (by rw [v4.1.1]; exact nI_ge (by omega) (by omega)) ?_
        refine gd_ald0 dX4_townToAsk_31 (by decide) ?_
        refine gd_ild4 dX4_townToAsk_32 ?_
        refine gd_cV1i dX4_townToAsk_34 ct_4_150 rc_60 ⟨Nat.le_of_ble_eq_true rfl, Nat.le_of_ble_eq_true rfl⟩ (Nat.le_of_ble_eq_true rfl) (Nat.le_of_ble_eq_true rfl) (c_most w ht lL r4) ?_
        refine gd_ist5 dX4_townToAsk_37 rfl ?_
        refine gd_ald0 dX4_townToAsk_39 (by decide) ?_
        refine gd_ild4 dX4_townToAsk_40 ?_
        refine gd_cV1i dX4_townToAsk_42 ct_4_153 rc_60 ⟨Nat.le_of_ble_eq_true rfl, Nat.le_of_ble_eq_true rfl⟩ (Nat.le_of_ble_eq_true rfl) (Nat.le_of_ble_eq_true rfl) (c_isWide w v4 ht) ?_
        refine gd_if_eq_f 60 dX4_townToAsk_45 (by decide) (by rw [hw]; decide) ?_
        refine gd_ild5 dX4_townToAsk_48 ?_
        refine gd_ild3 dX4_townToAsk_50 ?_
        refine gd_icmp_ge_t 60 dX4_townToAsk_51 (by decide) (c51) ?_
        refine gd_iinc4 (b := nI 1) dX4_townToAsk_60 (by decide) rfl ?_
        rw [nI_add]
        refine gd_goto 22 dX4_townToAsk_63 (by decide) ?_
        exact ih _
