
/-! ===== evening ===== -/
def orN (p : Nat → Bool) : Nat → Bool
  | 0 => false
  | n + 1 => orN p n || p n
theorem orN_iff {p : Nat → Bool} {n : Nat} : orN p n = true ↔ ∃ k, k < n ∧ p k = true := by
  induction n with
  | zero => exact ⟨fun h => absurd (show false = true from h) (by decide), fun ⟨k, hk, _⟩ => absurd hk (by omega)⟩
  | succ n ih =>
    show (orN p n || p n) = true ↔ _
    rw [Bool.or_eq_true, ih]
    constructor
    · rintro (⟨k, a, b⟩ | b)
      · exact ⟨k, by omega, b⟩
      · exact ⟨n, by omega, b⟩
    · rintro ⟨k, a, b⟩
      by_cases e : k = n
      · rw [e] at b; exact Or.inr b
      · exact Or.inl ⟨k, by omega, b⟩
theorem bEq {a b : Bool} (h : a = true ↔ b = true) : a = b := by
  cases a <;> cases b <;> simp at h ⊢
def dyB (s : Nat → Nat → Int32) (l : Nat) (v : Int32) : Bool := orN (fun q => cnB s l q && decide (v = s 4 (9 * l + 3) + lawV s q)) 4
theorem dyB_iff {s : Nat → Nat → Int32} {l : Nat} {v : Int32} : dyB s l v = true ↔ ∃ q, q < 4 ∧ cnB s l q = true ∧ v = s 4 (9 * l + 3) + lawV s q := by
  unfold dyB
  rw [orN_iff]
  constructor
  · rintro ⟨k, a, b⟩
    have b : (cnB s l k && decide (v = s 4 (9 * l + 3) + lawV s k)) = true := b
    rw [Bool.and_eq_true, decide_eq_true_iff] at b
    exact ⟨k, a, b⟩
  · rintro ⟨k, a, b, c⟩
    exact ⟨k, a, by show (cnB s l k && decide (v = s 4 (9 * l + 3) + lawV s k)) = true; rw [b, decide_eq_true c]; rfl⟩
theorem mem_fD (s : Nat → Nat → Int32) (l : Nat) (f : Nat → Int32) (v : Int32) : mem (fD s l f 4).1 (fD s l f 4).2 v = dyB s l v :=
  bEq (by rw [mem_iff (fD_srt s l f 4), fD_mem, dyB_iff])
def ev (s : Nat → Nat → Int32) (l k r : Nat) : Bool := cnB s k r && dyB s l (s 4 (9 * k + 3) + lawV s r)
def ev1 (s : Nat → Nat → Int32) (l r k : Nat) : Bool := orN (ev s l k) r
def ev2 (s : Nat → Nat → Int32) (l r o k : Nat) : Bool := orN (ev s l k) r || (decide (k < o) && ev s l k r)
def evS (s : Nat → Nat → Int32) (l o k : Nat) : Bool := decide (k < o) && (cB s (-1) (nN s) k && ev1 s l 4 k)
theorem bset_and (p q : Nat → Bool) (n : Nat) : bset p n &&& bset q n = bset (fun k => p k && q k) n := by
  apply Nat.eq_of_testBit_eq
  intro j
  rw [Nat.testBit_and, bset_bit, bset_bit, bset_bit]
  cases decide (j < n) <;> cases p j <;> cases q j <;> rfl
theorem or_z (x : Int32) : x ||| nI 0 = x := by
  show x ||| (0 : Int32) = x
  simp

theorem bset_z {p : Nat → Bool} {n : Nat} (h : ∀ k, p k = false) : bset p n = 0 := by
  induction n with
  | zero => rfl
  | succ n ih => rw [bset_no (h n), ih]

theorem ev2_o {s : Nat → Nat → Int32} {l r k z : Nat} (h : z ≠ k) : ev2 s l r (k + 1) z = ev2 s l r k z := by
  unfold ev2
  rw [show decide (z < k + 1) = decide (z < k) from decide_eq_decide.mpr (by omega)]
theorem ev2_n {s : Nat → Nat → Int32} {l r k z : Nat} (h : ev s l k r = false) : ev2 s l r (k + 1) z = ev2 s l r k z := by
  by_cases e : z = k
  · unfold ev2; rw [e, h, Bool.and_false, Bool.and_false]
  · exact ev2_o e
theorem ev2_0 {s : Nat → Nat → Int32} {l r z : Nat} : ev2 s l r 0 z = ev1 s l r z := by
  unfold ev2 ev1
  rw [decide_eq_false (by omega), Bool.false_and, Bool.or_false]
theorem ev2_e {s : Nat → Nat → Int32} {l r n z : Nat} (h : z < n) : ev2 s l r n z = ev1 s l (r + 1) z := by
  unfold ev2
  rw [decide_eq_true h]; rfl
theorem c_hasDay {h : Hp} {n : Nat} {v : Int32} (hn : n ≤ 4) (s : srt (h.1 25) n) : Gd mX7_hasDay 0 [.ref 1, .int (nI n), .int v, .null] [] h (some (.int (bi (mem (h.1 25) n v))), h) := by
  cases m : mem (h.1 25) n v
  · have key := loopG (P := fun j => Gd mX7_hasDay 2 [.ref 1, .int (nI n), .int v, .int (nI j)] [] h (some (.int (nI 0)), h)) (n := n) ?_ ?_ 0 (by omega)
    · refine gd_ic0 dX7_hasDay_0 ?_
      refine gd_ist3 dX7_hasDay_1 rfl ?_
      exact key
    · refine gd_ild3 dX7_hasDay_2 ?_
      refine gd_ild1 dX7_hasDay_3 ?_
      refine gd_icmp_ge_t 25 dX7_hasDay_4 (by decide) (by exact nI_le (by omega) (by omega)) ?_
      refine gd_ic0 dX7_hasDay_25 ?_
      refine gd_iret dX7_hasDay_26 rfl (by first | rfl | decide | exact nar_bi _ | assumption) ?_
      rfl
    · intro j hj ih
      have ne : ¬ h.1 25 j = v := fun e => by rw [(mem_iff s).mpr ⟨j, hj, e⟩] at m; exact absurd m (by decide)
      refine gd_ild3 dX7_hasDay_2 ?_
      refine gd_ild1 dX7_hasDay_3 ?_
      refine gd_icmp_ge_f 25 dX7_hasDay_4 (by decide) (by exact nI_ge (by omega) (by omega)) ?_
      refine gd_ald0 dX7_hasDay_7 (by decide) ?_
      refine gd_getR (r := 25) dX7_hasDay_8 fl_7_39 rfl rfl rfl (by decide) ?_
      refine gd_ild3 dX7_hasDay_11 ?_
      refine gd_iald (n := 4) dX7_hasDay_12 rfl (by decide) (by repeat' (first | with_reducible rfl | apply ni_add | apply ni_mul)) (by omega) ?_
      refine gd_ild2 dX7_hasDay_13 ?_
      refine gd_icmp_ne_t 19 dX7_hasDay_14 (by decide) (ne) ?_
      refine gd_iinc3 (b := nI 1) dX7_hasDay_19 (by decide) rfl ?_
      rw [nI_add]
      refine gd_goto 2 dX7_hasDay_22 (by decide) ?_
      exact ih
  · have m : psN (h.1 25) n v < n ∧ h.1 25 (psN (h.1 25) n v) = v := of_decide_eq_true m
    have b := (psN_ok (v := v) s).2.1
    generalize psN (h.1 25) n v = p at m b
    have key := loopG (P := fun j => Gd mX7_hasDay 2 [.ref 1, .int (nI n), .int v, .int (nI j)] [] h (some (.int (nI 1)), h)) (n := p) ?_ ?_ 0 (by omega)
    · refine gd_ic0 dX7_hasDay_0 ?_
      refine gd_ist3 dX7_hasDay_1 rfl ?_
      exact key
    · refine gd_ild3 dX7_hasDay_2 ?_
      refine gd_ild1 dX7_hasDay_3 ?_
      refine gd_icmp_ge_f 25 dX7_hasDay_4 (by decide) (by exact nI_ge (by omega) (by omega)) ?_
      refine gd_ald0 dX7_hasDay_7 (by decide) ?_
      refine gd_getR (r := 25) dX7_hasDay_8 fl_7_39 rfl rfl rfl (by decide) ?_
      refine gd_ild3 dX7_hasDay_11 ?_
      refine gd_iald (n := 4) dX7_hasDay_12 rfl (by decide) (by repeat' (first | with_reducible rfl | apply ni_add | apply ni_mul)) (by omega) ?_
      refine gd_ild2 dX7_hasDay_13 ?_
      refine gd_icmp_ne_f 19 dX7_hasDay_14 (by decide) (m.2) ?_
      refine gd_ic1 dX7_hasDay_17 ?_
      refine gd_iret dX7_hasDay_18 rfl (by first | rfl | decide | exact nar_bi _ | assumption) ?_
      rfl
    · intro j hj ih
      refine gd_ild3 dX7_hasDay_2 ?_
      refine gd_ild1 dX7_hasDay_3 ?_
      refine gd_icmp_ge_f 25 dX7_hasDay_4 (by decide) (by exact nI_ge (by omega) (by omega)) ?_
      refine gd_ald0 dX7_hasDay_7 (by decide) ?_
      refine gd_getR (r := 25) dX7_hasDay_8 fl_7_39 rfl rfl rfl (by decide) ?_
      refine gd_ild3 dX7_hasDay_11 ?_
      refine gd_iald (n := 4) dX7_hasDay_12 rfl (by decide) (by repeat' (first | with_reducible rfl | apply ni_add | apply ni_mul)) (by omega) ?_
      refine gd_ild2 dX7_hasDay_13 ?_
      refine gd_icmp_ne_t 19 dX7_hasDay_14 (by decide) (i_ne (b j hj)) ?_
      refine gd_iinc3 (b := nI 1) dX7_hasDay_19 (by decide) rfl ?_
      rw [nI_add]
      refine gd_goto 2 dX7_hasDay_22 (by decide) ?_
      exact ih
theorem c_sameDaySet {h : Hp} (i : Inv h) {l : Nat} (hl : l < nN (ms h)) : Gd mX7_sameDaySet 0 [.ref 1, .int (nI l), .null, .null, .null, .null, .null, .null] [] h (some (.int (nI (bset (evS (ms h) l (nN (ms h))) (nN (ms h))))), sI h 25 (fD (ms h) l (h.1 25) 4).1) := by
  have lN := i.lN
  have le := fD_le (ms h) l (h.1 25) 4
  have c1 : CR (sI h 25 (fD (ms h) l (h.1 25) 4).1) 1 (ms h) := CR.same (fun j h1 h2 => sI_n (by omega)) i.c
  have key := loopG (P := fun r => ∀ l6 l7, Gd mX7_sameDaySet 18 [.ref 1, .int (nI l), .int (nI (cS (ms h) (-1))), .int (nI (fD (ms h) l (h.1 25) 4).2), .int (nI (bset (ev1 (ms h) l r) (nN (ms h)))), .int (nI r), l6, l7] [] (sI h 25 (fD (ms h) l (h.1 25) 4).1) (some (.int (nI (bset (evS (ms h) l (nN (ms h))) (nN (ms h))))), sI h 25 (fD (ms h) l (h.1 25) 4).1)) (n := 4) ?_ ?_ 0 (by omega)
  · rw [show bset (ev1 (ms h) l 0) (nN (ms h)) = 0 from bset_z (fun _ => rfl)] at key
    refine gd_ald0 dX7_sameDaySet_0 (by decide) ?_
    refine gd_icm1 dX7_sameDaySet_1 ?_
    refine gd_cV1i dX7_sameDaySet_2 ct_7_111 rc_1 ⟨Nat.le_of_ble_eq_true rfl, Nat.le_of_ble_eq_true rfl⟩ (Nat.le_of_ble_eq_true rfl) (Nat.le_of_ble_eq_true rfl) (c_counting i.w i.c _) ?_
    refine gd_ist2 dX7_sameDaySet_5 rfl ?_
    refine gd_ald0 dX7_sameDaySet_6 (by decide) ?_
    refine gd_ild1 dX7_sameDaySet_7 ?_
    refine gd_cV1i dX7_sameDaySet_8 ct_7_113 rc_1 ⟨Nat.le_of_ble_eq_true rfl, Nat.le_of_ble_eq_true rfl⟩ (Nat.le_of_ble_eq_true rfl) (Nat.le_of_ble_eq_true rfl) (c_fillDays i.w i.c hl) ?_
    refine gd_ist3 dX7_sameDaySet_11 rfl ?_
    refine gd_ic0 dX7_sameDaySet_12 ?_
    refine gd_ist4 dX7_sameDaySet_13 rfl ?_
    refine gd_ic0 dX7_sameDaySet_15 ?_
    refine gd_ist5 dX7_sameDaySet_16 rfl ?_
    exact key _ _
  · intro l6 l7
    refine gd_ild5 dX7_sameDaySet_18 ?_
    refine gd_ic4 dX7_sameDaySet_20 ?_
    refine gd_icmp_ge_t 100 dX7_sameDaySet_21 (by decide) (by exact nI_le (by omega) (by omega)) ?_
    refine gd_ild4 dX7_sameDaySet_100 ?_
    refine gd_ild2 dX7_sameDaySet_102 ?_
    refine gd_iand dX7_sameDaySet_103 ?_
    refine gd_iret dX7_sameDaySet_104 rfl rfl ?_
    rw [and_nI, show cS (ms h) (-1) = bset (cB (ms h) (-1) (nN (ms h))) (nN (ms h)) from rfl, bset_and]
    rw [bset_congr (fun k hk => (show (ev1 (ms h) l 4 k && cB (ms h) (-1) (nN (ms h)) k) = evS (ms h) l (nN (ms h)) k by unfold evS; rw [decide_eq_true hk, Bool.true_and, Bool.and_comm]))]
  · intro r hr ih l6 l7
    have ik := loopG (P := fun k => Gd mX7_sameDaySet 35 [.ref 1, .int (nI l), .int (nI (cS (ms h) (-1))), .int (nI (fD (ms h) l (h.1 25) 4).2), .int (nI (bset (ev2 (ms h) l r k) (nN (ms h)))), .int (nI r), .int (lawV (ms h) r), .int (nI k)] [] (sI h 25 (fD (ms h) l (h.1 25) 4).1) (some (.int (nI (bset (evS (ms h) l (nN (ms h))) (nN (ms h))))), sI h 25 (fD (ms h) l (h.1 25) 4).1)) (n := nN (ms h)) ?_ ?_ 0 (by omega)
    · rw [bset_congr (p := ev2 (ms h) l r 0) (q := ev1 (ms h) l r) (fun z _ => ev2_0)] at ik
      refine gd_ild5 dX7_sameDaySet_18 ?_
      refine gd_ic4 dX7_sameDaySet_20 ?_
      refine gd_icmp_ge_f 100 dX7_sameDaySet_21 (by decide) (by exact nI_ge (by omega) (by omega)) ?_
      refine gd_ald0 dX7_sameDaySet_24 (by decide) ?_
      refine gd_ild5 dX7_sameDaySet_25 ?_
      refine gd_cV1i dX7_sameDaySet_27 ct_7_102 rc_1 ⟨Nat.le_of_ble_eq_true rfl, Nat.le_of_ble_eq_true rfl⟩ (Nat.le_of_ble_eq_true rfl) (Nat.le_of_ble_eq_true rfl) (c_lawOf i.w c1 (by omega)) ?_
      refine gd_ist6 dX7_sameDaySet_30 rfl ?_
      refine gd_ic0 dX7_sameDaySet_32 ?_
      refine gd_ist7 dX7_sameDaySet_33 rfl ?_
      exact ik
    · rw [bset_congr (p := ev2 (ms h) l r (nN (ms h))) (q := ev1 (ms h) l (r + 1)) (fun z hz => ev2_e hz)]
      refine gd_ild7 dX7_sameDaySet_35 ?_
      refine gd_ald0 dX7_sameDaySet_37 (by decide) ?_
      refine gd_getR (r := 6) dX7_sameDaySet_38 fl_7_21 rfl rfl rfl (by decide) ?_
      refine gd_getI dX7_sameDaySet_41 fl_7_116 rfl rfl ?_
      refine gd_icmp_ge_t 94 dX7_sameDaySet_44 (by decide) (by rw [show (sI h 25 (fD (ms h) l (h.1 25) 4).1).1 6 9 = _ from i.cN]; exact nI_le (by omega) (by omega)) ?_
      refine gd_iinc5 (b := nI 1) dX7_sameDaySet_94 (by decide) rfl ?_
      rw [nI_add]
      refine gd_goto 18 dX7_sameDaySet_97 (by decide) ?_
      exact ih _ _
    · intro k hk ih
      cases hb : cnB (ms h) k r
      · have he : ev (ms h) l k r = false := by unfold ev; rw [hb]; rfl
        rw [bset_congr (p := ev2 (ms h) l r (k + 1)) (q := ev2 (ms h) l r k) (fun z hz => ev2_n he)] at ih
        refine gd_ild7 dX7_sameDaySet_35 ?_
        refine gd_ald0 dX7_sameDaySet_37 (by decide) ?_
        refine gd_getR (r := 6) dX7_sameDaySet_38 fl_7_21 rfl rfl rfl (by decide) ?_
        refine gd_getI dX7_sameDaySet_41 fl_7_116 rfl rfl ?_
        refine gd_icmp_ge_f 94 dX7_sameDaySet_44 (by decide) (by rw [show (sI h 25 (fD (ms h) l (h.1 25) 4).1).1 6 9 = _ from i.cN]; exact nI_ge (by omega) (by omega)) ?_
        refine gd_ald0 dX7_sameDaySet_47 (by decide) ?_
        refine gd_ild7 dX7_sameDaySet_48 ?_
        refine gd_ild5 dX7_sameDaySet_50 ?_
        refine gd_cV2i dX7_sameDaySet_52 ct_7_96 rc_1 ⟨Nat.le_of_ble_eq_true rfl, Nat.le_of_ble_eq_true rfl⟩ (Nat.le_of_ble_eq_true rfl) (Nat.le_of_ble_eq_true rfl) (c_canBeBy i.w c1 hk hr) ?_
        rw [hb]
        refine gd_if_eq_t 88 dX7_sameDaySet_55 (by decide) (by decide) ?_
        refine gd_iinc7 (b := nI 1) dX7_sameDaySet_88 (by decide) rfl ?_
        rw [nI_add]
        refine gd_goto 35 dX7_sameDaySet_91 (by decide) ?_
        exact ih
      · cases hd : dyB (ms h) l (ms h 4 (9 * k + 3) + lawV (ms h) r)
        · have he : ev (ms h) l k r = false := by unfold ev; rw [hb, hd]; rfl
          rw [bset_congr (p := ev2 (ms h) l r (k + 1)) (q := ev2 (ms h) l r k) (fun z hz => ev2_n he)] at ih
          refine gd_ild7 dX7_sameDaySet_35 ?_
          refine gd_ald0 dX7_sameDaySet_37 (by decide) ?_
          refine gd_getR (r := 6) dX7_sameDaySet_38 fl_7_21 rfl rfl rfl (by decide) ?_
          refine gd_getI dX7_sameDaySet_41 fl_7_116 rfl rfl ?_
          refine gd_icmp_ge_f 94 dX7_sameDaySet_44 (by decide) (by rw [show (sI h 25 (fD (ms h) l (h.1 25) 4).1).1 6 9 = _ from i.cN]; exact nI_ge (by omega) (by omega)) ?_
          refine gd_ald0 dX7_sameDaySet_47 (by decide) ?_
          refine gd_ild7 dX7_sameDaySet_48 ?_
          refine gd_ild5 dX7_sameDaySet_50 ?_
          refine gd_cV2i dX7_sameDaySet_52 ct_7_96 rc_1 ⟨Nat.le_of_ble_eq_true rfl, Nat.le_of_ble_eq_true rfl⟩ (Nat.le_of_ble_eq_true rfl) (Nat.le_of_ble_eq_true rfl) (c_canBeBy i.w c1 hk hr) ?_
          rw [hb]
          refine gd_if_eq_f 88 dX7_sameDaySet_55 (by decide) (by decide) ?_
          refine gd_ald0 dX7_sameDaySet_58 (by decide) ?_
          refine gd_ild3 dX7_sameDaySet_59 ?_
          refine gd_ald0 dX7_sameDaySet_60 (by decide) ?_
          refine gd_getR (r := 6) dX7_sameDaySet_61 fl_7_21 rfl rfl rfl (by decide) ?_
          refine gd_getR (r := 10) dX7_sameDaySet_64 fl_7_99 rfl rfl rfl (by decide) ?_
          refine gd_ild7 dX7_sameDaySet_67 ?_
          refine gd_iald (n := 30) dX7_sameDaySet_69 rfl (by decide) (by repeat' (first | with_reducible rfl | apply ni_add | apply ni_mul)) (by omega) ?_
          rw [show (sI h 25 (fD (ms h) l (h.1 25) 4).1).1 10 k = ms h 4 (9 * k + 3) from i.c.ld1 k hk]
          refine gd_ild6 dX7_sameDaySet_70 ?_
          refine gd_iadd dX7_sameDaySet_72 ?_
          refine gd_cV2i dX7_sameDaySet_73 ct_7_119 rc_1 ⟨Nat.le_of_ble_eq_true rfl, Nat.le_of_ble_eq_true rfl⟩ (Nat.le_of_ble_eq_true rfl) (Nat.le_of_ble_eq_true rfl) (c_hasDay le (fD_srt (ms h) l (h.1 25) 4)) ?_
          rw [sI_s, mem_fD, hd]
          refine gd_if_eq_t 88 dX7_sameDaySet_76 (by decide) (by decide) ?_
          refine gd_iinc7 (b := nI 1) dX7_sameDaySet_88 (by decide) rfl ?_
          rw [nI_add]
          refine gd_goto 35 dX7_sameDaySet_91 (by decide) ?_
          exact ih
        · refine gd_ild7 dX7_sameDaySet_35 ?_
          refine gd_ald0 dX7_sameDaySet_37 (by decide) ?_
          refine gd_getR (r := 6) dX7_sameDaySet_38 fl_7_21 rfl rfl rfl (by decide) ?_
          refine gd_getI dX7_sameDaySet_41 fl_7_116 rfl rfl ?_
          refine gd_icmp_ge_f 94 dX7_sameDaySet_44 (by decide) (by rw [show (sI h 25 (fD (ms h) l (h.1 25) 4).1).1 6 9 = _ from i.cN]; exact nI_ge (by omega) (by omega)) ?_
          refine gd_ald0 dX7_sameDaySet_47 (by decide) ?_
          refine gd_ild7 dX7_sameDaySet_48 ?_
          refine gd_ild5 dX7_sameDaySet_50 ?_
          refine gd_cV2i dX7_sameDaySet_52 ct_7_96 rc_1 ⟨Nat.le_of_ble_eq_true rfl, Nat.le_of_ble_eq_true rfl⟩ (Nat.le_of_ble_eq_true rfl) (Nat.le_of_ble_eq_true rfl) (c_canBeBy i.w c1 hk hr) ?_
          rw [hb]
          refine gd_if_eq_f 88 dX7_sameDaySet_55 (by decide) (by decide) ?_
          refine gd_ald0 dX7_sameDaySet_58 (by decide) ?_
          refine gd_ild3 dX7_sameDaySet_59 ?_
          refine gd_ald0 dX7_sameDaySet_60 (by decide) ?_
          refine gd_getR (r := 6) dX7_sameDaySet_61 fl_7_21 rfl rfl rfl (by decide) ?_
          refine gd_getR (r := 10) dX7_sameDaySet_64 fl_7_99 rfl rfl rfl (by decide) ?_
          refine gd_ild7 dX7_sameDaySet_67 ?_
          refine gd_iald (n := 30) dX7_sameDaySet_69 rfl (by decide) (by repeat' (first | with_reducible rfl | apply ni_add | apply ni_mul)) (by omega) ?_
          rw [show (sI h 25 (fD (ms h) l (h.1 25) 4).1).1 10 k = ms h 4 (9 * k + 3) from i.c.ld1 k hk]
          refine gd_ild6 dX7_sameDaySet_70 ?_
          refine gd_iadd dX7_sameDaySet_72 ?_
          refine gd_cV2i dX7_sameDaySet_73 ct_7_119 rc_1 ⟨Nat.le_of_ble_eq_true rfl, Nat.le_of_ble_eq_true rfl⟩ (Nat.le_of_ble_eq_true rfl) (Nat.le_of_ble_eq_true rfl) (c_hasDay le (fD_srt (ms h) l (h.1 25) 4)) ?_
          rw [sI_s, mem_fD, hd]
          refine gd_if_eq_f 88 dX7_sameDaySet_76 (by decide) (by decide) ?_
          refine gd_ild4 dX7_sameDaySet_79 ?_
          refine gd_ic1 dX7_sameDaySet_81 ?_
          refine gd_ild7 dX7_sameDaySet_82 ?_
          refine gd_ishl dX7_sameDaySet_84 ?_
          refine gd_ior dX7_sameDaySet_85 ?_
          rw [bset_ins (q := ev2 (ms h) l r (k + 1)) hk (by omega) (fun z hz hne => ev2_o hne) (by unfold ev2; rw [show ev (ms h) l k r = true by unfold ev; rw [hb, hd]; rfl, decide_eq_true (show k < k + 1 by omega)]; simp)]
          refine gd_ist4 dX7_sameDaySet_86 rfl ?_
          refine gd_iinc7 (b := nI 1) dX7_sameDaySet_88 (by decide) rfl ?_
          rw [nI_add]
          refine gd_goto 35 dX7_sameDaySet_91 (by decide) ?_
          exact ih

def eF (s : Nat → Nat → Int32) (l : Nat) (f : Nat → Int32) : Nat → (Nat → Int32) × Nat
  | 0 => fD s l f 4
  | k + 1 => fD s k (eF s l f k).1 4
theorem m_h4 (h : Hp) (a b c d e : Nat → Int32) : sI (sI (sI (sI h 84 e) 83 a) 72 b) 83 c = sI (sI (sI h 84 e) 83 c) 72 b := by
  rw [sI_cm (h := sI (sI h 84 e) 83 a) (k := 72) (j := 83) (by decide), sI_sI]
/-- do two letters mean a day alike, by their filled rows -/
theorem ev_pair {s : Nat → Nat → Int32} {l k : Nat} {f g : Nat → Int32} : orN (fun i => decide ((fD s l f 4).1 (i % (fD s l f 4).2) = (fD s k g 4).1 (i / (fD s l f 4).2))) ((fD s l f 4).2 * (fD s k g 4).2) = ev1 s l 4 k := by
  apply bEq
  unfold ev1
  rw [orN_iff, orN_iff]
  constructor
  · rintro ⟨i, hi, e⟩
    have e := of_decide_eq_true e
    have ha : 0 < (fD s l f 4).2 := by
      rcases Nat.eq_zero_or_pos (fD s l f 4).2 with z | z
      · rw [z, Nat.zero_mul] at hi; omega
      · exact z
    have h1 : ∃ j, j < (fD s l f 4).2 ∧ (fD s l f 4).1 j = (fD s l f 4).1 (i % (fD s l f 4).2) := ⟨_, Nat.mod_lt _ ha, rfl⟩
    have h2 : ∃ j, j < (fD s k g 4).2 ∧ (fD s k g 4).1 j = (fD s l f 4).1 (i % (fD s l f 4).2) := ⟨_, (Nat.div_lt_iff_lt_mul ha).mpr (by rw [Nat.mul_comm]; exact hi), e.symm⟩
    rw [fD_mem] at h1 h2
    obtain ⟨q, a, b, c⟩ := h2
    refine ⟨q, a, ?_⟩
    unfold ev
    rw [b, Bool.true_and, dyB_iff, ← c]
    exact h1
  · rintro ⟨q, a, e⟩
    unfold ev at e
    rw [Bool.and_eq_true, dyB_iff, ← fD_mem s l f] at e
    obtain ⟨b, x, hx, ex⟩ := e
    obtain ⟨y, hy, ey⟩ := (fD_mem s k g 4 (s 4 (9 * k + 3) + lawV s q)).mpr ⟨q, a, b, rfl⟩
    refine ⟨y * (fD s l f 4).2 + x, ?_, decide_eq_true ?_⟩
    · have : y * (fD s l f 4).2 + (fD s l f 4).2 ≤ (fD s k g 4).2 * (fD s l f 4).2 := by rw [← Nat.succ_mul]; exact Nat.mul_le_mul_right _ hy
      rw [Nat.mul_comm (fD s l f 4).2]; omega
    · rw [Nat.mul_comm y, Nat.mul_add_mod, Nat.mod_eq_of_lt hx, Nat.mul_add_div (by omega), Nat.div_eq_of_lt hx, Nat.add_zero, ex, ey]

def evQ (s : Nat → Nat → Int32) (l o : Nat) (p : Nat → Bool) (i k : Nat) : Bool := if k = o then cB s (-1) (nN s) o && orN p i else evS s l o k
theorem evQ_0 {s : Nat → Nat → Int32} {l o : Nat} {p : Nat → Bool} {k : Nat} : evQ s l o p 0 k = evS s l o k := by
  unfold evQ
  by_cases e : k = o
  · rw [if_pos e]; unfold evS; rw [e, decide_eq_false (by omega), Bool.false_and]; exact Bool.and_false _
  · rw [if_neg e]
theorem evQ_e {s : Nat → Nat → Int32} {l o : Nat} {p : Nat → Bool} {k n : Nat} (h : orN p n = ev1 s l 4 o) : evQ s l o p n k = evS s l (o + 1) k := by
  unfold evQ evS
  by_cases e : k = o
  · rw [if_pos e, h, e, decide_eq_true (by omega), Bool.true_and]
  · rw [if_neg e, show decide (k < o + 1) = decide (k < o) from decide_eq_decide.mpr (by omega)]
theorem evQ_s {s : Nat → Nat → Int32} {l o : Nat} {p : Nat → Bool} {i k : Nat} (h : cB s (-1) (nN s) o = false ∨ p i = false) : evQ s l o p (i + 1) k = evQ s l o p i k := by
  unfold evQ
  by_cases e : k = o
  · rw [if_pos e, if_pos e]
    show (_ && (orN p i || p i)) = _
    rcases h with h | h
    · rw [h, Bool.false_and, Bool.false_and]
    · rw [h, Bool.or_false]
  · rw [if_neg e, if_neg e]
theorem lp_even9 {h : Hp} (i : Inv h) {l : Nat} (hl : l < nN (ms h)) : ∀ l5, Gd mX9_evening 59 [.ref 72, .int (nI l), .int (nI (fD (ms h) l (h.1 83) 4).2), .int (nI (bset (evS (ms h) l 0) (nN (ms h)))), .int (nI 0), l5] [] (sI (sI (sI (sI (sI h 25 (fD (ms h) l (h.1 25) 4).1) 82 (dcR (ms h) (-1) (h.1 82) (nN (ms h)))) 84 (hr3 (h.1 84) 0 (fD (ms h) l (h.1 83) 4).2 (fD (ms h) l (h.1 83) 4).1)) 83 (eF (ms h) l (h.1 83) 0).1) 72 (upd (h.1 72) 11 (nI (eF (ms h) l (h.1 83) 0).2))) (some (.int (nI (bset (evS (ms h) l (nN (ms h))) (nN (ms h))))), sI (sI (sI (sI (sI h 25 (fD (ms h) l (h.1 25) 4).1) 82 (dcR (ms h) (-1) (h.1 82) (nN (ms h)))) 84 (hr3 (h.1 84) 0 (fD (ms h) l (h.1 83) 4).2 (fD (ms h) l (h.1 83) 4).1)) 83 (eF (ms h) l (h.1 83) (nN (ms h))).1) 72 (upd (h.1 72) 11 (nI (eF (ms h) l (h.1 83) (nN (ms h))).2))) := by
  have lN := i.lN
  have la := fD_le (ms h) l (h.1 83) 4
  refine loopG (P := fun k => ∀ l5, Gd mX9_evening 59 [.ref 72, .int (nI l), .int (nI (fD (ms h) l (h.1 83) 4).2), .int (nI (bset (evS (ms h) l k) (nN (ms h)))), .int (nI k), l5] [] (sI (sI (sI (sI (sI h 25 (fD (ms h) l (h.1 25) 4).1) 82 (dcR (ms h) (-1) (h.1 82) (nN (ms h)))) 84 (hr3 (h.1 84) 0 (fD (ms h) l (h.1 83) 4).2 (fD (ms h) l (h.1 83) 4).1)) 83 (eF (ms h) l (h.1 83) k).1) 72 (upd (h.1 72) 11 (nI (eF (ms h) l (h.1 83) k).2))) (some (.int (nI (bset (evS (ms h) l (nN (ms h))) (nN (ms h))))), sI (sI (sI (sI (sI h 25 (fD (ms h) l (h.1 25) 4).1) 82 (dcR (ms h) (-1) (h.1 82) (nN (ms h)))) 84 (hr3 (h.1 84) 0 (fD (ms h) l (h.1 83) 4).2 (fD (ms h) l (h.1 83) 4).1)) 83 (eF (ms h) l (h.1 83) (nN (ms h))).1) 72 (upd (h.1 72) 11 (nI (eF (ms h) l (h.1 83) (nN (ms h))).2)))) (n := (nN (ms h))) ?_ ?_ 0 (by omega)
  · intro l5
    refine gd_ild4 dX9_evening_59 ?_
    refine gd_ald0 dX9_evening_61 (by decide) ?_
    refine gd_getR (r := 74) dX9_evening_62 fl_9_13 rfl rfl rfl (by decide) ?_
    refine gd_ic1 dX9_evening_65 ?_
    refine gd_iald (n := 5) dX9_evening_66 rfl (by decide) (by repeat' (first | with_reducible rfl | apply ni_add | apply ni_mul)) (by omega) ?_
    refine gd_icmp_ge_t 144 dX9_evening_67 (by decide) (by rw [show (sI (sI (sI (sI (sI h 25 (fD (ms h) l (h.1 25) 4).1) 82 (dcR (ms h) (-1) (h.1 82) (nN (ms h)))) 84 (hr3 (h.1 84) 0 (fD (ms h) l (h.1 83) 4).2 (fD (ms h) l (h.1 83) 4).1)) 83 (eF (ms h) l (h.1 83) (nN (ms h))).1) 72 (upd (h.1 72) 11 (nI (eF (ms h) l (h.1 83) (nN (ms h))).2))).1 74 1 = _ from i.mN]; exact nI_le (by omega) (by omega)) ?_
    refine gd_ild3 dX9_evening_144 ?_
    refine gd_iret dX9_evening_145 rfl rfl ?_
    rfl
  · intro k hk ih l5
    have lb := fD_le (ms h) k (eF (ms h) l (h.1 83) k).1 4
    have lab : (fD (ms h) l (h.1 83) 4).2 * (fD (ms h) k (eF (ms h) l (h.1 83) k).1 4).2 ≤ 4 * 4 := Nat.mul_le_mul la lb
    have ij := loopG (P := fun j => Gd mX9_evening 79 [.ref 72, .int (nI l), .int (nI (fD (ms h) l (h.1 83) 4).2), .int (nI (bset (evQ (ms h) l k (fun i => decide ((fD (ms h) l (h.1 83) 4).1 (i % (fD (ms h) l (h.1 83) 4).2) = (fD (ms h) k (eF (ms h) l (h.1 83) k).1 4).1 (i / (fD (ms h) l (h.1 83) 4).2))) j) (nN (ms h)))), .int (nI k), .int (nI j)] [] (sI (sI (sI (sI (sI h 25 (fD (ms h) l (h.1 25) 4).1) 82 (dcR (ms h) (-1) (h.1 82) (nN (ms h)))) 84 (hr3 (h.1 84) 0 (fD (ms h) l (h.1 83) 4).2 (fD (ms h) l (h.1 83) 4).1)) 83 (eF (ms h) l (h.1 83) (k + 1)).1) 72 (upd (h.1 72) 11 (nI (eF (ms h) l (h.1 83) (k + 1)).2))) (some (.int (nI (bset (evS (ms h) l (nN (ms h))) (nN (ms h))))), sI (sI (sI (sI (sI h 25 (fD (ms h) l (h.1 25) 4).1) 82 (dcR (ms h) (-1) (h.1 82) (nN (ms h)))) 84 (hr3 (h.1 84) 0 (fD (ms h) l (h.1 83) 4).2 (fD (ms h) l (h.1 83) 4).1)) 83 (eF (ms h) l (h.1 83) (nN (ms h))).1) 72 (upd (h.1 72) 11 (nI (eF (ms h) l (h.1 83) (nN (ms h))).2)))) (n := (fD (ms h) l (h.1 83) 4).2 * (fD (ms h) k (eF (ms h) l (h.1 83) k).1 4).2) ?_ ?_ 0 (by omega)
    · rw [bset_congr (p := evQ (ms h) l k (fun i => decide ((fD (ms h) l (h.1 83) 4).1 (i % (fD (ms h) l (h.1 83) 4).2) = (fD (ms h) k (eF (ms h) l (h.1 83) k).1 4).1 (i / (fD (ms h) l (h.1 83) 4).2))) 0) (q := evS (ms h) l k) (fun z _ => evQ_0)] at ij
      refine gd_ild4 dX9_evening_59 ?_
      refine gd_ald0 dX9_evening_61 (by decide) ?_
      refine gd_getR (r := 74) dX9_evening_62 fl_9_13 rfl rfl rfl (by decide) ?_
      refine gd_ic1 dX9_evening_65 ?_
      refine gd_iald (n := 5) dX9_evening_66 rfl (by decide) (by repeat' (first | with_reducible rfl | apply ni_add | apply ni_mul)) (by omega) ?_
      refine gd_icmp_ge_f 144 dX9_evening_67 (by decide) (by rw [show (sI (sI (sI (sI (sI h 25 (fD (ms h) l (h.1 25) 4).1) 82 (dcR (ms h) (-1) (h.1 82) (nN (ms h)))) 84 (hr3 (h.1 84) 0 (fD (ms h) l (h.1 83) 4).2 (fD (ms h) l (h.1 83) 4).1)) 83 (eF (ms h) l (h.1 83) k).1) 72 (upd (h.1 72) 11 (nI (eF (ms h) l (h.1 83) k).2))).1 74 1 = _ from i.mN]; exact nI_ge (by omega) (by omega)) ?_
      refine gd_ald0 dX9_evening_70 (by decide) ?_
      refine gd_ild4 dX9_evening_71 ?_
      refine gd_cV1v dX9_evening_73 ct_9_146 rc_72 ⟨Nat.le_of_ble_eq_true rfl, Nat.le_of_ble_eq_true rfl⟩ (Nat.le_of_ble_eq_true rfl) (Nat.le_of_ble_eq_true rfl) (show Gd mX9_findDays 0 [.ref 72, .int (nI k), .null, .null, .null, .null, .null] [] (sI (sI (sI (sI (sI h 25 (fD (ms h) l (h.1 25) 4).1) 82 (dcR (ms h) (-1) (h.1 82) (nN (ms h)))) 84 (hr3 (h.1 84) 0 (fD (ms h) l (h.1 83) 4).2 (fD (ms h) l (h.1 83) 4).1)) 83 (eF (ms h) l (h.1 83) k).1) 72 (upd (h.1 72) 11 (nI (eF (ms h) l (h.1 83) k).2))) (none, sI (sI (sI (sI (sI h 25 (fD (ms h) l (h.1 25) 4).1) 82 (dcR (ms h) (-1) (h.1 82) (nN (ms h)))) 84 (hr3 (h.1 84) 0 (fD (ms h) l (h.1 83) 4).2 (fD (ms h) l (h.1 83) 4).1)) 83 (eF (ms h) l (h.1 83) (k + 1)).1) 72 (upd (h.1 72) 11 (nI (eF (ms h) l (h.1 83) (k + 1)).2))) from by
        have z := m_findDays (h := sI (sI (sI (sI (sI h 25 (fD (ms h) l (h.1 25) 4).1) 82 (dcR (ms h) (-1) (h.1 82) (nN (ms h)))) 84 (hr3 (h.1 84) 0 (fD (ms h) l (h.1 83) 4).2 (fD (ms h) l (h.1 83) 4).1)) 83 (eF (ms h) l (h.1 83) k).1) 72 (upd (h.1 72) 11 (nI (eF (ms h) l (h.1 83) k).2))) (by rw [ms_si (Or.inl (by decide)), ms_si (Or.inr (by decide)), ms_si (Or.inr (by decide)), ms_si (Or.inr (by decide)), ms_si (Or.inl (by decide))]; exact i.w) (l := k) (by rw [ms_si (Or.inl (by decide)), ms_si (Or.inr (by decide)), ms_si (Or.inr (by decide)), ms_si (Or.inr (by decide)), ms_si (Or.inl (by decide))]; exact hk)
        rw [ms_si (Or.inl (by decide)), ms_si (Or.inr (by decide)), ms_si (Or.inr (by decide)), ms_si (Or.inr (by decide)), ms_si (Or.inl (by decide))] at z
        have e : ∀ f g u v, sI (sI (sI (sI (sI (sI (sI h 25 (fD (ms h) l (h.1 25) 4).1) 82 (dcR (ms h) (-1) (h.1 82) (nN (ms h)))) 84 (hr3 (h.1 84) 0 (fD (ms h) l (h.1 83) 4).2 (fD (ms h) l (h.1 83) 4).1)) 83 f) 72 u) 83 g) 72 v = sI (sI (sI (sI (sI h 25 (fD (ms h) l (h.1 25) 4).1) 82 (dcR (ms h) (-1) (h.1 82) (nN (ms h)))) 84 (hr3 (h.1 84) 0 (fD (ms h) l (h.1 83) 4).2 (fD (ms h) l (h.1 83) 4).1)) 83 g) 72 v := fun f g u v => m_hh _ _ _ _ _
        refine gd_eq ?_ z
        rw [e, show ∀ f g b, (sI (sI b 83 f) 72 g).1 72 = g from fun _ _ _ => rfl, upd_upd]
        rfl) ?_
      refine gd_ic0 dX9_evening_76 ?_
      refine gd_ist5 dX9_evening_77 rfl ?_
      exact ij
    · rw [bset_congr (p := evQ (ms h) l k (fun i => decide ((fD (ms h) l (h.1 83) 4).1 (i % (fD (ms h) l (h.1 83) 4).2) = (fD (ms h) k (eF (ms h) l (h.1 83) k).1 4).1 (i / (fD (ms h) l (h.1 83) 4).2))) ((fD (ms h) l (h.1 83) 4).2 * (fD (ms h) k (eF (ms h) l (h.1 83) k).1 4).2)) (q := evS (ms h) l (k + 1)) (fun z _ => evQ_e ev_pair)]
      refine gd_ild5 dX9_evening_79 ?_
      refine gd_ild2 dX9_evening_81 ?_
      refine gd_ald0 dX9_evening_82 (by decide) ?_
      refine gd_getI dX9_evening_83 fl_9_139 rfl rfl ?_
      rw [show (sI (sI (sI (sI (sI h 25 (fD (ms h) l (h.1 25) 4).1) 82 (dcR (ms h) (-1) (h.1 82) (nN (ms h)))) 84 (hr3 (h.1 84) 0 (fD (ms h) l (h.1 83) 4).2 (fD (ms h) l (h.1 83) 4).1)) 83 (eF (ms h) l (h.1 83) (k + 1)).1) 72 (upd (h.1 72) 11 (nI (eF (ms h) l (h.1 83) (k + 1)).2))).1 72 11 = nI (fD (ms h) k (eF (ms h) l (h.1 83) k).1 4).2 from rfl]
      refine gd_imul dX9_evening_86 ?_
      rw [pk_mul]
      refine gd_icmp_ge_t 138 dX9_evening_87 (by decide) (by exact nI_le (by omega) (by omega)) ?_
      refine gd_iinc4 (b := nI 1) dX9_evening_138 (by decide) rfl ?_
      rw [nI_add]
      refine gd_goto 59 dX9_evening_141 (by decide) ?_
      exact ih _
    · intro j hj ih
      have ha : 0 < (fD (ms h) l (h.1 83) 4).2 := by
        rcases Nat.eq_zero_or_pos (fD (ms h) l (h.1 83) 4).2 with z | z
        · rw [z, Nat.zero_mul] at hj; omega
        · exact z
      have jm : j % (fD (ms h) l (h.1 83) 4).2 < (fD (ms h) l (h.1 83) 4).2 := Nat.mod_lt _ ha
      have jd : j / (fD (ms h) l (h.1 83) 4).2 < (fD (ms h) k (eF (ms h) l (h.1 83) k).1 4).2 := (Nat.div_lt_iff_lt_mul ha).mpr (by rw [Nat.mul_comm]; exact hj)
      cases hc : cB (ms h) (-1) (nN (ms h)) k
      · rw [bset_congr (p := evQ (ms h) l k (fun i => decide ((fD (ms h) l (h.1 83) 4).1 (i % (fD (ms h) l (h.1 83) 4).2) = (fD (ms h) k (eF (ms h) l (h.1 83) k).1 4).1 (i / (fD (ms h) l (h.1 83) 4).2))) (j + 1)) (q := evQ (ms h) l k (fun i => decide ((fD (ms h) l (h.1 83) 4).1 (i % (fD (ms h) l (h.1 83) 4).2) = (fD (ms h) k (eF (ms h) l (h.1 83) k).1 4).1 (i / (fD (ms h) l (h.1 83) 4).2))) j) (fun z hz => evQ_s (Or.inl hc))] at ih
        refine gd_ild5 dX9_evening_79 ?_
        refine gd_ild2 dX9_evening_81 ?_
        refine gd_ald0 dX9_evening_82 (by decide) ?_
        refine gd_getI dX9_evening_83 fl_9_139 rfl rfl ?_
        rw [show (sI (sI (sI (sI (sI h 25 (fD (ms h) l (h.1 25) 4).1) 82 (dcR (ms h) (-1) (h.1 82) (nN (ms h)))) 84 (hr3 (h.1 84) 0 (fD (ms h) l (h.1 83) 4).2 (fD (ms h) l (h.1 83) 4).1)) 83 (eF (ms h) l (h.1 83) (k + 1)).1) 72 (upd (h.1 72) 11 (nI (eF (ms h) l (h.1 83) (k + 1)).2))).1 72 11 = nI (fD (ms h) k (eF (ms h) l (h.1 83) k).1 4).2 from rfl]
        refine gd_imul dX9_evening_86 ?_
        rw [pk_mul]
        refine gd_icmp_ge_f 138 dX9_evening_87 (by decide) (by exact nI_ge (by omega) (by omega)) ?_
        refine gd_ild3 dX9_evening_90 ?_
        refine gd_ald0 dX9_evening_91 (by decide) ?_
        refine gd_getR (r := 82) dX9_evening_92 fl_9_37 rfl rfl rfl (by decide) ?_
        refine gd_ild4 dX9_evening_95 ?_
        refine gd_zald (n := 30) dX9_evening_97 rfl (by decide) (rfl) (by omega) ?_
        rw [show (sI (sI (sI (sI (sI h 25 (fD (ms h) l (h.1 25) 4).1) 82 (dcR (ms h) (-1) (h.1 82) (nN (ms h)))) 84 (hr3 (h.1 84) 0 (fD (ms h) l (h.1 83) 4).2 (fD (ms h) l (h.1 83) 4).1)) 83 (eF (ms h) l (h.1 83) (k + 1)).1) 72 (upd (h.1 72) 11 (nI (eF (ms h) l (h.1 83) (k + 1)).2))).1 82 k = bi (cB (ms h) (-1) (nN (ms h)) k) from dcR_at hk]
        refine gd_if_eq_t 129 dX9_evening_98 (by decide) (by rw [hc]; decide) ?_
        refine gd_ic0 dX9_evening_129 ?_
        refine gd_ior dX9_evening_130 ?_
        rw [or_z]
        refine gd_ist3 dX9_evening_131 rfl ?_
        refine gd_iinc5 (b := nI 1) dX9_evening_132 (by decide) rfl ?_
        rw [nI_add]
        refine gd_goto 79 dX9_evening_135 (by decide) ?_
        exact ih
      · by_cases e : (fD (ms h) l (h.1 83) 4).1 (j % (fD (ms h) l (h.1 83) 4).2) = (fD (ms h) k (eF (ms h) l (h.1 83) k).1 4).1 (j / (fD (ms h) l (h.1 83) 4).2)
        · refine gd_ild5 dX9_evening_79 ?_
          refine gd_ild2 dX9_evening_81 ?_
          refine gd_ald0 dX9_evening_82 (by decide) ?_
          refine gd_getI dX9_evening_83 fl_9_139 rfl rfl ?_
          rw [show (sI (sI (sI (sI (sI h 25 (fD (ms h) l (h.1 25) 4).1) 82 (dcR (ms h) (-1) (h.1 82) (nN (ms h)))) 84 (hr3 (h.1 84) 0 (fD (ms h) l (h.1 83) 4).2 (fD (ms h) l (h.1 83) 4).1)) 83 (eF (ms h) l (h.1 83) (k + 1)).1) 72 (upd (h.1 72) 11 (nI (eF (ms h) l (h.1 83) (k + 1)).2))).1 72 11 = nI (fD (ms h) k (eF (ms h) l (h.1 83) k).1 4).2 from rfl]
          refine gd_imul dX9_evening_86 ?_
          rw [pk_mul]
          refine gd_icmp_ge_f 138 dX9_evening_87 (by decide) (by exact nI_ge (by omega) (by omega)) ?_
          refine gd_ild3 dX9_evening_90 ?_
          refine gd_ald0 dX9_evening_91 (by decide) ?_
          refine gd_getR (r := 82) dX9_evening_92 fl_9_37 rfl rfl rfl (by decide) ?_
          refine gd_ild4 dX9_evening_95 ?_
          refine gd_zald (n := 30) dX9_evening_97 rfl (by decide) (rfl) (by omega) ?_
          rw [show (sI (sI (sI (sI (sI h 25 (fD (ms h) l (h.1 25) 4).1) 82 (dcR (ms h) (-1) (h.1 82) (nN (ms h)))) 84 (hr3 (h.1 84) 0 (fD (ms h) l (h.1 83) 4).2 (fD (ms h) l (h.1 83) 4).1)) 83 (eF (ms h) l (h.1 83) (k + 1)).1) 72 (upd (h.1 72) 11 (nI (eF (ms h) l (h.1 83) (k + 1)).2))).1 82 k = bi (cB (ms h) (-1) (nN (ms h)) k) from dcR_at hk]
          refine gd_if_eq_f 129 dX9_evening_98 (by decide) (by rw [hc]; decide) ?_
          refine gd_ald0 dX9_evening_101 (by decide) ?_
          refine gd_getR (r := 84) dX9_evening_102 fl_9_44 rfl rfl rfl (by decide) ?_
          refine gd_ild5 dX9_evening_105 ?_
          refine gd_ild2 dX9_evening_107 ?_
          refine gd_irem dX9_evening_108 (fun z => absurd ((nI_eq (b := 0) (by omega) (by decide)).mp z) (by omega)) ?_
          rw [pk_rem (by omega) ha (by omega)]
          refine gd_iald (n := 4) dX9_evening_109 rfl (by decide) (rfl) (by omega) ?_
          rw [show (sI (sI (sI (sI (sI h 25 (fD (ms h) l (h.1 25) 4).1) 82 (dcR (ms h) (-1) (h.1 82) (nN (ms h)))) 84 (hr3 (h.1 84) 0 (fD (ms h) l (h.1 83) 4).2 (fD (ms h) l (h.1 83) 4).1)) 83 (eF (ms h) l (h.1 83) (k + 1)).1) 72 (upd (h.1 72) 11 (nI (eF (ms h) l (h.1 83) (k + 1)).2))).1 84 (j % (fD (ms h) l (h.1 83) 4).2) = (fD (ms h) l (h.1 83) 4).1 (j % (fD (ms h) l (h.1 83) 4).2) by show hr3 _ 0 _ _ _ = _; unfold hr3; rw [if_pos (by omega), Nat.sub_zero]]
          refine gd_ald0 dX9_evening_110 (by decide) ?_
          refine gd_getR (r := 83) dX9_evening_111 fl_9_41 rfl rfl rfl (by decide) ?_
          refine gd_ild5 dX9_evening_114 ?_
          refine gd_ild2 dX9_evening_116 ?_
          refine gd_idiv dX9_evening_117 (fun z => absurd ((nI_eq (b := 0) (by omega) (by decide)).mp z) (by omega)) ?_
          rw [pk_div (by omega) ha (by omega)]
          refine gd_iald (n := 4) dX9_evening_118 rfl (by decide) (rfl) (by omega) ?_
          refine gd_icmp_ne_f 129 dX9_evening_119 (by decide) (e) ?_
          refine gd_ic1 dX9_evening_122 ?_
          refine gd_ild4 dX9_evening_123 ?_
          refine gd_ishl dX9_evening_125 ?_
          refine gd_goto 130 dX9_evening_126 (by decide) ?_
          refine gd_ior dX9_evening_130 ?_
          rw [bset_ins (q := evQ (ms h) l k (fun i => decide ((fD (ms h) l (h.1 83) 4).1 (i % (fD (ms h) l (h.1 83) 4).2) = (fD (ms h) k (eF (ms h) l (h.1 83) k).1 4).1 (i / (fD (ms h) l (h.1 83) 4).2))) (j + 1)) hk (by omega) (fun z hz hne => by unfold evQ; rw [if_neg hne, if_neg hne]) (by unfold evQ; rw [if_pos rfl, hc, Bool.true_and]; show (_ || decide _) = true; rw [decide_eq_true e, Bool.or_true])]
          refine gd_ist3 dX9_evening_131 rfl ?_
          refine gd_iinc5 (b := nI 1) dX9_evening_132 (by decide) rfl ?_
          rw [nI_add]
          refine gd_goto 79 dX9_evening_135 (by decide) ?_
          exact ih
        · rw [bset_congr (p := evQ (ms h) l k (fun i => decide ((fD (ms h) l (h.1 83) 4).1 (i % (fD (ms h) l (h.1 83) 4).2) = (fD (ms h) k (eF (ms h) l (h.1 83) k).1 4).1 (i / (fD (ms h) l (h.1 83) 4).2))) (j + 1)) (q := evQ (ms h) l k (fun i => decide ((fD (ms h) l (h.1 83) 4).1 (i % (fD (ms h) l (h.1 83) 4).2) = (fD (ms h) k (eF (ms h) l (h.1 83) k).1 4).1 (i / (fD (ms h) l (h.1 83) 4).2))) j) (fun z hz => evQ_s (Or.inr (decide_eq_false e)))] at ih
          refine gd_ild5 dX9_evening_79 ?_
          refine gd_ild2 dX9_evening_81 ?_
          refine gd_ald0 dX9_evening_82 (by decide) ?_
          refine gd_getI dX9_evening_83 fl_9_139 rfl rfl ?_
          rw [show (sI (sI (sI (sI (sI h 25 (fD (ms h) l (h.1 25) 4).1) 82 (dcR (ms h) (-1) (h.1 82) (nN (ms h)))) 84 (hr3 (h.1 84) 0 (fD (ms h) l (h.1 83) 4).2 (fD (ms h) l (h.1 83) 4).1)) 83 (eF (ms h) l (h.1 83) (k + 1)).1) 72 (upd (h.1 72) 11 (nI (eF (ms h) l (h.1 83) (k + 1)).2))).1 72 11 = nI (fD (ms h) k (eF (ms h) l (h.1 83) k).1 4).2 from rfl]
          refine gd_imul dX9_evening_86 ?_
          rw [pk_mul]
          refine gd_icmp_ge_f 138 dX9_evening_87 (by decide) (by exact nI_ge (by omega) (by omega)) ?_
          refine gd_ild3 dX9_evening_90 ?_
          refine gd_ald0 dX9_evening_91 (by decide) ?_
          refine gd_getR (r := 82) dX9_evening_92 fl_9_37 rfl rfl rfl (by decide) ?_
          refine gd_ild4 dX9_evening_95 ?_
          refine gd_zald (n := 30) dX9_evening_97 rfl (by decide) (rfl) (by omega) ?_
          rw [show (sI (sI (sI (sI (sI h 25 (fD (ms h) l (h.1 25) 4).1) 82 (dcR (ms h) (-1) (h.1 82) (nN (ms h)))) 84 (hr3 (h.1 84) 0 (fD (ms h) l (h.1 83) 4).2 (fD (ms h) l (h.1 83) 4).1)) 83 (eF (ms h) l (h.1 83) (k + 1)).1) 72 (upd (h.1 72) 11 (nI (eF (ms h) l (h.1 83) (k + 1)).2))).1 82 k = bi (cB (ms h) (-1) (nN (ms h)) k) from dcR_at hk]
          refine gd_if_eq_f 129 dX9_evening_98 (by decide) (by rw [hc]; decide) ?_
          refine gd_ald0 dX9_evening_101 (by decide) ?_
          refine gd_getR (r := 84) dX9_evening_102 fl_9_44 rfl rfl rfl (by decide) ?_
          refine gd_ild5 dX9_evening_105 ?_
          refine gd_ild2 dX9_evening_107 ?_
          refine gd_irem dX9_evening_108 (fun z => absurd ((nI_eq (b := 0) (by omega) (by decide)).mp z) (by omega)) ?_
          rw [pk_rem (by omega) ha (by omega)]
          refine gd_iald (n := 4) dX9_evening_109 rfl (by decide) (rfl) (by omega) ?_
          rw [show (sI (sI (sI (sI (sI h 25 (fD (ms h) l (h.1 25) 4).1) 82 (dcR (ms h) (-1) (h.1 82) (nN (ms h)))) 84 (hr3 (h.1 84) 0 (fD (ms h) l (h.1 83) 4).2 (fD (ms h) l (h.1 83) 4).1)) 83 (eF (ms h) l (h.1 83) (k + 1)).1) 72 (upd (h.1 72) 11 (nI (eF (ms h) l (h.1 83) (k + 1)).2))).1 84 (j % (fD (ms h) l (h.1 83) 4).2) = (fD (ms h) l (h.1 83) 4).1 (j % (fD (ms h) l (h.1 83) 4).2) by show hr3 _ 0 _ _ _ = _; unfold hr3; rw [if_pos (by omega), Nat.sub_zero]]
          refine gd_ald0 dX9_evening_110 (by decide) ?_
          refine gd_getR (r := 83) dX9_evening_111 fl_9_41 rfl rfl rfl (by decide) ?_
          refine gd_ild5 dX9_evening_114 ?_
          refine gd_ild2 dX9_evening_116 ?_
          refine gd_idiv dX9_evening_117 (fun z => absurd ((nI_eq (b := 0) (by omega) (by decide)).mp z) (by omega)) ?_
          rw [pk_div (by omega) ha (by omega)]
          refine gd_iald (n := 4) dX9_evening_118 rfl (by decide) (rfl) (by omega) ?_
          refine gd_icmp_ne_t 129 dX9_evening_119 (by decide) (e) ?_
          refine gd_ic0 dX9_evening_129 ?_
          refine gd_ior dX9_evening_130 ?_
          rw [or_z]
          refine gd_ist3 dX9_evening_131 rfl ?_
          refine gd_iinc5 (b := nI 1) dX9_evening_132 (by decide) rfl ?_
          rw [nI_add]
          refine gd_goto 79 dX9_evening_135 (by decide) ?_
          exact ih
theorem lp_oth {h : Hp} (i : Inv h) {l : Nat} (hl : l < nN (ms h)) : ∀ l4 l5, Gd mX9_evening 31 [.ref 72, .int (nI l), .int (nI (fD (ms h) l (h.1 83) 4).2), .int (nI 0), l4, l5] [] (sI (sI (sI (sI h 25 (fD (ms h) l (h.1 25) 4).1) 82 (dcR (ms h) (-1) (h.1 82) (nN (ms h)))) 83 (fD (ms h) l (h.1 83) 4).1) 72 (upd (h.1 72) 11 (nI (fD (ms h) l (h.1 83) 4).2))) (some (.int (nI (bset (evS (ms h) l (nN (ms h))) (nN (ms h))))), sI (sI (sI (sI (sI h 25 (fD (ms h) l (h.1 25) 4).1) 82 (dcR (ms h) (-1) (h.1 82) (nN (ms h)))) 84 (hr3 (h.1 84) 0 (fD (ms h) l (h.1 83) 4).2 (fD (ms h) l (h.1 83) 4).1)) 83 (eF (ms h) l (h.1 83) (nN (ms h))).1) 72 (upd (h.1 72) 11 (nI (eF (ms h) l (h.1 83) (nN (ms h))).2))) := by
  have la := fD_le (ms h) l (h.1 83) 4
  have key := loopG (P := fun j => ∀ l4 l5, Gd mX9_evening 31 [.ref 72, .int (nI l), .int (nI (fD (ms h) l (h.1 83) 4).2), .int (nI j), l4, l5] [] (sI (sI (sI (sI (sI h 25 (fD (ms h) l (h.1 25) 4).1) 82 (dcR (ms h) (-1) (h.1 82) (nN (ms h)))) 83 (fD (ms h) l (h.1 83) 4).1) 72 (upd (h.1 72) 11 (nI (fD (ms h) l (h.1 83) 4).2))) 84 (hr3 (h.1 84) 0 j (fD (ms h) l (h.1 83) 4).1)) (some (.int (nI (bset (evS (ms h) l (nN (ms h))) (nN (ms h))))), sI (sI (sI (sI (sI h 25 (fD (ms h) l (h.1 25) 4).1) 82 (dcR (ms h) (-1) (h.1 82) (nN (ms h)))) 84 (hr3 (h.1 84) 0 (fD (ms h) l (h.1 83) 4).2 (fD (ms h) l (h.1 83) 4).1)) 83 (eF (ms h) l (h.1 83) (nN (ms h))).1) 72 (upd (h.1 72) 11 (nI (eF (ms h) l (h.1 83) (nN (ms h))).2)))) (n := (fD (ms h) l (h.1 83) 4).2) ?_ ?_ 0 (by omega)
  · rw [hr3_0, show h.1 84 = (sI (sI (sI (sI h 25 (fD (ms h) l (h.1 25) 4).1) 82 (dcR (ms h) (-1) (h.1 82) (nN (ms h)))) 83 (fD (ms h) l (h.1 83) 4).1) 72 (upd (h.1 72) 11 (nI (fD (ms h) l (h.1 83) 4).2))).1 84 from rfl, sI_id] at key
    exact key
  · intro l4 l5
    have z := lp_even9 i hl
    rw [show bset (evS (ms h) l 0) (nN (ms h)) = 0 from bset_z (fun k => by unfold evS; rw [decide_eq_false (by omega)]; rfl)] at z
    refine gd_ild3 dX9_evening_31 ?_
    refine gd_ild2 dX9_evening_32 ?_
    refine gd_icmp_ge_t 54 dX9_evening_33 (by decide) (by exact nI_le (by omega) (by omega)) ?_
    refine gd_ic0 dX9_evening_54 ?_
    refine gd_ist3 dX9_evening_55 rfl ?_
    refine gd_ic0 dX9_evening_56 ?_
    refine gd_ist4 dX9_evening_57 rfl ?_
    refine gd_eqH ?_ (z _)
    rw [sI_cm (k := 72) (j := 84) (by decide), sI_cm (k := 83) (j := 84) (by decide)]
    rfl
  · intro j hj ih l4 l5
    refine gd_ild3 dX9_evening_31 ?_
    refine gd_ild2 dX9_evening_32 ?_
    refine gd_icmp_ge_f 54 dX9_evening_33 (by decide) (by exact nI_ge (by omega) (by omega)) ?_
    refine gd_ald0 dX9_evening_36 (by decide) ?_
    refine gd_getR (r := 84) dX9_evening_37 fl_9_44 rfl rfl rfl (by decide) ?_
    refine gd_ild3 dX9_evening_40 ?_
    refine gd_ald0 dX9_evening_41 (by decide) ?_
    refine gd_getR (r := 83) dX9_evening_42 fl_9_41 rfl rfl rfl (by decide) ?_
    refine gd_ild3 dX9_evening_45 ?_
    refine gd_iald (n := 4) dX9_evening_46 rfl (by decide) (rfl) (by omega) ?_
    refine gd_iast (n := 4) dX9_evening_47 rfl (by decide) (rfl) (by omega) ?_
    refine gd_iinc3 (b := nI 1) dX9_evening_48 (by decide) rfl ?_
    rw [nI_add]
    refine gd_goto 31 dX9_evening_51 (by decide) ?_
    refine gd_eqH ?_ (ih _ _)
    rw [sI_s, sI_sI, show (sI (sI (sI (sI (sI h 25 (fD (ms h) l (h.1 25) 4).1) 82 (dcR (ms h) (-1) (h.1 82) (nN (ms h)))) 83 (fD (ms h) l (h.1 83) 4).1) 72 (upd (h.1 72) 11 (nI (fD (ms h) l (h.1 83) 4).2))) 84 (hr3 (h.1 84) 0 j (fD (ms h) l (h.1 83) 4).1)).1 83 j = (fD (ms h) l (h.1 83) 4).1 j from rfl]
    rw [show upd (hr3 (h.1 84) 0 j (fD (ms h) l (h.1 83) 4).1) j ((fD (ms h) l (h.1 83) 4).1 j) = hr3 (h.1 84) 0 (j + 1) (fD (ms h) l (h.1 83) 4).1 by have z := hr3_s (h.1 84) 0 j (fD (ms h) l (h.1 83) 4).1; rw [Nat.zero_add] at z; exact z]
set_option maxHeartbeats 1000000 in
theorem p_evening {h : Hp} (i : Inv h) (a : Int32) : Pas mX8_evening mX9_evening [.ref 0, .int a] [.ref 72, .int a, .null, .null, .null, .null] h := by
  have lN := i.lN
  rcases rng a (nN (ms h)) (by omega) with ⟨l, hl, rfl⟩ | ha
  · refine Pas.read (r := .int (nI (bset (evS (ms h) l (nN (ms h))) (nN (ms h))))) (r2 := .int (nI (bset (evS (ms h) l (nN (ms h))) (nN (ms h))))) (h1 := sI h 25 (fD (ms h) l (h.1 25) 4).1) (h2 := sI (sI (sI (sI (sI h 25 (fD (ms h) l (h.1 25) 4).1) 82 (dcR (ms h) (-1) (h.1 82) (nN (ms h)))) 84 (hr3 (h.1 84) 0 (fD (ms h) l (h.1 83) 4).2 (fD (ms h) l (h.1 83) 4).1)) 83 (eF (ms h) l (h.1 83) (nN (ms h))).1) 72 (upd (h.1 72) 11 (nI (eF (ms h) l (h.1 83) (nN (ms h))).2))) i rfl ((Same.rf _).si (by decide) (by decide) (by decide)) (((((Same.rf _).si (by decide) (by decide) (by decide)).si (by decide) (by decide) (by decide)).si (by decide) (by decide) (by decide)).s72 rfl rfl) ?_ ?_
    · refine gd_ald0 dX8_evening_0 (by decide) ?_
      refine gd_ild1 dX8_evening_1 ?_
      refine gd_cV1i dX8_evening_2 ct_8_142 rc_0 ⟨Nat.le_of_ble_eq_true rfl, Nat.le_of_ble_eq_true rfl⟩ (Nat.le_of_ble_eq_true rfl) (Nat.le_of_ble_eq_true rfl) (c_isLetter_t i.w i.c hl) ?_
      refine gd_if_ne_t 15 dX8_evening_5 (by decide) (by decide) ?_
      refine gd_ald0 dX8_evening_15 (by decide) ?_
      refine gd_getR (r := 1) dX8_evening_16 fl_8_12 rfl rfl rfl (by decide) ?_
      refine gd_ild1 dX8_evening_19 ?_
      refine gd_cV1i dX8_evening_20 ct_8_178 rc_1 ⟨Nat.le_of_ble_eq_true rfl, Nat.le_of_ble_eq_true rfl⟩ (Nat.le_of_ble_eq_true rfl) (Nat.le_of_ble_eq_true rfl) (c_sameDaySet i hl) ?_
      refine gd_iret dX8_evening_23 rfl rfl ?_
      rfl
    · refine gd_ald0 dX9_evening_0 (by decide) ?_
      refine gd_ild1 dX9_evening_1 ?_
      refine gd_cV1i dX9_evening_2 ct_9_113 rc_72 ⟨Nat.le_of_ble_eq_true rfl, Nat.le_of_ble_eq_true rfl⟩ (Nat.le_of_ble_eq_true rfl) (Nat.le_of_ble_eq_true rfl) (m_isLetter_t (h := sI h 25 (fD (ms h) l (h.1 25) 4).1) (by exact i.w) hl) ?_
      refine gd_if_ne_t 14 dX9_evening_5 (by decide) (by decide) ?_
      refine gd_ald0 dX9_evening_14 (by decide) ?_
      refine gd_icm1 dX9_evening_15 ?_
      refine gd_cV1v dX9_evening_16 ct_9_109 rc_72 ⟨Nat.le_of_ble_eq_true rfl, Nat.le_of_ble_eq_true rfl⟩ (Nat.le_of_ble_eq_true rfl) (Nat.le_of_ble_eq_true rfl) (show Gd mX9_count 0 [.ref 72, .int (-1), .null, .null, .null] [] (sI h 25 (fD (ms h) l (h.1 25) 4).1) (none, sI (sI h 25 (fD (ms h) l (h.1 25) 4).1) 82 (dcR (ms h) (-1) (h.1 82) (nN (ms h)))) from by have z := m_count (h := sI h 25 (fD (ms h) l (h.1 25) 4).1) (by rw [ms_si (Or.inl (by decide))]; exact i.w) (-1); rw [ms_si (Or.inl (by decide))] at z; exact z) ?_
      refine gd_ald0 dX9_evening_19 (by decide) ?_
      refine gd_ild1 dX9_evening_20 ?_
      refine gd_cV1v dX9_evening_21 ct_9_146 rc_72 ⟨Nat.le_of_ble_eq_true rfl, Nat.le_of_ble_eq_true rfl⟩ (Nat.le_of_ble_eq_true rfl) (Nat.le_of_ble_eq_true rfl) (show Gd mX9_findDays 0 [.ref 72, .int (nI l), .null, .null, .null, .null, .null] [] (sI (sI h 25 (fD (ms h) l (h.1 25) 4).1) 82 (dcR (ms h) (-1) (h.1 82) (nN (ms h)))) (none, sI (sI (sI (sI h 25 (fD (ms h) l (h.1 25) 4).1) 82 (dcR (ms h) (-1) (h.1 82) (nN (ms h)))) 83 (fD (ms h) l (h.1 83) 4).1) 72 (upd (h.1 72) 11 (nI (fD (ms h) l (h.1 83) 4).2))) from by
        have z := m_findDays (h := sI (sI h 25 (fD (ms h) l (h.1 25) 4).1) 82 (dcR (ms h) (-1) (h.1 82) (nN (ms h)))) (by rw [ms_si (Or.inr (by decide)), ms_si (Or.inl (by decide))]; exact i.w) (l := l) (by rw [ms_si (Or.inr (by decide)), ms_si (Or.inl (by decide))]; exact hl)
        rw [ms_si (Or.inr (by decide)), ms_si (Or.inl (by decide))] at z
        exact z) ?_
      refine gd_ald0 dX9_evening_24 (by decide) ?_
      refine gd_getI dX9_evening_25 fl_9_139 rfl rfl ?_
      rw [show (sI (sI (sI (sI h 25 (fD (ms h) l (h.1 25) 4).1) 82 (dcR (ms h) (-1) (h.1 82) (nN (ms h)))) 83 (fD (ms h) l (h.1 83) 4).1) 72 (upd (h.1 72) 11 (nI (fD (ms h) l (h.1 83) 4).2))).1 72 11 = nI (fD (ms h) l (h.1 83) 4).2 from rfl]
      refine gd_ist2 dX9_evening_28 rfl ?_
      refine gd_ic0 dX9_evening_29 ?_
      refine gd_ist3 dX9_evening_30 rfl ?_
      exact lp_oth i hl _ _
  · refine Pas.find (h1 := h) (h2 := hf (h) 0) (v := -1000000001) (w := (-1000000000 : Int32) - nI 1) 0 i (by decide) (by decide) (by decide) (Same.rf _) (Same.rf _) ?_ ?_
    · refine gd_ald0 dX8_evening_0 (by decide) ?_
      refine gd_ild1 dX8_evening_1 ?_
      refine gd_cV1i dX8_evening_2 ct_8_142 rc_0 ⟨Nat.le_of_ble_eq_true rfl, Nat.le_of_ble_eq_true rfl⟩ (Nat.le_of_ble_eq_true rfl) (Nat.le_of_ble_eq_true rfl) (c_isLetter_f i.w i.c ha) ?_
      refine gd_if_ne_f 15 dX8_evening_5 (by decide) (by decide) ?_
      refine gd_ald0 dX8_evening_8 (by decide) ?_
      refine gd_ldc dX8_evening_9 ld_8_52 ?_
      refine gd_cV1i dX8_evening_11 ct_8_53 rc_0 ⟨Nat.le_of_ble_eq_true rfl, Nat.le_of_ble_eq_true rfl⟩ (Nat.le_of_ble_eq_true rfl) (Nat.le_of_ble_eq_true rfl) (c_f0 _) ?_
      refine gd_iret dX8_evening_14 rfl rfl ?_
      rfl
    · refine gd_ald0 dX9_evening_0 (by decide) ?_
      refine gd_ild1 dX9_evening_1 ?_
      refine gd_cV1i dX9_evening_2 ct_9_113 rc_72 ⟨Nat.le_of_ble_eq_true rfl, Nat.le_of_ble_eq_true rfl⟩ (Nat.le_of_ble_eq_true rfl) (Nat.le_of_ble_eq_true rfl) (m_isLetter_f (h := hf h 0) (by exact i.w) ha) ?_
      refine gd_if_ne_f 14 dX9_evening_5 (by decide) (by decide) ?_
      refine gd_ald0 dX9_evening_8 (by decide) ?_
      refine gd_ic1 dX9_evening_9 ?_
      refine gd_cV1i dX9_evening_10 ct_9_97 rc_72 ⟨Nat.le_of_ble_eq_true rfl, Nat.le_of_ble_eq_true rfl⟩ (Nat.le_of_ble_eq_true rfl) (Nat.le_of_ble_eq_true rfl) (m_f0 _) ?_
      refine gd_iret dX9_evening_13 rfl rfl ?_
      rfl
