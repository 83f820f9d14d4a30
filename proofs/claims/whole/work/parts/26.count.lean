
/-! ===== which letters count ===== -/
abbrev baseP (s : Nat → Nat → Int32) (g : Int32) (l : Nat) : Prop := s 4 (9 * l + 5) ≤ s 0 4 ∧ ¬ s 4 (9 * l + 6) = nI 1 ∧ ¬ s 4 (9 * l) = nI 5 ∧ ¬ nI l = g
def cop (s : Nat → Nat → Int32) (l : Nat) : Bool := decide (s 4 (9 * l) = nI 3)
def allN (p : Nat → Bool) : Nat → Bool
  | 0 => true
  | n + 1 => allN p n && p n
def cpl (s : Nat → Nat → Int32) (f : Nat → Bool) (l k : Nat) : Bool := !(f k && cop s k && decide (s 4 (9 * k + 7) = s 4 (9 * l + 7)))
def isC (s : Nat → Nat → Int32) (g : Int32) (l : Nat) (f : Nat → Bool) : Bool := decide (baseP s g l) && (!(cop s l) || (!(f (tn (s 4 (9 * l + 7)))) && allN (cpl s f l) l))
def cB (s : Nat → Nat → Int32) (g : Int32) : Nat → Nat → Bool
  | 0 => fun _ => false
  | n + 1 => fun j => if j = n then isC s g n (cB s g n) else cB s g n j
def cS (s : Nat → Nat → Int32) (g : Int32) : Nat := bset (cB s g (nN s)) (nN s)
theorem allN_congr {p q : Nat → Bool} {n : Nat} (h : ∀ k, k < n → p k = q k) : allN p n = allN q n := by
  induction n with
  | zero => rfl
  | succ n ih => unfold allN; rw [ih (fun k hk => h k (by omega)), h n (by omega)]
theorem allN_false {p : Nat → Bool} {n : Nat} : allN p n = false ↔ ∃ k, k < n ∧ p k = false := by
  induction n with
  | zero => simp [allN]
  | succ n ih =>
    unfold allN
    rw [Bool.and_eq_false_iff, ih]
    constructor
    · rintro (⟨k, h1, h2⟩ | h)
      · exact ⟨k, by omega, h2⟩
      · exact ⟨n, by omega, h⟩
    · rintro ⟨k, h1, h2⟩
      by_cases e : k = n
      · subst e; exact Or.inr h2
      · exact Or.inl ⟨k, by omega, h2⟩
theorem cB_n {s : Nat → Nat → Int32} {g : Int32} {n : Nat} : cB s g (n + 1) n = isC s g n (cB s g n) := by show (if n = n then _ else _) = _; rw [if_pos rfl]
theorem cB_o {s : Nat → Nat → Int32} {g : Int32} {n j : Nat} (h : j ≠ n) : cB s g (n + 1) j = cB s g n j := by show (if j = n then _ else _) = _; rw [if_neg h]
theorem cB_st {s : Nat → Nat → Int32} {g : Int32} {n m j : Nat} (h1 : j < n) (h2 : n ≤ m) : cB s g m j = cB s g n j := by
  induction m with
  | zero => omega
  | succ m ih =>
    by_cases e : n = m + 1
    · rw [e]
    · rw [cB_o (by omega), ih (by omega)]
theorem cB_hi {s : Nat → Nat → Int32} {g : Int32} {n j : Nat} (h : n ≤ j) : cB s g n j = false := by
  induction n with
  | zero => rfl
  | succ n ih => rw [cB_o (by omega)]; exact ih (by omega)
theorem cS_lt {s : Nat → Nat → Int32} (w : WF s) (g : Int32) : cS s g < 2 ^ 30 := Nat.lt_of_lt_of_le (bset_lt _ _) (Nat.pow_le_pow_right (by decide) w.n.2)
theorem cS_bit {s : Nat → Nat → Int32} {g : Int32} {l : Nat} (hl : l < nN s) : (cS s g).testBit l = cB s g (nN s) l := by
  unfold cS; rw [bset_bit]; simp [hl]
/-- from which letters copied ones that count are -/
def cp (s : Nat → Nat → Int32) (g : Int32) (n j : Nat) : Bool := !(allN (fun k => !(cB s g n k && cop s k && decide (s 4 (9 * k + 7) = nI j))) n)
theorem cp_0 (s : Nat → Nat → Int32) (g : Int32) (m : Nat) : bset (cp s g 0) m = 0 := by
  have e : cp s g 0 = fun _ => false := by funext k; rfl
  rw [e]
  induction m with
  | zero => rfl
  | succ m ih => unfold bset; rw [ih]; rfl
theorem cp_s {s : Nat → Nat → Int32} {g : Int32} {n j : Nat} : cp s g (n + 1) j = (cp s g n j || (isC s g n (cB s g n) && cop s n && decide (s 4 (9 * n + 7) = nI j))) := by
  unfold cp
  show (!(allN (fun k => !(cB s g (n + 1) k && cop s k && decide (s 4 (9 * k + 7) = nI j))) n && !(cB s g (n + 1) n && cop s n && decide (s 4 (9 * n + 7) = nI j)))) = _
  rw [cB_n, allN_congr (q := fun k => !(cB s g n k && cop s k && decide (s 4 (9 * k + 7) = nI j))) (fun k hk => by rw [cB_o (by omega)])]
  rw [Bool.not_and, Bool.not_not]
theorem bit_z {X j : Nat} (hj : j < 31) : (nI X &&& (nI 1 <<< (nI j &&& 31)) = 0) ↔ X.testBit j = false := by
  rw [shl_nI hj, and_nI]
  have key : ∀ i, (X &&& 2 ^ j).testBit i = (X.testBit i && decide (j = i)) := fun i => by rw [Nat.testBit_and, Nat.testBit_two_pow]
  cases h : X.testBit j
  · have e : X &&& 2 ^ j = 0 := by
      apply Nat.eq_of_testBit_eq
      intro i
      rw [key, Nat.zero_testBit]
      by_cases e : j = i
      · subst e; rw [h]; rfl
      · simp [e]
    rw [e]; exact ⟨fun _ => rfl, fun _ => rfl⟩
  · have e : X &&& 2 ^ j = 2 ^ j := by
      apply Nat.eq_of_testBit_eq
      intro i
      rw [key, Nat.testBit_two_pow]
      by_cases e : j = i
      · subst e; rw [h]; rfl
      · simp [e]
    have : ∀ j, j < 31 → ¬ nI (2 ^ j) = 0 := by decide
    rw [e]; exact ⟨fun z => absurd z (this j hj), fun z => by cases z⟩

theorem cS_no {s : Nat → Nat → Int32} {g : Int32} {l : Nat} (e : isC s g l (cB s g l) = false) : bset (cB s g (l + 1)) (l + 1) = bset (cB s g l) l ∧ bset (cp s g (l + 1)) 30 = bset (cp s g l) 30 := by
  refine ⟨?_, bset_congr (fun j _ => by rw [cp_s, e]; simp)⟩
  rw [bset_no (by rw [cB_n]; exact e)]
  exact bset_congr (fun j hj => cB_o (by omega))
theorem cS_ye {s : Nat → Nat → Int32} {g : Int32} {l : Nat} (hl : l < 31) (e : isC s g l (cB s g l) = true) : nI (bset (cB s g l) l) ||| (nI 1 <<< (nI l &&& 31)) = nI (bset (cB s g (l + 1)) (l + 1)) := by
  rw [bset_congr (q := cB s g (l + 1)) (fun j hj => (cB_o (by omega)).symm)]
  exact bset_or (by rw [cB_n]; exact e) hl
theorem cp_ye {s : Nat → Nat → Int32} {g : Int32} {l j : Nat} (hj : j < 30) (e : isC s g l (cB s g l) = true) (c : cop s l = true) (hs : s 4 (9 * l + 7) = nI j) : nI (bset (cp s g l) 30) ||| (nI 1 <<< (nI j &&& 31)) = nI (bset (cp s g (l + 1)) 30) := by
  refine bset_ins hj (by decide) (fun k hk hne => ?_) ?_
  · rw [cp_s, e, c, hs]
    rw [show decide (nI j = nI k) = false from decide_eq_false (fun z => hne ((nI_eq (by omega) (by omega)).mp z).symm)]
    simp
  · rw [cp_s, e, c, hs]; simp
theorem cp_no {s : Nat → Nat → Int32} {g : Int32} {l : Nat} (c : cop s l = false) : bset (cp s g (l + 1)) 30 = bset (cp s g l) 30 := bset_congr (fun j _ => by rw [cp_s, c]; simp)
theorem orbit {a b j : Nat} : (nI a ||| nI b) = nI (a ||| b) := or_nI
theorem c_countL {h : Hp} {s : Nat → Nat → Int32} (w : WF s) (c : CR h 1 s) (g : Int32) : Gd mX1_countingSet 0 [.ref 6, .int (s 0 4), .int g, .null, .null, .null, .null] [] h (some (.int (nI (cS s g))), h) := by
  have lN := w.n.2
  have key := loopG (P := fun l => ∀ u, Gd mX1_countingSet 8 [.ref 6, .int (s 0 4), .int g, .int (nI (bset (cB s g l) l)), .int (nI (bset (cp s g l) 30)), .int (nI l), u] [] h (some (.int (nI (cS s g))), h)) (n := nN s) ?_ ?_ 0 (by omega)
  · rw [cp_0] at key
    refine gd_ic0 dX1_countingSet_0 ?_
    refine gd_ist3 dX1_countingSet_1 rfl ?_
    refine gd_ic0 dX1_countingSet_2 ?_
    refine gd_ist4 dX1_countingSet_3 rfl ?_
    refine gd_ic0 dX1_countingSet_5 ?_
    refine gd_ist5 dX1_countingSet_6 rfl ?_
    exact key _
  · intro u
    refine gd_ild5 dX1_countingSet_8 ?_
    refine gd_ald0 dX1_countingSet_10 (by decide) ?_
    refine gd_getI dX1_countingSet_11 fl_1_40 rfl rfl ?_
    refine gd_icmp_ge_t 112 dX1_countingSet_14 (by decide) (by rw [c.n1, w.n.1]; exact nI_le (by omega) (by omega)) ?_
    refine gd_ild3 dX1_countingSet_112 ?_
    refine gd_iret dX1_countingSet_113 rfl rfl ?_
    rfl
  · intro l hl ih u
    obtain ⟨k0, t0, x0, d0, r0, q0, z0, e0, a1, a2, a3, a4, a5, a6, a7, a8, b1, b2, b3, b4, b5, b6, b7, b8, b9, b10⟩ := w.l l hl
    by_cases hb : baseP s g l
    · by_cases h3 : s 4 (9 * l) = nI 3
      · have hc : cop s l = true := decide_eq_true h3
        obtain ⟨j, hjl, hj⟩ : ∃ j, j < l ∧ s 4 (9 * l + 7) = nI j := by
          have k3 : k0 = 3 := (nI_eq (by omega) (by decide)).mp (a1.symm.trans h3)
          exact b9.resolve_left (b10 k3)
        have tj : tn (s 4 (9 * l + 7)) = j := by rw [hj, tn_nI (by omega)]
        have hT : (bset (cB s g l) l ||| bset (cp s g l) 30).testBit j = (cB s g l j || cp s g l j) := by rw [Nat.testBit_or, bset_bit, bset_bit, decide_eq_true (show j < l by omega), decide_eq_true (show j < 30 by omega), Bool.true_and, Bool.true_and]
        have hX : isC s g l (cB s g l) = !(cB s g l j || cp s g l j) := by
          unfold isC cp
          rw [decide_eq_true hb, hc, tj, Bool.not_or, Bool.not_not, show allN (fun k => !(cB s g l k && cop s k && decide (s 4 (9 * k + 7) = nI j))) l = allN (cpl s (cB s g l) l) l from allN_congr (fun k _ => by unfold cpl; rw [hj])]
          rfl
        cases hb2 : (cB s g l j || cp s g l j) with
        | false =>
          have hy : isC s g l (cB s g l) = true := by rw [hX, hb2]; rfl
          refine gd_ild5 dX1_countingSet_8 ?_
          refine gd_ald0 dX1_countingSet_10 (by decide) ?_
          refine gd_getI dX1_countingSet_11 fl_1_40 rfl rfl ?_
          refine gd_icmp_ge_f 112 dX1_countingSet_14 (by decide) (by rw [c.n1, w.n.1]; exact nI_ge (by omega) (by omega)) ?_
          refine gd_ild5 dX1_countingSet_17 ?_
          refine gd_ild2 dX1_countingSet_19 ?_
          refine gd_icmp_eq_f 106 dX1_countingSet_20 (by decide) (hb.2.2.2) ?_
          refine gd_ald0 dX1_countingSet_23 (by decide) ?_
          refine gd_ild5 dX1_countingSet_24 ?_
          refine gd_cV1i dX1_countingSet_26 ct_1_49 rc_6 ⟨Nat.le_of_ble_eq_true rfl, Nat.le_of_ble_eq_true rfl⟩ (Nat.le_of_ble_eq_true rfl) (Nat.le_of_ble_eq_true rfl) (c_isLost w c hl) ?_
          refine gd_if_ne_f 106 dX1_countingSet_29 (by decide) (bi_e0.mpr (decide_eq_false hb.2.1)) ?_
          refine gd_ald0 dX1_countingSet_32 (by decide) ?_
          refine gd_getR (r := 12) dX1_countingSet_33 fl_1_27 rfl rfl rfl (by decide) ?_
          refine gd_ild5 dX1_countingSet_36 ?_
          refine gd_iald (n := 30) dX1_countingSet_38 rfl (by decide) (by repeat' (first | with_reducible rfl | apply ni_add | apply ni_mul)) (by omega) ?_
          rw [c.lq1 l hl]
          refine gd_ild1 dX1_countingSet_39 ?_
          refine gd_icmp_gt_f 106 dX1_countingSet_40 (by decide) (Int32.not_lt.mpr hb.1) ?_
          refine gd_ald0 dX1_countingSet_43 (by decide) ?_
          refine gd_getR (r := 7) dX1_countingSet_44 fl_1_9 rfl rfl rfl (by decide) ?_
          refine gd_ild5 dX1_countingSet_47 ?_
          refine gd_iald (n := 30) dX1_countingSet_49 rfl (by decide) (by repeat' (first | with_reducible rfl | apply ni_add | apply ni_mul)) (by omega) ?_
          rw [c.lk1 l hl]
          refine gd_ic5 dX1_countingSet_50 ?_
          refine gd_icmp_ne_t 57 dX1_countingSet_51 (by decide) (hb.2.2.1) ?_
          refine gd_ald0 dX1_countingSet_57 (by decide) ?_
          refine gd_getR (r := 7) dX1_countingSet_58 fl_1_9 rfl rfl rfl (by decide) ?_
          refine gd_ild5 dX1_countingSet_61 ?_
          refine gd_iald (n := 30) dX1_countingSet_63 rfl (by decide) (by repeat' (first | with_reducible rfl | apply ni_add | apply ni_mul)) (by omega) ?_
          rw [c.lk1 l hl]
          refine gd_ic3 dX1_countingSet_64 ?_
          refine gd_icmp_ne_f 99 dX1_countingSet_65 (by decide) (h3) ?_
          refine gd_ic1 dX1_countingSet_68 ?_
          refine gd_ald0 dX1_countingSet_69 (by decide) ?_
          refine gd_getR (r := 13) dX1_countingSet_70 fl_1_30 rfl rfl rfl (by decide) ?_
          refine gd_ild5 dX1_countingSet_73 ?_
          refine gd_iald (n := 30) dX1_countingSet_75 rfl (by decide) (by repeat' (first | with_reducible rfl | apply ni_add | apply ni_mul)) (by omega) ?_
          rw [c.lf1 l hl, hj]
          refine gd_ishl dX1_countingSet_76 ?_
          refine gd_ist6 dX1_countingSet_77 rfl ?_
          refine gd_ild3 dX1_countingSet_79 ?_
          refine gd_ild4 dX1_countingSet_80 ?_
          refine gd_ior dX1_countingSet_82 ?_
          rw [or_nI]
          refine gd_ild6 dX1_countingSet_83 ?_
          refine gd_iand dX1_countingSet_85 ?_
          refine gd_if_eq_t 92 dX1_countingSet_86 (by decide) ((bit_z (by omega)).mpr (hT.trans hb2)) ?_
          refine gd_ild4 dX1_countingSet_92 ?_
          refine gd_ild6 dX1_countingSet_94 ?_
          refine gd_ior dX1_countingSet_96 ?_
          rw [cp_ye (by omega) hy hc hj]
          refine gd_ist4 dX1_countingSet_97 rfl ?_
          refine gd_ild3 dX1_countingSet_99 ?_
          refine gd_ic1 dX1_countingSet_100 ?_
          refine gd_ild5 dX1_countingSet_101 ?_
          refine gd_ishl dX1_countingSet_103 ?_
          refine gd_ior dX1_countingSet_104 ?_
          rw [cS_ye (by omega) hy]
          refine gd_ist3 dX1_countingSet_105 rfl ?_
          refine gd_iinc5 (b := nI 1) dX1_countingSet_106 (by decide) rfl ?_
          rw [nI_add]
          refine gd_goto 8 dX1_countingSet_109 (by decide) ?_
          exact ih _
        | true =>
          have hno : isC s g l (cB s g l) = false := by rw [hX, hb2]; rfl
          refine gd_ild5 dX1_countingSet_8 ?_
          refine gd_ald0 dX1_countingSet_10 (by decide) ?_
          refine gd_getI dX1_countingSet_11 fl_1_40 rfl rfl ?_
          refine gd_icmp_ge_f 112 dX1_countingSet_14 (by decide) (by rw [c.n1, w.n.1]; exact nI_ge (by omega) (by omega)) ?_
          refine gd_ild5 dX1_countingSet_17 ?_
          refine gd_ild2 dX1_countingSet_19 ?_
          refine gd_icmp_eq_f 106 dX1_countingSet_20 (by decide) (hb.2.2.2) ?_
          refine gd_ald0 dX1_countingSet_23 (by decide) ?_
          refine gd_ild5 dX1_countingSet_24 ?_
          refine gd_cV1i dX1_countingSet_26 ct_1_49 rc_6 ⟨Nat.le_of_ble_eq_true rfl, Nat.le_of_ble_eq_true rfl⟩ (Nat.le_of_ble_eq_true rfl) (Nat.le_of_ble_eq_true rfl) (c_isLost w c hl) ?_
          refine gd_if_ne_f 106 dX1_countingSet_29 (by decide) (bi_e0.mpr (decide_eq_false hb.2.1)) ?_
          refine gd_ald0 dX1_countingSet_32 (by decide) ?_
          refine gd_getR (r := 12) dX1_countingSet_33 fl_1_27 rfl rfl rfl (by decide) ?_
          refine gd_ild5 dX1_countingSet_36 ?_
          refine gd_iald (n := 30) dX1_countingSet_38 rfl (by decide) (by repeat' (first | with_reducible rfl | apply ni_add | apply ni_mul)) (by omega) ?_
          rw [c.lq1 l hl]
          refine gd_ild1 dX1_countingSet_39 ?_
          refine gd_icmp_gt_f 106 dX1_countingSet_40 (by decide) (Int32.not_lt.mpr hb.1) ?_
          refine gd_ald0 dX1_countingSet_43 (by decide) ?_
          refine gd_getR (r := 7) dX1_countingSet_44 fl_1_9 rfl rfl rfl (by decide) ?_
          refine gd_ild5 dX1_countingSet_47 ?_
          refine gd_iald (n := 30) dX1_countingSet_49 rfl (by decide) (by repeat' (first | with_reducible rfl | apply ni_add | apply ni_mul)) (by omega) ?_
          rw [c.lk1 l hl]
          refine gd_ic5 dX1_countingSet_50 ?_
          refine gd_icmp_ne_t 57 dX1_countingSet_51 (by decide) (hb.2.2.1) ?_
          refine gd_ald0 dX1_countingSet_57 (by decide) ?_
          refine gd_getR (r := 7) dX1_countingSet_58 fl_1_9 rfl rfl rfl (by decide) ?_
          refine gd_ild5 dX1_countingSet_61 ?_
          refine gd_iald (n := 30) dX1_countingSet_63 rfl (by decide) (by repeat' (first | with_reducible rfl | apply ni_add | apply ni_mul)) (by omega) ?_
          rw [c.lk1 l hl]
          refine gd_ic3 dX1_countingSet_64 ?_
          refine gd_icmp_ne_f 99 dX1_countingSet_65 (by decide) (h3) ?_
          refine gd_ic1 dX1_countingSet_68 ?_
          refine gd_ald0 dX1_countingSet_69 (by decide) ?_
          refine gd_getR (r := 13) dX1_countingSet_70 fl_1_30 rfl rfl rfl (by decide) ?_
          refine gd_ild5 dX1_countingSet_73 ?_
          refine gd_iald (n := 30) dX1_countingSet_75 rfl (by decide) (by repeat' (first | with_reducible rfl | apply ni_add | apply ni_mul)) (by omega) ?_
          rw [c.lf1 l hl, hj]
          refine gd_ishl dX1_countingSet_76 ?_
          refine gd_ist6 dX1_countingSet_77 rfl ?_
          refine gd_ild3 dX1_countingSet_79 ?_
          refine gd_ild4 dX1_countingSet_80 ?_
          refine gd_ior dX1_countingSet_82 ?_
          rw [or_nI]
          refine gd_ild6 dX1_countingSet_83 ?_
          refine gd_iand dX1_countingSet_85 ?_
          refine gd_if_eq_f 92 dX1_countingSet_86 (by decide) (fun z => by rw [bit_z (by omega), hT, hb2] at z; cases z) ?_
          refine gd_goto 106 dX1_countingSet_89 (by decide) ?_
          refine gd_iinc5 (b := nI 1) dX1_countingSet_106 (by decide) rfl ?_
          rw [nI_add]
          refine gd_goto 8 dX1_countingSet_109 (by decide) ?_
          have z := cS_no (s := s) (g := g) (l := l) hno
          rw [← z.1, ← z.2]
          exact ih _
      · have hc : cop s l = false := decide_eq_false h3
        have hy : isC s g l (cB s g l) = true := by unfold isC; rw [decide_eq_true hb, hc]; rfl
        skip
        refine gd_ild5 dX1_countingSet_8 ?_
        refine gd_ald0 dX1_countingSet_10 (by decide) ?_
        refine gd_getI dX1_countingSet_11 fl_1_40 rfl rfl ?_
        refine gd_icmp_ge_f 112 dX1_countingSet_14 (by decide) (by rw [c.n1, w.n.1]; exact nI_ge (by omega) (by omega)) ?_
        refine gd_ild5 dX1_countingSet_17 ?_
        refine gd_ild2 dX1_countingSet_19 ?_
        refine gd_icmp_eq_f 106 dX1_countingSet_20 (by decide) (hb.2.2.2) ?_
        refine gd_ald0 dX1_countingSet_23 (by decide) ?_
        refine gd_ild5 dX1_countingSet_24 ?_
        refine gd_cV1i dX1_countingSet_26 ct_1_49 rc_6 ⟨Nat.le_of_ble_eq_true rfl, Nat.le_of_ble_eq_true rfl⟩ (Nat.le_of_ble_eq_true rfl) (Nat.le_of_ble_eq_true rfl) (c_isLost w c hl) ?_
        refine gd_if_ne_f 106 dX1_countingSet_29 (by decide) (bi_e0.mpr (decide_eq_false hb.2.1)) ?_
        refine gd_ald0 dX1_countingSet_32 (by decide) ?_
        refine gd_getR (r := 12) dX1_countingSet_33 fl_1_27 rfl rfl rfl (by decide) ?_
        refine gd_ild5 dX1_countingSet_36 ?_
        refine gd_iald (n := 30) dX1_countingSet_38 rfl (by decide) (by repeat' (first | with_reducible rfl | apply ni_add | apply ni_mul)) (by omega) ?_
        rw [c.lq1 l hl]
        refine gd_ild1 dX1_countingSet_39 ?_
        refine gd_icmp_gt_f 106 dX1_countingSet_40 (by decide) (Int32.not_lt.mpr hb.1) ?_
        refine gd_ald0 dX1_countingSet_43 (by decide) ?_
        refine gd_getR (r := 7) dX1_countingSet_44 fl_1_9 rfl rfl rfl (by decide) ?_
        refine gd_ild5 dX1_countingSet_47 ?_
        refine gd_iald (n := 30) dX1_countingSet_49 rfl (by decide) (by repeat' (first | with_reducible rfl | apply ni_add | apply ni_mul)) (by omega) ?_
        rw [c.lk1 l hl]
        refine gd_ic5 dX1_countingSet_50 ?_
        refine gd_icmp_ne_t 57 dX1_countingSet_51 (by decide) (hb.2.2.1) ?_
        refine gd_ald0 dX1_countingSet_57 (by decide) ?_
        refine gd_getR (r := 7) dX1_countingSet_58 fl_1_9 rfl rfl rfl (by decide) ?_
        refine gd_ild5 dX1_countingSet_61 ?_
        refine gd_iald (n := 30) dX1_countingSet_63 rfl (by decide) (by repeat' (first | with_reducible rfl | apply ni_add | apply ni_mul)) (by omega) ?_
        rw [c.lk1 l hl]
        refine gd_ic3 dX1_countingSet_64 ?_
        refine gd_icmp_ne_t 99 dX1_countingSet_65 (by decide) (h3) ?_
        refine gd_ild3 dX1_countingSet_99 ?_
        refine gd_ic1 dX1_countingSet_100 ?_
        refine gd_ild5 dX1_countingSet_101 ?_
        refine gd_ishl dX1_countingSet_103 ?_
        refine gd_ior dX1_countingSet_104 ?_
        rw [cS_ye (by omega) hy]
        refine gd_ist3 dX1_countingSet_105 rfl ?_
        refine gd_iinc5 (b := nI 1) dX1_countingSet_106 (by decide) rfl ?_
        rw [nI_add]
        refine gd_goto 8 dX1_countingSet_109 (by decide) ?_
        rw [cp_no hc] at ih
        exact ih _
    · have hno : isC s g l (cB s g l) = false := by unfold isC; rw [decide_eq_false hb]; rfl
      by_cases q1 : nI l = g
      · refine gd_ild5 dX1_countingSet_8 ?_
        refine gd_ald0 dX1_countingSet_10 (by decide) ?_
        refine gd_getI dX1_countingSet_11 fl_1_40 rfl rfl ?_
        refine gd_icmp_ge_f 112 dX1_countingSet_14 (by decide) (by rw [c.n1, w.n.1]; exact nI_ge (by omega) (by omega)) ?_
        refine gd_ild5 dX1_countingSet_17 ?_
        refine gd_ild2 dX1_countingSet_19 ?_
        refine gd_icmp_eq_t 106 dX1_countingSet_20 (by decide) (q1) ?_
        refine gd_iinc5 (b := nI 1) dX1_countingSet_106 (by decide) rfl ?_
        rw [nI_add]
        refine gd_goto 8 dX1_countingSet_109 (by decide) ?_
        have z := cS_no (s := s) (g := g) (l := l) hno
        rw [← z.1, ← z.2]
        exact ih _
      · by_cases q2 : s 4 (9 * l + 6) = nI 1
        · refine gd_ild5 dX1_countingSet_8 ?_
          refine gd_ald0 dX1_countingSet_10 (by decide) ?_
          refine gd_getI dX1_countingSet_11 fl_1_40 rfl rfl ?_
          refine gd_icmp_ge_f 112 dX1_countingSet_14 (by decide) (by rw [c.n1, w.n.1]; exact nI_ge (by omega) (by omega)) ?_
          refine gd_ild5 dX1_countingSet_17 ?_
          refine gd_ild2 dX1_countingSet_19 ?_
          refine gd_icmp_eq_f 106 dX1_countingSet_20 (by decide) (q1) ?_
          refine gd_ald0 dX1_countingSet_23 (by decide) ?_
          refine gd_ild5 dX1_countingSet_24 ?_
          refine gd_cV1i dX1_countingSet_26 ct_1_49 rc_6 ⟨Nat.le_of_ble_eq_true rfl, Nat.le_of_ble_eq_true rfl⟩ (Nat.le_of_ble_eq_true rfl) (Nat.le_of_ble_eq_true rfl) (c_isLost w c hl) ?_
          refine gd_if_ne_t 106 dX1_countingSet_29 (by decide) (bi_n0.mpr (decide_eq_true q2)) ?_
          refine gd_iinc5 (b := nI 1) dX1_countingSet_106 (by decide) rfl ?_
          rw [nI_add]
          refine gd_goto 8 dX1_countingSet_109 (by decide) ?_
          have z := cS_no (s := s) (g := g) (l := l) hno
          rw [← z.1, ← z.2]
          exact ih _
        · by_cases q3 : s 4 (9 * l + 5) ≤ s 0 4
          · by_cases q4 : s 4 (9 * l) = nI 5
            · refine gd_ild5 dX1_countingSet_8 ?_
              refine gd_ald0 dX1_countingSet_10 (by decide) ?_
              refine gd_getI dX1_countingSet_11 fl_1_40 rfl rfl ?_
              refine gd_icmp_ge_f 112 dX1_countingSet_14 (by decide) (by rw [c.n1, w.n.1]; exact nI_ge (by omega) (by omega)) ?_
              refine gd_ild5 dX1_countingSet_17 ?_
              refine gd_ild2 dX1_countingSet_19 ?_
              refine gd_icmp_eq_f 106 dX1_countingSet_20 (by decide) (q1) ?_
              refine gd_ald0 dX1_countingSet_23 (by decide) ?_
              refine gd_ild5 dX1_countingSet_24 ?_
              refine gd_cV1i dX1_countingSet_26 ct_1_49 rc_6 ⟨Nat.le_of_ble_eq_true rfl, Nat.le_of_ble_eq_true rfl⟩ (Nat.le_of_ble_eq_true rfl) (Nat.le_of_ble_eq_true rfl) (c_isLost w c hl) ?_
              refine gd_if_ne_f 106 dX1_countingSet_29 (by decide) (bi_e0.mpr (decide_eq_false q2)) ?_
              refine gd_ald0 dX1_countingSet_32 (by decide) ?_
              refine gd_getR (r := 12) dX1_countingSet_33 fl_1_27 rfl rfl rfl (by decide) ?_
              refine gd_ild5 dX1_countingSet_36 ?_
              refine gd_iald (n := 30) dX1_countingSet_38 rfl (by decide) (by repeat' (first | with_reducible rfl | apply ni_add | apply ni_mul)) (by omega) ?_
              rw [c.lq1 l hl]
              refine gd_ild1 dX1_countingSet_39 ?_
              refine gd_icmp_gt_f 106 dX1_countingSet_40 (by decide) (Int32.not_lt.mpr q3) ?_
              refine gd_ald0 dX1_countingSet_43 (by decide) ?_
              refine gd_getR (r := 7) dX1_countingSet_44 fl_1_9 rfl rfl rfl (by decide) ?_
              refine gd_ild5 dX1_countingSet_47 ?_
              refine gd_iald (n := 30) dX1_countingSet_49 rfl (by decide) (by repeat' (first | with_reducible rfl | apply ni_add | apply ni_mul)) (by omega) ?_
              rw [c.lk1 l hl]
              refine gd_ic5 dX1_countingSet_50 ?_
              refine gd_icmp_ne_f 57 dX1_countingSet_51 (by decide) (q4) ?_
              refine gd_goto 106 dX1_countingSet_54 (by decide) ?_
              refine gd_iinc5 (b := nI 1) dX1_countingSet_106 (by decide) rfl ?_
              rw [nI_add]
              refine gd_goto 8 dX1_countingSet_109 (by decide) ?_
              have z := cS_no (s := s) (g := g) (l := l) hno
              rw [← z.1, ← z.2]
              exact ih _
            · exact absurd ⟨q3, q2, q4, q1⟩ hb
          · refine gd_ild5 dX1_countingSet_8 ?_
            refine gd_ald0 dX1_countingSet_10 (by decide) ?_
            refine gd_getI dX1_countingSet_11 fl_1_40 rfl rfl ?_
            refine gd_icmp_ge_f 112 dX1_countingSet_14 (by decide) (by rw [c.n1, w.n.1]; exact nI_ge (by omega) (by omega)) ?_
            refine gd_ild5 dX1_countingSet_17 ?_
            refine gd_ild2 dX1_countingSet_19 ?_
            refine gd_icmp_eq_f 106 dX1_countingSet_20 (by decide) (q1) ?_
            refine gd_ald0 dX1_countingSet_23 (by decide) ?_
            refine gd_ild5 dX1_countingSet_24 ?_
            refine gd_cV1i dX1_countingSet_26 ct_1_49 rc_6 ⟨Nat.le_of_ble_eq_true rfl, Nat.le_of_ble_eq_true rfl⟩ (Nat.le_of_ble_eq_true rfl) (Nat.le_of_ble_eq_true rfl) (c_isLost w c hl) ?_
            refine gd_if_ne_f 106 dX1_countingSet_29 (by decide) (bi_e0.mpr (decide_eq_false q2)) ?_
            refine gd_ald0 dX1_countingSet_32 (by decide) ?_
            refine gd_getR (r := 12) dX1_countingSet_33 fl_1_27 rfl rfl rfl (by decide) ?_
            refine gd_ild5 dX1_countingSet_36 ?_
            refine gd_iald (n := 30) dX1_countingSet_38 rfl (by decide) (by repeat' (first | with_reducible rfl | apply ni_add | apply ni_mul)) (by omega) ?_
            rw [c.lq1 l hl]
            refine gd_ild1 dX1_countingSet_39 ?_
            refine gd_icmp_gt_t 106 dX1_countingSet_40 (by decide) (Int32.not_le.mp q3) ?_
            refine gd_iinc5 (b := nI 1) dX1_countingSet_106 (by decide) rfl ?_
            rw [nI_add]
            refine gd_goto 8 dX1_countingSet_109 (by decide) ?_
            have z := cS_no (s := s) (g := g) (l := l) hno
            rw [← z.1, ← z.2]
            exact ih _
theorem c_counting {h : Hp} {s : Nat → Nat → Int32} (w : WF s) (c : CR h 1 s) (g : Int32) : Gd mX7_countingSet 0 [.ref 1, .int g] [] h (some (.int (nI (cS s g))), h) := by
  refine gd_ald0 dX7_countingSet_0 (by decide) ?_
  refine gd_getR (r := 6) dX7_countingSet_1 fl_7_21 rfl rfl rfl (by decide) ?_
  refine gd_ald0 dX7_countingSet_4 (by decide) ?_
  refine gd_getR (r := 2) dX7_countingSet_5 fl_7_12 rfl rfl rfl (by decide) ?_
  refine gd_getI dX7_countingSet_8 fl_7_56 rfl rfl ?_
  rw [c.d1]
  refine gd_ild1 dX7_countingSet_11 ?_
  refine gd_cV2i dX7_countingSet_12 ct_7_60 rc_6 ⟨Nat.le_of_ble_eq_true rfl, Nat.le_of_ble_eq_true rfl⟩ (Nat.le_of_ble_eq_true rfl) (Nat.le_of_ble_eq_true rfl) (c_countL w c g) ?_
  refine gd_iret dX7_countingSet_15 rfl rfl ?_
  rfl

def dcR (s : Nat → Nat → Int32) (g : Int32) (f : Nat → Int32) (n : Nat) : Nat → Int32 := fun j => if j < n then bi (cB s g n j) else f j
theorem dcR_0 (s : Nat → Nat → Int32) (g : Int32) (f : Nat → Int32) : dcR s g f 0 = f := by funext j; unfold dcR; rw [if_neg (by omega)]
theorem dcR_s {s : Nat → Nat → Int32} {g : Int32} {f : Nat → Int32} {n : Nat} : upd (dcR s g f n) n (bi (isC s g n (cB s g n))) = dcR s g f (n + 1) := by
  funext j
  rw [upd_at]
  unfold dcR
  by_cases e : j = n
  · rw [if_pos e, if_pos (by omega), e, cB_n]
  · rw [if_neg e]
    by_cases e2 : j < n
    · rw [if_pos e2, if_pos (by omega), cB_o e]
    · rw [if_neg e2, if_neg (by omega)]
theorem dcR_at {s : Nat → Nat → Int32} {g : Int32} {f : Nat → Int32} {n j : Nat} (h : j < n) : dcR s g f n j = bi (cB s g n j) := if_pos h
theorem m_cbase {h : Hp} (w : WF (ms h)) {g : Int32} {l : Nat} (hl : l < nN (ms h)) {u u2 : Value} {x : Option Value × Hp} (k : Gd mX9_count 57 [.ref 72, .int g, .int (nI l), u, u2] [.int (bi (decide (baseP (ms h) g l)))] (sI h 82 (dcR (ms h) g (h.1 82) l)) x) : Gd mX9_count 12 [.ref 72, .int g, .int (nI l), u, u2] [] (sI h 82 (dcR (ms h) g (h.1 82) l)) x := by
  have lN := w.n.2
  obtain ⟨_, _, _, _, _, _, z0, _, _, _, _, _, _, _, a7, _, _, _, _, _, _, _, b7, _⟩ := w.l l hl
  have hlost : ¬ ms h 4 (9 * l + 6) = 0 ↔ ms h 4 (9 * l + 6) = nI 1 := by
    rw [a7, nI_z (by omega), nI_eq (by omega) (by decide)]; omega
  refine gd_ald0 dX9_count_12 (by decide) ?_
  refine gd_ild2 dX9_count_13 ?_
  refine gd_ic5 dX9_count_14 ?_
  refine gd_cV2i dX9_count_15 ct_9_120 rc_72 ⟨Nat.le_of_ble_eq_true rfl, Nat.le_of_ble_eq_true rfl⟩ (Nat.le_of_ble_eq_true rfl) (Nat.le_of_ble_eq_true rfl) (m_its (l := l) (w := 5) (by omega) (by decide) _) ?_
  rw [show (sI h 82 (dcR (ms h) g (h.1 82) l)).1 78 (9 * l + 5) = ms h 4 (9 * l + 5) from (ms_r4 (by omega)).symm]
  refine gd_ald0 dX9_count_18 (by decide) ?_
  refine gd_getR (r := 74) dX9_count_19 fl_9_13 rfl rfl rfl (by decide) ?_
  refine gd_ic4 dX9_count_22 ?_
  refine gd_iald (n := 5) dX9_count_23 rfl (by decide) (by repeat' (first | with_reducible rfl | apply ni_add | apply ni_mul)) (by omega) ?_
  rw [show (sI h 82 (dcR (ms h) g (h.1 82) l)).1 74 4 = ms h 0 4 from (ms_r0 (by decide)).symm]
  refine gd_icmp_gt 56 dX9_count_24 (by decide) (fun c24 => ?_) (fun c24 => ?_)
  · refine gd_ic0 dX9_count_56 ?_
    rw [bi_df (fun z => absurd z.1 (Int32.not_le.mpr c24))] at k
    exact k
  · refine gd_ald0 dX9_count_27 (by decide) ?_
    refine gd_ild2 dX9_count_28 ?_
    refine gd_bipush (v := nI 6) dX9_count_29 (by decide) ?_
    refine gd_cV2i dX9_count_31 ct_9_120 rc_72 ⟨Nat.le_of_ble_eq_true rfl, Nat.le_of_ble_eq_true rfl⟩ (Nat.le_of_ble_eq_true rfl) (Nat.le_of_ble_eq_true rfl) (m_its (l := l) (w := 6) (by omega) (by decide) _) ?_
    rw [show (sI h 82 (dcR (ms h) g (h.1 82) l)).1 78 (9 * l + 6) = ms h 4 (9 * l + 6) from (ms_r4 (by omega)).symm]
    refine gd_if_ne 56 dX9_count_34 (by decide) (fun c34 => ?_) (fun c34 => ?_)
    · refine gd_ic0 dX9_count_56 ?_
      rw [bi_df (fun z => z.2.1 (hlost.mp c34))] at k
      exact k
    · refine gd_ald0 dX9_count_37 (by decide) ?_
      refine gd_ild2 dX9_count_38 ?_
      refine gd_ic0 dX9_count_39 ?_
      refine gd_cV2i dX9_count_40 ct_9_120 rc_72 ⟨Nat.le_of_ble_eq_true rfl, Nat.le_of_ble_eq_true rfl⟩ (Nat.le_of_ble_eq_true rfl) (Nat.le_of_ble_eq_true rfl) (m_its (l := l) (w := 0) (by omega) (by decide) _) ?_
      rw [show (sI h 82 (dcR (ms h) g (h.1 82) l)).1 78 (9 * l + 0) = ms h 4 (9 * l) from (ms_r4 (by omega)).symm]
      refine gd_ic5 dX9_count_43 ?_
      refine gd_icmp_eq 56 dX9_count_44 (by decide) (fun c44 => ?_) (fun c44 => ?_)
      · refine gd_ic0 dX9_count_56 ?_
        rw [bi_df (fun z => z.2.2.1 c44)] at k
        exact k
      · refine gd_ild2 dX9_count_47 ?_
        refine gd_ild1 dX9_count_48 ?_
        refine gd_icmp_eq 56 dX9_count_49 (by decide) (fun c49 => ?_) (fun c49 => ?_)
        · refine gd_ic0 dX9_count_56 ?_
          rw [bi_df (fun z => z.2.2.2 c49)] at k
          exact k
        · refine gd_ic1 dX9_count_52 ?_
          refine gd_goto 57 dX9_count_53 (by decide) ?_
          rw [bi_dt ⟨Int32.not_lt.mp c24, fun z => absurd c34 (hlost.mpr z), c44, c49⟩] at k
          exact k
theorem m_cinner {h : Hp} (w : WF (ms h)) {g : Int32} {l j : Nat} (hl : l < nN (ms h)) (hj : j < l) {x : Option Value × Hp} (k : ∀ u, Gd mX9_count 157 [.ref 72, .int g, .int (nI l), .int (bi (!(cB (ms h) g l j) && allN (cpl (ms h) (cB (ms h) g l) l) l)), u] [] (sI h 82 (dcR (ms h) g (h.1 82) l)) x) : Gd mX9_count 96 [.ref 72, .int g, .int (nI l), .int (bi (!(cB (ms h) g l j) && allN (cpl (ms h) (cB (ms h) g l) l) 0)), .int (nI 0)] [] (sI h 82 (dcR (ms h) g (h.1 82) l)) x := by
  have lN := w.n.2
  refine loopG (P := fun q => Gd mX9_count 96 [.ref 72, .int g, .int (nI l), .int (bi (!(cB (ms h) g l j) && allN (cpl (ms h) (cB (ms h) g l) l) q)), .int (nI q)] [] (sI h 82 (dcR (ms h) g (h.1 82) l)) x) (n := l) ?_ ?_ 0 (by omega)
  · refine gd_ild4 dX9_count_96 ?_
    refine gd_ild2 dX9_count_98 ?_
    refine gd_icmp_ge_t 157 dX9_count_99 (by decide) (by exact nI_le (by omega) (by omega)) ?_
    exact k _
  · intro q hq ih
    have e1 : (!(cB (ms h) g l j) && allN (cpl (ms h) (cB (ms h) g l) l) (q + 1)) = ((!(cB (ms h) g l j) && allN (cpl (ms h) (cB (ms h) g l) l) q) && cpl (ms h) (cB (ms h) g l) l q) := by show (_ && (_ && _)) = _; rw [Bool.and_assoc]
    rw [e1] at ih
    cases hp : (!(cB (ms h) g l j) && allN (cpl (ms h) (cB (ms h) g l) l) q) with
    | false =>
      rw [hp] at ih
      rw [show (false && cpl (ms h) (cB (ms h) g l) l q) = false from rfl] at ih
      refine gd_ild4 dX9_count_96 ?_
      refine gd_ild2 dX9_count_98 ?_
      refine gd_icmp_ge_f 157 dX9_count_99 (by decide) (by exact nI_ge (by omega) (by omega)) ?_
      refine gd_ild3 dX9_count_102 ?_
      refine gd_if_eq_t 149 dX9_count_103 (by decide) (by decide) ?_
      refine gd_ic0 dX9_count_149 ?_
      refine gd_ist3 dX9_count_150 rfl ?_
      refine gd_iinc4 (b := nI 1) dX9_count_151 (by decide) rfl ?_
      rw [nI_add]
      refine gd_goto 96 dX9_count_154 (by decide) ?_
      exact ih
    | true =>
      rw [hp, Bool.true_and] at ih
      unfold cpl at ih
      cases hb : cB (ms h) g l q with
      | false =>
        rw [hb] at ih
        refine gd_ild4 dX9_count_96 ?_
        refine gd_ild2 dX9_count_98 ?_
        refine gd_icmp_ge_f 157 dX9_count_99 (by decide) (by exact nI_ge (by omega) (by omega)) ?_
        refine gd_ild3 dX9_count_102 ?_
        refine gd_if_eq_f 149 dX9_count_103 (by decide) (by decide) ?_
        refine gd_ald0 dX9_count_106 (by decide) ?_
        refine gd_getR (r := 82) dX9_count_107 fl_9_37 rfl rfl rfl (by decide) ?_
        refine gd_ild4 dX9_count_110 ?_
        refine gd_zald (n := 30) dX9_count_112 rfl (by decide) (by repeat' (first | with_reducible rfl | apply ni_add | apply ni_mul)) (by omega) ?_
        rw [show (sI h 82 (dcR (ms h) g (h.1 82) l)).1 82 q = bi (cB (ms h) g l q) by rw [sI_s]; exact dcR_at hq]
        refine gd_if_eq_t 145 dX9_count_113 (by decide) (by rw [hb]; decide) ?_
        refine gd_ic1 dX9_count_145 ?_
        refine gd_goto 150 dX9_count_146 (by decide) ?_
        refine gd_ist3 dX9_count_150 rfl ?_
        refine gd_iinc4 (b := nI 1) dX9_count_151 (by decide) rfl ?_
        rw [nI_add]
        refine gd_goto 96 dX9_count_154 (by decide) ?_
        exact ih
      | true =>
        rw [hb, Bool.true_and] at ih
        by_cases h3 : ms h 4 (9 * q) = nI 3
        · rw [show cop (ms h) q = true from decide_eq_true h3, Bool.true_and] at ih
          by_cases h7 : ms h 4 (9 * q + 7) = ms h 4 (9 * l + 7)
          · rw [decide_eq_true h7] at ih
            refine gd_ild4 dX9_count_96 ?_
            refine gd_ild2 dX9_count_98 ?_
            refine gd_icmp_ge_f 157 dX9_count_99 (by decide) (by exact nI_ge (by omega) (by omega)) ?_
            refine gd_ild3 dX9_count_102 ?_
            refine gd_if_eq_f 149 dX9_count_103 (by decide) (by decide) ?_
            refine gd_ald0 dX9_count_106 (by decide) ?_
            refine gd_getR (r := 82) dX9_count_107 fl_9_37 rfl rfl rfl (by decide) ?_
            refine gd_ild4 dX9_count_110 ?_
            refine gd_zald (n := 30) dX9_count_112 rfl (by decide) (by repeat' (first | with_reducible rfl | apply ni_add | apply ni_mul)) (by omega) ?_
            rw [show (sI h 82 (dcR (ms h) g (h.1 82) l)).1 82 q = bi (cB (ms h) g l q) by rw [sI_s]; exact dcR_at hq]
            refine gd_if_eq_f 145 dX9_count_113 (by decide) (by rw [hb]; decide) ?_
            refine gd_ald0 dX9_count_116 (by decide) ?_
            refine gd_ild4 dX9_count_117 ?_
            refine gd_ic0 dX9_count_119 ?_
            refine gd_cV2i dX9_count_120 ct_9_120 rc_72 ⟨Nat.le_of_ble_eq_true rfl, Nat.le_of_ble_eq_true rfl⟩ (Nat.le_of_ble_eq_true rfl) (Nat.le_of_ble_eq_true rfl) (m_its (l := q) (w := 0) (by omega) (by decide) _) ?_
            rw [show (sI h 82 (dcR (ms h) g (h.1 82) l)).1 78 (9 * q + 0) = ms h 4 (9 * q) from (ms_r4 (by omega)).symm]
            refine gd_ic3 dX9_count_123 ?_
            refine gd_icmp_ne_f 145 dX9_count_124 (by decide) (h3) ?_
            refine gd_ald0 dX9_count_127 (by decide) ?_
            refine gd_ild4 dX9_count_128 ?_
            refine gd_bipush (v := nI 7) dX9_count_130 (by decide) ?_
            refine gd_cV2i dX9_count_132 ct_9_120 rc_72 ⟨Nat.le_of_ble_eq_true rfl, Nat.le_of_ble_eq_true rfl⟩ (Nat.le_of_ble_eq_true rfl) (Nat.le_of_ble_eq_true rfl) (m_its (l := q) (w := 7) (by omega) (by decide) _) ?_
            rw [show (sI h 82 (dcR (ms h) g (h.1 82) l)).1 78 (9 * q + 7) = ms h 4 (9 * q + 7) from (ms_r4 (by omega)).symm]
            refine gd_ald0 dX9_count_135 (by decide) ?_
            refine gd_ild2 dX9_count_136 ?_
            refine gd_bipush (v := nI 7) dX9_count_137 (by decide) ?_
            refine gd_cV2i dX9_count_139 ct_9_120 rc_72 ⟨Nat.le_of_ble_eq_true rfl, Nat.le_of_ble_eq_true rfl⟩ (Nat.le_of_ble_eq_true rfl) (Nat.le_of_ble_eq_true rfl) (m_its (l := l) (w := 7) (by omega) (by decide) _) ?_
            rw [show (sI h 82 (dcR (ms h) g (h.1 82) l)).1 78 (9 * l + 7) = ms h 4 (9 * l + 7) from (ms_r4 (by omega)).symm]
            refine gd_icmp_eq_t 149 dX9_count_142 (by decide) (h7) ?_
            refine gd_ic0 dX9_count_149 ?_
            refine gd_ist3 dX9_count_150 rfl ?_
            refine gd_iinc4 (b := nI 1) dX9_count_151 (by decide) rfl ?_
            rw [nI_add]
            refine gd_goto 96 dX9_count_154 (by decide) ?_
            exact ih
          · rw [decide_eq_false h7] at ih
            refine gd_ild4 dX9_count_96 ?_
            refine gd_ild2 dX9_count_98 ?_
            refine gd_icmp_ge_f 157 dX9_count_99 (by decide) (by exact nI_ge (by omega) (by omega)) ?_
            refine gd_ild3 dX9_count_102 ?_
            refine gd_if_eq_f 149 dX9_count_103 (by decide) (by decide) ?_
            refine gd_ald0 dX9_count_106 (by decide) ?_
            refine gd_getR (r := 82) dX9_count_107 fl_9_37 rfl rfl rfl (by decide) ?_
            refine gd_ild4 dX9_count_110 ?_
            refine gd_zald (n := 30) dX9_count_112 rfl (by decide) (by repeat' (first | with_reducible rfl | apply ni_add | apply ni_mul)) (by omega) ?_
            rw [show (sI h 82 (dcR (ms h) g (h.1 82) l)).1 82 q = bi (cB (ms h) g l q) by rw [sI_s]; exact dcR_at hq]
            refine gd_if_eq_f 145 dX9_count_113 (by decide) (by rw [hb]; decide) ?_
            refine gd_ald0 dX9_count_116 (by decide) ?_
            refine gd_ild4 dX9_count_117 ?_
            refine gd_ic0 dX9_count_119 ?_
            refine gd_cV2i dX9_count_120 ct_9_120 rc_72 ⟨Nat.le_of_ble_eq_true rfl, Nat.le_of_ble_eq_true rfl⟩ (Nat.le_of_ble_eq_true rfl) (Nat.le_of_ble_eq_true rfl) (m_its (l := q) (w := 0) (by omega) (by decide) _) ?_
            rw [show (sI h 82 (dcR (ms h) g (h.1 82) l)).1 78 (9 * q + 0) = ms h 4 (9 * q) from (ms_r4 (by omega)).symm]
            refine gd_ic3 dX9_count_123 ?_
            refine gd_icmp_ne_f 145 dX9_count_124 (by decide) (h3) ?_
            refine gd_ald0 dX9_count_127 (by decide) ?_
            refine gd_ild4 dX9_count_128 ?_
            refine gd_bipush (v := nI 7) dX9_count_130 (by decide) ?_
            refine gd_cV2i dX9_count_132 ct_9_120 rc_72 ⟨Nat.le_of_ble_eq_true rfl, Nat.le_of_ble_eq_true rfl⟩ (Nat.le_of_ble_eq_true rfl) (Nat.le_of_ble_eq_true rfl) (m_its (l := q) (w := 7) (by omega) (by decide) _) ?_
            rw [show (sI h 82 (dcR (ms h) g (h.1 82) l)).1 78 (9 * q + 7) = ms h 4 (9 * q + 7) from (ms_r4 (by omega)).symm]
            refine gd_ald0 dX9_count_135 (by decide) ?_
            refine gd_ild2 dX9_count_136 ?_
            refine gd_bipush (v := nI 7) dX9_count_137 (by decide) ?_
            refine gd_cV2i dX9_count_139 ct_9_120 rc_72 ⟨Nat.le_of_ble_eq_true rfl, Nat.le_of_ble_eq_true rfl⟩ (Nat.le_of_ble_eq_true rfl) (Nat.le_of_ble_eq_true rfl) (m_its (l := l) (w := 7) (by omega) (by decide) _) ?_
            rw [show (sI h 82 (dcR (ms h) g (h.1 82) l)).1 78 (9 * l + 7) = ms h 4 (9 * l + 7) from (ms_r4 (by omega)).symm]
            refine gd_icmp_eq_f 149 dX9_count_142 (by decide) (h7) ?_
            refine gd_ic1 dX9_count_145 ?_
            refine gd_goto 150 dX9_count_146 (by decide) ?_
            refine gd_ist3 dX9_count_150 rfl ?_
            refine gd_iinc4 (b := nI 1) dX9_count_151 (by decide) rfl ?_
            rw [nI_add]
            refine gd_goto 96 dX9_count_154 (by decide) ?_
            exact ih
        · rw [show cop (ms h) q = false from decide_eq_false h3] at ih
          refine gd_ild4 dX9_count_96 ?_
          refine gd_ild2 dX9_count_98 ?_
          refine gd_icmp_ge_f 157 dX9_count_99 (by decide) (by exact nI_ge (by omega) (by omega)) ?_
          refine gd_ild3 dX9_count_102 ?_
          refine gd_if_eq_f 149 dX9_count_103 (by decide) (by decide) ?_
          refine gd_ald0 dX9_count_106 (by decide) ?_
          refine gd_getR (r := 82) dX9_count_107 fl_9_37 rfl rfl rfl (by decide) ?_
          refine gd_ild4 dX9_count_110 ?_
          refine gd_zald (n := 30) dX9_count_112 rfl (by decide) (by repeat' (first | with_reducible rfl | apply ni_add | apply ni_mul)) (by omega) ?_
          rw [show (sI h 82 (dcR (ms h) g (h.1 82) l)).1 82 q = bi (cB (ms h) g l q) by rw [sI_s]; exact dcR_at hq]
          refine gd_if_eq_f 145 dX9_count_113 (by decide) (by rw [hb]; decide) ?_
          refine gd_ald0 dX9_count_116 (by decide) ?_
          refine gd_ild4 dX9_count_117 ?_
          refine gd_ic0 dX9_count_119 ?_
          refine gd_cV2i dX9_count_120 ct_9_120 rc_72 ⟨Nat.le_of_ble_eq_true rfl, Nat.le_of_ble_eq_true rfl⟩ (Nat.le_of_ble_eq_true rfl) (Nat.le_of_ble_eq_true rfl) (m_its (l := q) (w := 0) (by omega) (by decide) _) ?_
          rw [show (sI h 82 (dcR (ms h) g (h.1 82) l)).1 78 (9 * q + 0) = ms h 4 (9 * q) from (ms_r4 (by omega)).symm]
          refine gd_ic3 dX9_count_123 ?_
          refine gd_icmp_ne_t 145 dX9_count_124 (by decide) (h3) ?_
          refine gd_ic1 dX9_count_145 ?_
          refine gd_goto 150 dX9_count_146 (by decide) ?_
          refine gd_ist3 dX9_count_150 rfl ?_
          refine gd_iinc4 (b := nI 1) dX9_count_151 (by decide) rfl ?_
          rw [nI_add]
          refine gd_goto 96 dX9_count_154 (by decide) ?_
          exact ih
theorem m_count {h : Hp} (w : WF (ms h)) (g : Int32) : Gd mX9_count 0 [.ref 72, .int g, .null, .null, .null] [] h (none, sI h 82 (dcR (ms h) g (h.1 82) (nN (ms h)))) := by
  have lN := w.n.2
  have eN : ∀ f, (sI h 82 f).1 74 1 = nI (nN (ms h)) := fun f => by show h.1 74 1 = _; rw [← w.n.1, ms_r0 (by decide)]
  have key := loopG (P := fun l => ∀ u u2, Gd mX9_count 2 [.ref 72, .int g, .int (nI l), u, u2] [] (sI h 82 (dcR (ms h) g (h.1 82) l)) (none, sI h 82 (dcR (ms h) g (h.1 82) (nN (ms h))))) (n := nN (ms h)) ?_ ?_ 0 (by omega)
  · rw [dcR_0, sI_id] at key
    refine gd_ic0 dX9_count_0 ?_
    refine gd_ist2 dX9_count_1 rfl ?_
    exact key _ _
  · intro u u2
    refine gd_ild2 dX9_count_2 ?_
    refine gd_ald0 dX9_count_3 (by decide) ?_
    refine gd_getR (r := 74) dX9_count_4 fl_9_13 rfl rfl rfl (by decide) ?_
    refine gd_ic1 dX9_count_7 ?_
    refine gd_iald (n := 5) dX9_count_8 rfl (by decide) (by repeat' (first | with_reducible rfl | apply ni_add | apply ni_mul)) (by omega) ?_
    rw [eN]
    refine gd_icmp_ge_t 170 dX9_count_9 (by decide) (by exact nI_le (by omega) (by omega)) ?_
    refine gd_vret dX9_count_170 rfl ?_
    rfl
  · intro l hl ih u u2
    obtain ⟨k0, t0, x0, d0, r0, q0, z0, e0, a1, a2, a3, a4, a5, a6, a7, a8, b1, b2, b3, b4, b5, b6, b7, b8, b9, b10⟩ := w.l l hl
    refine gd_ild2 dX9_count_2 ?_
    refine gd_ald0 dX9_count_3 (by decide) ?_
    refine gd_getR (r := 74) dX9_count_4 fl_9_13 rfl rfl rfl (by decide) ?_
    refine gd_ic1 dX9_count_7 ?_
    refine gd_iald (n := 5) dX9_count_8 rfl (by decide) (by repeat' (first | with_reducible rfl | apply ni_add | apply ni_mul)) (by omega) ?_
    rw [eN]
    refine gd_icmp_ge_f 170 dX9_count_9 (by decide) (by exact nI_ge (by omega) (by omega)) ?_
    refine m_cbase w hl ?_
    by_cases hb : baseP (ms h) g l
    · by_cases h3 : ms h 4 (9 * l) = nI 3
      · have hc : cop (ms h) l = true := decide_eq_true h3
        obtain ⟨j, hjl, hj⟩ : ∃ j, j < l ∧ ms h 4 (9 * l + 7) = nI j := by
          have k3 : k0 = 3 := (nI_eq (by omega) (by decide)).mp (a1.symm.trans h3)
          exact b9.resolve_left (b10 k3)
        have tj : tn (ms h 4 (9 * l + 7)) = j := by rw [hj, tn_nI (by omega)]
        have hX : isC (ms h) g l (cB (ms h) g l) = (!(cB (ms h) g l j) && allN (cpl (ms h) (cB (ms h) g l) l) l) := by
          unfold isC
          rw [decide_eq_true hb, hc, tj]
          rfl
        rw [bi_dt hb]
        cases hv : cB (ms h) g l j with
        | false =>
          refine gd_ist3 dX9_count_57 rfl ?_
          refine gd_ild3 dX9_count_58 ?_
          refine gd_if_eq_f 157 dX9_count_59 (by decide) (by decide) ?_
          refine gd_ald0 dX9_count_62 (by decide) ?_
          refine gd_ild2 dX9_count_63 ?_
          refine gd_ic0 dX9_count_64 ?_
          refine gd_cV2i dX9_count_65 ct_9_120 rc_72 ⟨Nat.le_of_ble_eq_true rfl, Nat.le_of_ble_eq_true rfl⟩ (Nat.le_of_ble_eq_true rfl) (Nat.le_of_ble_eq_true rfl) (m_its (l := l) (w := 0) (by omega) (by decide) _) ?_
          rw [show (sI h 82 (dcR (ms h) g (h.1 82) l)).1 78 (9 * l + 0) = ms h 4 (9 * l) from (ms_r4 (by omega)).symm]
          refine gd_ic3 dX9_count_68 ?_
          refine gd_icmp_ne_f 157 dX9_count_69 (by decide) (h3) ?_
          refine gd_ald0 dX9_count_72 (by decide) ?_
          refine gd_getR (r := 82) dX9_count_73 fl_9_37 rfl rfl rfl (by decide) ?_
          refine gd_ald0 dX9_count_76 (by decide) ?_
          refine gd_ild2 dX9_count_77 ?_
          refine gd_bipush (v := nI 7) dX9_count_78 (by decide) ?_
          refine gd_cV2i dX9_count_80 ct_9_120 rc_72 ⟨Nat.le_of_ble_eq_true rfl, Nat.le_of_ble_eq_true rfl⟩ (Nat.le_of_ble_eq_true rfl) (Nat.le_of_ble_eq_true rfl) (m_its (l := l) (w := 7) (by omega) (by decide) _) ?_
          rw [show (sI h 82 (dcR (ms h) g (h.1 82) l)).1 78 (9 * l + 7) = nI j by rw [← hj]; exact (ms_r4 (by omega)).symm]
          refine gd_zald (n := 30) dX9_count_83 rfl (by decide) (by repeat' (first | with_reducible rfl | apply ni_add | apply ni_mul)) (by omega) ?_
          rw [show (sI h 82 (dcR (ms h) g (h.1 82) l)).1 82 j = bi (cB (ms h) g l j) by rw [sI_s]; exact dcR_at hjl]
          refine gd_if_ne_f 91 dX9_count_84 (by decide) (by rw [hv]; decide) ?_
          refine gd_ic1 dX9_count_87 ?_
          refine gd_goto 92 dX9_count_88 (by decide) ?_
          refine gd_ist3 dX9_count_92 rfl ?_
          refine gd_ic0 dX9_count_93 ?_
          refine gd_ist4 dX9_count_94 rfl ?_
          suffices kk : Gd mX9_count 96 [.ref 72, .int g, .int (nI l), .int (bi (!(cB (ms h) g l j) && allN (cpl (ms h) (cB (ms h) g l) l) 0)), .int (nI 0)] [] (sI h 82 (dcR (ms h) g (h.1 82) l)) (none, sI h 82 (dcR (ms h) g (h.1 82) (nN (ms h)))) by
            rw [show bi (!(cB (ms h) g l j) && allN (cpl (ms h) (cB (ms h) g l) l) 0) = nI 1 by rw [hv]; rfl] at kk
            exact kk
          refine m_cinner w hl hjl (fun u3 => ?_)
          refine gd_ald0 dX9_count_157 (by decide) ?_
          refine gd_getR (r := 82) dX9_count_158 fl_9_37 rfl rfl rfl (by decide) ?_
          refine gd_ild2 dX9_count_161 ?_
          refine gd_ild3 dX9_count_162 ?_
          refine gd_zast (n := 30) dX9_count_163 rfl (by decide) (by repeat' (first | with_reducible rfl | apply ni_add | apply ni_mul)) (by omega) (by first | exact Or.inl rfl | exact Or.inr rfl | exact bi_z _ | assumption) ?_
          rw [sI_s, ← hX, dcR_s, sI_sI]
          refine gd_iinc2 (b := nI 1) dX9_count_164 (by decide) rfl ?_
          rw [nI_add]
          refine gd_goto 2 dX9_count_167 (by decide) ?_
          exact ih _ _
        | true =>
          refine gd_ist3 dX9_count_57 rfl ?_
          refine gd_ild3 dX9_count_58 ?_
          refine gd_if_eq_f 157 dX9_count_59 (by decide) (by decide) ?_
          refine gd_ald0 dX9_count_62 (by decide) ?_
          refine gd_ild2 dX9_count_63 ?_
          refine gd_ic0 dX9_count_64 ?_
          refine gd_cV2i dX9_count_65 ct_9_120 rc_72 ⟨Nat.le_of_ble_eq_true rfl, Nat.le_of_ble_eq_true rfl⟩ (Nat.le_of_ble_eq_true rfl) (Nat.le_of_ble_eq_true rfl) (m_its (l := l) (w := 0) (by omega) (by decide) _) ?_
          rw [show (sI h 82 (dcR (ms h) g (h.1 82) l)).1 78 (9 * l + 0) = ms h 4 (9 * l) from (ms_r4 (by omega)).symm]
          refine gd_ic3 dX9_count_68 ?_
          refine gd_icmp_ne_f 157 dX9_count_69 (by decide) (h3) ?_
          refine gd_ald0 dX9_count_72 (by decide) ?_
          refine gd_getR (r := 82) dX9_count_73 fl_9_37 rfl rfl rfl (by decide) ?_
          refine gd_ald0 dX9_count_76 (by decide) ?_
          refine gd_ild2 dX9_count_77 ?_
          refine gd_bipush (v := nI 7) dX9_count_78 (by decide) ?_
          refine gd_cV2i dX9_count_80 ct_9_120 rc_72 ⟨Nat.le_of_ble_eq_true rfl, Nat.le_of_ble_eq_true rfl⟩ (Nat.le_of_ble_eq_true rfl) (Nat.le_of_ble_eq_true rfl) (m_its (l := l) (w := 7) (by omega) (by decide) _) ?_
          rw [show (sI h 82 (dcR (ms h) g (h.1 82) l)).1 78 (9 * l + 7) = nI j by rw [← hj]; exact (ms_r4 (by omega)).symm]
          refine gd_zald (n := 30) dX9_count_83 rfl (by decide) (by repeat' (first | with_reducible rfl | apply ni_add | apply ni_mul)) (by omega) ?_
          rw [show (sI h 82 (dcR (ms h) g (h.1 82) l)).1 82 j = bi (cB (ms h) g l j) by rw [sI_s]; exact dcR_at hjl]
          refine gd_if_ne_t 91 dX9_count_84 (by decide) (by rw [hv]; decide) ?_
          refine gd_ic0 dX9_count_91 ?_
          refine gd_ist3 dX9_count_92 rfl ?_
          refine gd_ic0 dX9_count_93 ?_
          refine gd_ist4 dX9_count_94 rfl ?_
          suffices kk : Gd mX9_count 96 [.ref 72, .int g, .int (nI l), .int (bi (!(cB (ms h) g l j) && allN (cpl (ms h) (cB (ms h) g l) l) 0)), .int (nI 0)] [] (sI h 82 (dcR (ms h) g (h.1 82) l)) (none, sI h 82 (dcR (ms h) g (h.1 82) (nN (ms h)))) by
            rw [show bi (!(cB (ms h) g l j) && allN (cpl (ms h) (cB (ms h) g l) l) 0) = nI 0 by rw [hv]; rfl] at kk
            exact kk
          refine m_cinner w hl hjl (fun u3 => ?_)
          refine gd_ald0 dX9_count_157 (by decide) ?_
          refine gd_getR (r := 82) dX9_count_158 fl_9_37 rfl rfl rfl (by decide) ?_
          refine gd_ild2 dX9_count_161 ?_
          refine gd_ild3 dX9_count_162 ?_
          refine gd_zast (n := 30) dX9_count_163 rfl (by decide) (by repeat' (first | with_reducible rfl | apply ni_add | apply ni_mul)) (by omega) (by first | exact Or.inl rfl | exact Or.inr rfl | exact bi_z _ | assumption) ?_
          rw [sI_s, ← hX, dcR_s, sI_sI]
          refine gd_iinc2 (b := nI 1) dX9_count_164 (by decide) rfl ?_
          rw [nI_add]
          refine gd_goto 2 dX9_count_167 (by decide) ?_
          exact ih _ _
      · have hc : cop (ms h) l = false := decide_eq_false h3
        have hy : isC (ms h) g l (cB (ms h) g l) = true := by unfold isC; rw [decide_eq_true hb, hc]; rfl
        rw [bi_dt hb]
        refine gd_ist3 dX9_count_57 rfl ?_
        refine gd_ild3 dX9_count_58 ?_
        refine gd_if_eq_f 157 dX9_count_59 (by decide) (by decide) ?_
        refine gd_ald0 dX9_count_62 (by decide) ?_
        refine gd_ild2 dX9_count_63 ?_
        refine gd_ic0 dX9_count_64 ?_
        refine gd_cV2i dX9_count_65 ct_9_120 rc_72 ⟨Nat.le_of_ble_eq_true rfl, Nat.le_of_ble_eq_true rfl⟩ (Nat.le_of_ble_eq_true rfl) (Nat.le_of_ble_eq_true rfl) (m_its (l := l) (w := 0) (by omega) (by decide) _) ?_
        rw [show (sI h 82 (dcR (ms h) g (h.1 82) l)).1 78 (9 * l + 0) = ms h 4 (9 * l) from (ms_r4 (by omega)).symm]
        refine gd_ic3 dX9_count_68 ?_
        refine gd_icmp_ne_t 157 dX9_count_69 (by decide) (h3) ?_
        refine gd_ald0 dX9_count_157 (by decide) ?_
        refine gd_getR (r := 82) dX9_count_158 fl_9_37 rfl rfl rfl (by decide) ?_
        refine gd_ild2 dX9_count_161 ?_
        refine gd_ild3 dX9_count_162 ?_
        refine gd_zast (n := 30) dX9_count_163 rfl (by decide) (by repeat' (first | with_reducible rfl | apply ni_add | apply ni_mul)) (by omega) (by first | exact Or.inl rfl | exact Or.inr rfl | exact bi_z _ | assumption) ?_
        rw [sI_s, show nI 1 = bi (isC (ms h) g l (cB (ms h) g l)) by rw [hy]; rfl, dcR_s, sI_sI]
        refine gd_iinc2 (b := nI 1) dX9_count_164 (by decide) rfl ?_
        rw [nI_add]
        refine gd_goto 2 dX9_count_167 (by decide) ?_
        exact ih _ _
    · have hno : isC (ms h) g l (cB (ms h) g l) = false := by unfold isC; rw [decide_eq_false hb]; rfl
      rw [bi_df hb]
      refine gd_ist3 dX9_count_57 rfl ?_
      refine gd_ild3 dX9_count_58 ?_
      refine gd_if_eq_t 157 dX9_count_59 (by decide) (by decide) ?_
      refine gd_ald0 dX9_count_157 (by decide) ?_
      refine gd_getR (r := 82) dX9_count_158 fl_9_37 rfl rfl rfl (by decide) ?_
      refine gd_ild2 dX9_count_161 ?_
      refine gd_ild3 dX9_count_162 ?_
      refine gd_zast (n := 30) dX9_count_163 rfl (by decide) (by repeat' (first | with_reducible rfl | apply ni_add | apply ni_mul)) (by omega) (by first | exact Or.inl rfl | exact Or.inr rfl | exact bi_z _ | assumption) ?_
      rw [sI_s, show nI 0 = bi (isC (ms h) g l (cB (ms h) g l)) by rw [hno]; rfl, dcR_s, sI_sI]
      refine gd_iinc2 (b := nI 1) dX9_count_164 (by decide) rfl ?_
      rw [nI_add]
      refine gd_goto 2 dX9_count_167 (by decide) ?_
      exact ih _ _
set_option maxHeartbeats 1000000 in
theorem p_counts {h : Hp} (i : Inv h) (a : Int32) : Pas mX8_counts mX9_counts [.ref 0, .int a] [.ref 72, .int a] h := by
  have lN := i.lN
  rcases rng a (nN (ms h)) (by omega) with ⟨l, hl, rfl⟩ | ha
  · refine Pas.read (r := .int (bi (cB (ms h) (-1) (nN (ms h)) l))) (r2 := .int (bi (cB (ms h) (-1) (nN (ms h)) l))) (h1 := h) (h2 := sI h 82 (dcR (ms h) (-1) (h.1 82) (nN (ms h)))) i rfl (Same.rf _) ((Same.rf _).si (by decide) (by decide) (by decide)) ?_ ?_
    · refine gd_ald0 dX8_counts_0 (by decide) ?_
      refine gd_ild1 dX8_counts_1 ?_
      refine gd_cV1i dX8_counts_2 ct_8_142 rc_0 ⟨Nat.le_of_ble_eq_true rfl, Nat.le_of_ble_eq_true rfl⟩ (Nat.le_of_ble_eq_true rfl) (Nat.le_of_ble_eq_true rfl) (c_isLetter_t i.w i.c hl) ?_
      refine gd_if_ne_t 15 dX8_counts_5 (by decide) (by decide) ?_
      refine gd_ald0 dX8_counts_15 (by decide) ?_
      refine gd_getR (r := 1) dX8_counts_16 fl_8_12 rfl rfl rfl (by decide) ?_
      refine gd_icm1 dX8_counts_19 ?_
      refine gd_cV1i dX8_counts_20 ct_8_114 rc_1 ⟨Nat.le_of_ble_eq_true rfl, Nat.le_of_ble_eq_true rfl⟩ (Nat.le_of_ble_eq_true rfl) (Nat.le_of_ble_eq_true rfl) (c_counting i.w i.c _) ?_
      refine gd_ild1 dX8_counts_23 ?_
      refine gd_ishr dX8_counts_24 ?_
      refine gd_ic1 dX8_counts_25 ?_
      refine gd_iand dX8_counts_26 ?_
      rw [bit_nI (by have := cS_lt i.w (-1); omega) (by omega), cS_bit hl]
      refine gd_iret dX8_counts_27 rfl rfl ?_
      rfl
    · refine gd_ald0 dX9_counts_0 (by decide) ?_
      refine gd_ild1 dX9_counts_1 ?_
      refine gd_cV1i dX9_counts_2 ct_9_113 rc_72 ⟨Nat.le_of_ble_eq_true rfl, Nat.le_of_ble_eq_true rfl⟩ (Nat.le_of_ble_eq_true rfl) (Nat.le_of_ble_eq_true rfl) (m_isLetter_t (h := h) (by exact i.w) hl) ?_
      refine gd_if_ne_t 14 dX9_counts_5 (by decide) (by decide) ?_
      refine gd_ald0 dX9_counts_14 (by decide) ?_
      refine gd_icm1 dX9_counts_15 ?_
      refine gd_cV1v dX9_counts_16 ct_9_109 rc_72 ⟨Nat.le_of_ble_eq_true rfl, Nat.le_of_ble_eq_true rfl⟩ (Nat.le_of_ble_eq_true rfl) (Nat.le_of_ble_eq_true rfl) (m_count i.w _) ?_
      refine gd_ald0 dX9_counts_19 (by decide) ?_
      refine gd_getR (r := 82) dX9_counts_20 fl_9_37 rfl rfl rfl (by decide) ?_
      refine gd_ild1 dX9_counts_23 ?_
      refine gd_zald (n := 30) dX9_counts_24 rfl (by decide) (by repeat' (first | with_reducible rfl | apply ni_add | apply ni_mul)) (by omega) ?_
      rw [show (sI h 82 (dcR (ms h) (-1) (h.1 82) (nN (ms h)))).1 82 l = bi (cB (ms h) (-1) (nN (ms h)) l) by rw [sI_s]; exact dcR_at hl]
      refine gd_if_eq 32 dX9_counts_25 (by decide) (fun c25 => ?_) (fun c25 => ?_)
      · refine gd_ic0 dX9_counts_32 ?_
        refine gd_iret dX9_counts_33 rfl rfl ?_
        rw [bi_e0] at c25; rw [c25]; rfl
      · refine gd_ic1 dX9_counts_28 ?_
        refine gd_goto 33 dX9_counts_29 (by decide) ?_
        refine gd_iret dX9_counts_33 rfl rfl ?_
        rw [bi_n0] at c25; rw [c25]; rfl
  · refine Pas.find (h1 := h) (h2 := hf (h) 0) (v := -1000000001) (w := (-1000000000 : Int32) - nI 1) 0 i (by decide) (by decide) (by decide) (Same.rf _) (Same.rf _) ?_ ?_
    · refine gd_ald0 dX8_counts_0 (by decide) ?_
      refine gd_ild1 dX8_counts_1 ?_
      refine gd_cV1i dX8_counts_2 ct_8_142 rc_0 ⟨Nat.le_of_ble_eq_true rfl, Nat.le_of_ble_eq_true rfl⟩ (Nat.le_of_ble_eq_true rfl) (Nat.le_of_ble_eq_true rfl) (c_isLetter_f i.w i.c ha) ?_
      refine gd_if_ne_f 15 dX8_counts_5 (by decide) (by decide) ?_
      refine gd_ald0 dX8_counts_8 (by decide) ?_
      refine gd_ldc dX8_counts_9 ld_8_52 ?_
      refine gd_cV1i dX8_counts_11 ct_8_53 rc_0 ⟨Nat.le_of_ble_eq_true rfl, Nat.le_of_ble_eq_true rfl⟩ (Nat.le_of_ble_eq_true rfl) (Nat.le_of_ble_eq_true rfl) (c_f0 _) ?_
      refine gd_iret dX8_counts_14 rfl rfl ?_
      rfl
    · refine gd_ald0 dX9_counts_0 (by decide) ?_
      refine gd_ild1 dX9_counts_1 ?_
      refine gd_cV1i dX9_counts_2 ct_9_113 rc_72 ⟨Nat.le_of_ble_eq_true rfl, Nat.le_of_ble_eq_true rfl⟩ (Nat.le_of_ble_eq_true rfl) (Nat.le_of_ble_eq_true rfl) (m_isLetter_f (h := hf h 0) (by exact i.w) ha) ?_
      refine gd_if_ne_f 14 dX9_counts_5 (by decide) (by decide) ?_
      refine gd_ald0 dX9_counts_8 (by decide) ?_
      refine gd_ic1 dX9_counts_9 ?_
      refine gd_cV1i dX9_counts_10 ct_9_97 rc_72 ⟨Nat.le_of_ble_eq_true rfl, Nat.le_of_ble_eq_true rfl⟩ (Nat.le_of_ble_eq_true rfl) (Nat.le_of_ble_eq_true rfl) (m_f0 _) ?_
      refine gd_iret dX9_counts_13 rfl rfl ?_
      rfl
