
/-! ===== a cell's row, by its changes ===== -/
def dRI (s : Nat → Nat → Int32) (g : Int32) (t c d z : Nat) : Int32 := if z = 0 then nI (miN s g t c 0 d) else nI (miN s g t c z d) - nI (miN s g t c (z - 1) d)
def acF (f : Nat → Int32) (s : Nat → Nat → Int32) (g : Int32) (t c d : Nat) : Nat → Int32 := fun z => if z < 40 then f z + dRI s g t c d z else f z
def acK (f : Nat → Int32) (s : Nat → Nat → Int32) (g : Int32) (t c d k : Nat) : Nat → Int32 := fun z => if z < 40 ∧ (z = 0 ∨ z + moN s t < dqN s t c d + k) then f z + dRI s g t c d z else f z
theorem a_ac1 (a b c d : Int32) : (a + (b - c)) + (d + c) = (a + d) + b := by
  rw [Int32.sub_eq_add_neg, Int32.add_assoc, Int32.add_assoc, Int32.add_assoc]
  congr 1
  rw [Int32.add_comm (-c), Int32.add_assoc d, Int32.add_right_neg, Int32.add_zero, Int32.add_comm]
theorem k_sub {k A q : Nat} (h : A ≤ k + q) : nI k - (nI A - nI q) = nI (k + q - A) := by
  rw [← pk_sub h, ← nI_add, Int32.sub_eq_add_neg, Int32.neg_sub, Int32.sub_eq_add_neg, Int32.sub_eq_add_neg, Int32.add_assoc]
theorem dR_0 {s : Nat → Nat → Int32} {g : Int32} {t c d z : Nat} (hz : z ≠ 0) (e : stN s t c z d = stN s t c (z - 1) d) : dRI s g t c d z = 0 := by
  unfold dRI
  rw [if_neg hz]
  unfold miN
  rw [e, Int32.sub_self]
theorem acK_1 {f : Nat → Int32} {s : Nat → Nat → Int32} {g : Int32} {t c d : Nat} : upd f 0 (f 0 + nI (miN s g t c 0 d)) = acK f s g t c d (stN s t c 0 d + 1) := by
  funext z
  rw [upd_at]; unfold acK
  by_cases e : z = 0
  · rw [if_pos e, if_pos ⟨by omega, Or.inl e⟩, e]; unfold dRI; rw [if_pos rfl]
  · rw [if_neg e]
    by_cases q : z < 40 ∧ (z = 0 ∨ z + moN s t < dqN s t c d + (stN s t c 0 d + 1))
    · rw [if_pos q, dR_0 e (by unfold stN at q ⊢; omega), Int32.add_zero]
    · rw [if_neg q]
theorem acK_s {f : Nat → Int32} {s : Nat → Nat → Int32} {g : Int32} {t c d k y : Nat} (hy : y + moN s t = k + dqN s t c d) (y1 : 1 ≤ y) (y4 : y < 40) (hk : k < 12) (k1 : 1 ≤ k) : upd (acK f s g t c d k) y (f y + (nI (nrN (spN s g t) k) - nI (nrN (spN s g t) (k - 1)))) = acK f s g t c d (k + 1) := by
  have e1 : stN s t c y d = k := by unfold stN; omega
  have e2 : stN s t c (y - 1) d = k - 1 := by unfold stN; omega
  funext z
  rw [upd_at]; unfold acK
  by_cases e : z = y
  · rw [if_pos e, if_pos (by omega), e]; unfold dRI miN; rw [if_neg (by omega), e1, e2]
  · rw [if_neg e]
    by_cases q : z < 40 ∧ (z = 0 ∨ z + moN s t < dqN s t c d + k)
    · rw [if_pos q, if_pos (by omega)]
    · rw [if_neg q, if_neg (by omega)]
theorem acK_12 {f : Nat → Int32} {s : Nat → Nat → Int32} {g : Int32} {t c d : Nat} : acK f s g t c d 12 = acF f s g t c d := by
  funext z
  unfold acK acF
  by_cases q : z < 40
  · rw [if_pos q]
    by_cases p : z = 0 ∨ z + moN s t < dqN s t c d + 12
    · rw [if_pos ⟨q, p⟩]
    · rw [if_neg (fun y => p y.2), dR_0 (by omega) (by unfold stN; omega), Int32.add_zero]
  · rw [if_neg q, if_neg (fun y => q y.1)]
theorem acK_40 {f : Nat → Int32} {s : Nat → Nat → Int32} {g : Int32} {t c d k : Nat} (h : 40 + moN s t ≤ k + dqN s t c d) : acK f s g t c d k = acF f s g t c d := by
  funext z
  unfold acK acF
  by_cases q : z < 40
  · rw [if_pos q, if_pos (by omega)]
  · rw [if_neg q, if_neg (fun y => q y.1)]
theorem acK_at {f : Nat → Int32} {s : Nat → Nat → Int32} {g : Int32} {t c d k y : Nat} (hy : y + moN s t = k + dqN s t c d) (y1 : 1 ≤ y) : acK f s g t c d k y = f y := by
  unfold acK; rw [if_neg (by omega)]

theorem c_addChanges {h : Hp} {s : Nat → Nat → Int32} (w : WF s) {g : Int32} (v : SV h s g) {t c d : Nat} (ht : t < nT s) (hc : c < 144) (hd : d < 4) (hl : h.1 67 t = nI (moN s t) - nI (dqN s t c d)) : Gd mX4_addChanges 0 [.ref 60, .int (nI t), .null, .null, .null, .null] [] h (none, sI h 68 (acF (h.1 68) s g t c d)) := by
  have lT := w.t.2
  have c1 := cl_ok w ht
  obtain ⟨_, _, _, _, m1⟩ := mo_ok w ht
  have d1 := dq_le (s := s) (t := t) hc c1.2 hd
  have sl := stN_le s t c 0 d
  have s0 : (stN s t c 0 d) = min 11 ((moN s t) - (dqN s t c d)) := by unfold stN; rw [Nat.zero_add]
  have key := loopG (P := fun k => (stN s t c 0 d) + 1 ≤ k → ∀ l5, Gd mX4_addChanges 37 [.ref 60, .int (nI t), .int (nI (t * 12)), .int (nI (stN s t c 0 d)), .int (nI k), l5] [] (sI h 68 (acK (h.1 68) s g t c d k)) (none, sI h 68 (acF (h.1 68) s g t c d))) (n := 12) ?_ ?_ ((stN s t c 0 d) + 1) (by omega) (Nat.le_refl _)
  · refine gd_ild1 dX4_addChanges_0 ?_
    refine gd_bipush (v := nI 12) dX4_addChanges_1 (by decide) ?_
    refine gd_imul dX4_addChanges_3 ?_
    rw [pk_mul]
    refine gd_ist2 dX4_addChanges_4 rfl ?_
    refine gd_ald0 dX4_addChanges_5 (by decide) ?_
    refine gd_getR (r := 67) dX4_addChanges_6 fl_4_30 rfl rfl rfl (by decide) ?_
    refine gd_ild1 dX4_addChanges_9 ?_
    refine gd_iald (n := 16) dX4_addChanges_10 rfl (by decide) (by repeat' (first | with_reducible rfl | apply ni_add | apply ni_mul)) (by omega) ?_
    rw [hl]
    refine gd_cS1i dX4_addChanges_11 ct_4_113 ⟨Nat.le_of_ble_eq_true rfl, Nat.le_of_ble_eq_true rfl⟩ (Nat.le_of_ble_eq_true rfl) (Nat.le_of_ble_eq_true rfl) (c_bounded (A := (moN s t)) (q := (dqN s t c d)) (by omega) (by omega) _) ?_
    rw [← s0]
    refine gd_ist3 dX4_addChanges_14 rfl ?_
    refine gd_ald0 dX4_addChanges_15 (by decide) ?_
    refine gd_getR (r := 68) dX4_addChanges_16 fl_4_33 rfl rfl rfl (by decide) ?_
    refine gd_ic0 dX4_addChanges_19 ?_
    refine gd_dup2 (by decide) dX4_addChanges_20 ?_
    refine gd_iald (n := 40) dX4_addChanges_21 rfl (by decide) (by repeat' (first | with_reducible rfl | apply ni_add | apply ni_mul)) (by omega) ?_
    refine gd_ald0 dX4_addChanges_22 (by decide) ?_
    refine gd_getR (r := 65) dX4_addChanges_23 fl_4_24 rfl rfl rfl (by decide) ?_
    refine gd_ild2 dX4_addChanges_26 ?_
    refine gd_ild3 dX4_addChanges_27 ?_
    refine gd_iadd dX4_addChanges_28 ?_
    refine gd_iald (n := 192) dX4_addChanges_29 rfl (by decide) (by repeat' (first | with_reducible rfl | apply ni_add | apply ni_mul)) (by omega) ?_
    rw [(v.2 t ht).2.2.2 _ (by omega)]
    refine gd_iadd dX4_addChanges_30 ?_
    refine gd_iast (n := 40) dX4_addChanges_31 rfl (by decide) (by repeat' (first | with_reducible rfl | apply ni_add | apply ni_mul)) (by omega) ?_
    rw [show nrN (spN s g t) (stN s t c 0 d) = miN s g t c 0 d from rfl, acK_1]
    refine gd_ild3 dX4_addChanges_32 ?_
    refine gd_ic1 dX4_addChanges_33 ?_
    refine gd_iadd dX4_addChanges_34 ?_
    rw [nI_add]
    refine gd_ist4 dX4_addChanges_35 rfl ?_
    exact key _
  · intro _ l5
    refine gd_ild4 dX4_addChanges_37 ?_
    refine gd_bipush (v := nI 12) dX4_addChanges_39 (by decide) ?_
    refine gd_icmp_ge_t 100 dX4_addChanges_41 (by decide) (by exact nI_le (by omega) (by omega)) ?_
    refine gd_vret dX4_addChanges_100 rfl ?_
    rw [acK_12]
  · intro k hk ih k1 l5
    have ih := ih (by omega)
    obtain ⟨y, ey⟩ : ∃ y, k + (dqN s t c d) - (moN s t) = y := ⟨_, rfl⟩
    have hy : y + (moN s t) = k + (dqN s t c d) := by omega
    have y1 : 1 ≤ y := by omega
    by_cases y4 : y < 40
    · refine gd_ild4 dX4_addChanges_37 ?_
      refine gd_bipush (v := nI 12) dX4_addChanges_39 (by decide) ?_
      refine gd_icmp_ge_f 100 dX4_addChanges_41 (by decide) (by exact nI_ge (by omega) (by omega)) ?_
      refine gd_ild4 dX4_addChanges_44 ?_
      refine gd_ald0 dX4_addChanges_46 (by decide) ?_
      refine gd_getR (r := 67) dX4_addChanges_47 fl_4_30 rfl rfl rfl (by decide) ?_
      refine gd_ild1 dX4_addChanges_50 ?_
      refine gd_iald (n := 16) dX4_addChanges_51 rfl (by decide) (by repeat' (first | with_reducible rfl | apply ni_add | apply ni_mul)) (by omega) ?_
      rw [show (sI h 68 (acK (h.1 68) s g t c d k)).1 67 t = nI (moN s t) - nI (dqN s t c d) from hl]
      refine gd_isub dX4_addChanges_52 ?_
      rw [k_sub (by omega), ey]
      refine gd_ist5 dX4_addChanges_53 rfl ?_
      refine gd_ild5 dX4_addChanges_55 ?_
      refine gd_bipush (v := nI 40) dX4_addChanges_57 (by decide) ?_
      refine gd_icmp_lt_t 63 dX4_addChanges_59 (by decide) (by exact nI_lt (by omega) (by omega)) ?_
      refine gd_ald0 dX4_addChanges_63 (by decide) ?_
      refine gd_getR (r := 68) dX4_addChanges_64 fl_4_33 rfl rfl rfl (by decide) ?_
      refine gd_ild5 dX4_addChanges_67 ?_
      refine gd_dup2 (by decide) dX4_addChanges_69 ?_
      refine gd_iald (n := 40) dX4_addChanges_70 rfl (by decide) (by repeat' (first | with_reducible rfl | apply ni_add | apply ni_mul)) (by omega) ?_
      rw [show (sI h 68 (acK (h.1 68) s g t c d k)).1 68 y = h.1 68 y from acK_at hy y1]
      refine gd_ald0 dX4_addChanges_71 (by decide) ?_
      refine gd_getR (r := 65) dX4_addChanges_72 fl_4_24 rfl rfl rfl (by decide) ?_
      refine gd_ild2 dX4_addChanges_75 ?_
      refine gd_ild4 dX4_addChanges_76 ?_
      refine gd_iadd dX4_addChanges_78 ?_
      refine gd_iald (n := 192) dX4_addChanges_79 rfl (by decide) (by repeat' (first | with_reducible rfl | apply ni_add | apply ni_mul)) (by omega) ?_
      rw [show (sI h 68 (acK (h.1 68) s g t c d k)).1 65 (t * 12 + k) = nI (nrN (spN s g t) k) from (v.2 t ht).2.2.2 k hk]
      refine gd_ald0 dX4_addChanges_80 (by decide) ?_
      refine gd_getR (r := 65) dX4_addChanges_81 fl_4_24 rfl rfl rfl (by decide) ?_
      refine gd_ild2 dX4_addChanges_84 ?_
      refine gd_ild4 dX4_addChanges_85 ?_
      refine gd_iadd dX4_addChanges_87 ?_
      refine gd_ic1 dX4_addChanges_88 ?_
      refine gd_isub dX4_addChanges_89 ?_
      rw [nI_add, pk_sub (by omega)]
      refine gd_iald (n := 192) dX4_addChanges_90 rfl (by decide) (by repeat' (first | with_reducible rfl | apply ni_add | apply ni_mul)) (by omega) ?_
      rw [show (sI h 68 (acK (h.1 68) s g t c d k)).1 65 (t * 12 + k - 1) = nI (nrN (spN s g t) (k - 1)) from (congrArg (h.1 65) (show t * 12 + k - 1 = t * 12 + (k - 1) by omega)).trans ((v.2 t ht).2.2.2 (k - 1) (by omega))]
      refine gd_isub dX4_addChanges_91 ?_
      refine gd_iadd dX4_addChanges_92 ?_
      refine gd_iast (n := 40) dX4_addChanges_93 rfl (by decide) (by repeat' (first | with_reducible rfl | apply ni_add | apply ni_mul)) (by omega) ?_
      rw [sI_s, acK_s hy y1 y4 hk (by omega), sI_sI]
      refine gd_iinc4 (b := nI 1) dX4_addChanges_94 (by decide) rfl ?_
      rw [nI_add]
      refine gd_goto 37 dX4_addChanges_97 (by decide) ?_
      exact ih _
    · refine gd_ild4 dX4_addChanges_37 ?_
      refine gd_bipush (v := nI 12) dX4_addChanges_39 (by decide) ?_
      refine gd_icmp_ge_f 100 dX4_addChanges_41 (by decide) (by exact nI_ge (by omega) (by omega)) ?_
      refine gd_ild4 dX4_addChanges_44 ?_
      refine gd_ald0 dX4_addChanges_46 (by decide) ?_
      refine gd_getR (r := 67) dX4_addChanges_47 fl_4_30 rfl rfl rfl (by decide) ?_
      refine gd_ild1 dX4_addChanges_50 ?_
      refine gd_iald (n := 16) dX4_addChanges_51 rfl (by decide) (by repeat' (first | with_reducible rfl | apply ni_add | apply ni_mul)) (by omega) ?_
      rw [show (sI h 68 (acK (h.1 68) s g t c d k)).1 67 t = nI (moN s t) - nI (dqN s t c d) from hl]
      refine gd_isub dX4_addChanges_52 ?_
      rw [k_sub (by omega), ey]
      refine gd_ist5 dX4_addChanges_53 rfl ?_
      refine gd_ild5 dX4_addChanges_55 ?_
      refine gd_bipush (v := nI 40) dX4_addChanges_57 (by decide) ?_
      refine gd_icmp_lt_f 63 dX4_addChanges_59 (by decide) (by exact nI_nlt (by omega) (by omega)) ?_
      refine gd_vret dX4_addChanges_62 rfl ?_
      rw [acK_40 (by omega)]

def rsI (s : Nat → Nat → Int32) (g : Int32) (c d z : Nat) : Nat → Int32
  | 0 => nI 0
  | t + 1 => rsI s g c d z t + dRI s g t c d z
theorem rs_0 (s : Nat → Nat → Int32) (g : Int32) (c d : Nat) : ∀ T, rsI s g c d 0 T = nI (sumN (fun t => miN s g t c 0 d) T) := by
  intro T
  induction T with
  | zero => rfl
  | succ T ih =>
    show rsI s g c d 0 T + dRI s g T c d 0 = nI (sumN _ T + miN s g T c 0 d)
    rw [ih, ← nI_add]; unfold dRI; rw [if_pos rfl]
theorem rs_s (s : Nat → Nat → Int32) (g : Int32) (c d z : Nat) : ∀ T, rsI s g c d (z + 1) T + nI (sumN (fun t => miN s g t c z d) T) = nI (sumN (fun t => miN s g t c (z + 1) d) T) := by
  intro T
  induction T with
  | zero => rfl
  | succ T ih =>
    show rsI s g c d (z + 1) T + dRI s g T c d (z + 1) + nI (sumN _ T + miN s g T c z d) = nI (sumN _ T + miN s g T c (z + 1) d)
    rw [← nI_add, ← nI_add, ← ih]
    unfold dRI
    rw [if_neg (by omega), Nat.add_sub_cancel]
    exact a_ac1 _ _ _ _
theorem SV.of {h h' : Hp} {s : Nat → Nat → Int32} {g : Int32} (v : SV h s g) (e : ∀ k, 60 ≤ k → k ≤ 65 → h'.1 k = h.1 k) : SV h' s g := by
  unfold SV SV0 SVt
  rw [e 60 (by decide) (by decide), e 61 (by decide) (by decide), e 62 (by decide) (by decide), e 63 (by decide) (by decide), e 64 (by decide) (by decide), e 65 (by decide) (by decide)]
  exact v
def FR (h h' : Hp) : Prop := (∀ k, k ≠ 67 → k ≠ 68 → h'.1 k = h.1 k) ∧ h'.2 = h.2
theorem FR.fs {h h' : Hp} (p : FR h h') : FS h h' := ⟨fun k hk => p.1 k (by omega) (by omega), fun k _ => by rw [p.2]⟩
theorem FR.sv {h h' : Hp} {s : Nat → Nat → Int32} {g : Int32} (p : FR h h') (v : SV h s g) : SV h' s g := v.of (fun k h1 h2 => p.1 k (by omega) (by omega))
theorem FR.si {a b : Hp} {k : Nat} {f : Nat → Int32} (p : FR a b) (hk : k = 67 ∨ k = 68) : FR a (sI b k f) := ⟨fun j h1 h2 => by rw [sI_n (by omega)]; exact p.1 j h1 h2, p.2⟩
def IR (h : Hp) (s : Nat → Nat → Int32) (g : Int32) (c d t : Nat) (h' : Hp) : Prop := FR h h' ∧ (∀ u, u < t → h'.1 67 u = nI (moN s u) - nI (dqN s u c d)) ∧ ∀ z, z < 40 → h'.1 68 z = rsI s g c d z t
def RWP (s : Nat → Nat → Int32) (g : Int32) (c d : Nat) (h' : Hp) : Prop := (∀ u, u < nT s → h'.1 67 u = nI (moN s u) - nI (dqN s u c d)) ∧ ∀ z, z < 40 → h'.1 68 z = nI (msN s g c z d)

theorem lp_fill2 {h : Hp} {s : Nat → Nat → Int32} {g : Int32} {c d : Nat} : ∀ h', FR h h' ∧ (∀ u, u < nT s → h'.1 67 u = nI (moN s u) - nI (dqN s u c d)) ∧ (∀ y, y < 0 + 1 → h'.1 68 y = nI (msN s g c y d)) ∧ (∀ y, 0 + 1 ≤ y → y < 40 → h'.1 68 y = rsI s g c d y (nT s)) → ∃ h2, Gd mX4_fillRow 44 [.ref 60, .int (nI c), .int (nI d), .int (nI (0 + 1))] [] h' (none, h2) ∧ FR h h2 ∧ RWP s g c d h2 := by
  refine loopG (P := fun z => ∀ h', FR h h' ∧ (∀ u, u < nT s → h'.1 67 u = nI (moN s u) - nI (dqN s u c d)) ∧ (∀ y, y < z + 1 → h'.1 68 y = nI (msN s g c y d)) ∧ (∀ y, z + 1 ≤ y → y < 40 → h'.1 68 y = rsI s g c d y (nT s)) → ∃ h2, Gd mX4_fillRow 44 [.ref 60, .int (nI c), .int (nI d), .int (nI (z + 1))] [] h' (none, h2) ∧ FR h h2 ∧ RWP s g c d h2) (n := 39) ?_ ?_ 0 (by omega)
  · intro h' q
    refine ⟨h', ?_, q.1, q.2.1, q.2.2.1⟩
    refine gd_ild3 dX4_fillRow_44 ?_
    refine gd_bipush (v := nI 40) dX4_fillRow_45 (by decide) ?_
    refine gd_icmp_ge_t 73 dX4_fillRow_47 (by decide) (by exact nI_le (by omega) (by omega)) ?_
    refine gd_vret dX4_fillRow_73 rfl ?_
    rfl
  · intro z hz ih h' q
    have e1 : h'.1 68 (z + 1) + h'.1 68 z = nI (msN s g c (z + 1) d) := by rw [q.2.2.2 (z + 1) (by omega) (by omega), q.2.2.1 z (by omega)]; exact rs_s s g c d z (nT s)
    have hq : FR h (sI h' 68 (upd (h'.1 68) (z + 1) (nI (msN s g c (z + 1) d)))) ∧ (∀ u, u < nT s → (sI h' 68 (upd (h'.1 68) (z + 1) (nI (msN s g c (z + 1) d)))).1 67 u = nI (moN s u) - nI (dqN s u c d)) ∧ (∀ y, y < z + 1 + 1 → (sI h' 68 (upd (h'.1 68) (z + 1) (nI (msN s g c (z + 1) d)))).1 68 y = nI (msN s g c y d)) ∧ (∀ y, z + 1 + 1 ≤ y → y < 40 → (sI h' 68 (upd (h'.1 68) (z + 1) (nI (msN s g c (z + 1) d)))).1 68 y = rsI s g c d y (nT s)) := by
      refine ⟨q.1.si (by omega), q.2.1, fun y hy => ?_, fun y h1 h2 => ?_⟩
      · rw [sI_s]
        by_cases e : y = z + 1
        · rw [e, upd_ss]
        · rw [upd_n e]; exact q.2.2.1 y (by omega)
      · rw [sI_s, upd_n (by omega)]; exact q.2.2.2 y (by omega) h2
    obtain ⟨h2, gg, r⟩ := ih _ hq
    refine ⟨h2, ?_, r⟩
    refine gd_ild3 dX4_fillRow_44 ?_
    refine gd_bipush (v := nI 40) dX4_fillRow_45 (by decide) ?_
    refine gd_icmp_ge_f 73 dX4_fillRow_47 (by decide) (by exact nI_ge (by omega) (by omega)) ?_
    refine gd_ald0 dX4_fillRow_50 (by decide) ?_
    refine gd_getR (r := 68) dX4_fillRow_51 fl_4_33 rfl rfl rfl (by decide) ?_
    refine gd_ild3 dX4_fillRow_54 ?_
    refine gd_dup2 (by decide) dX4_fillRow_55 ?_
    refine gd_iald (n := 40) dX4_fillRow_56 rfl (by decide) (by repeat' (first | with_reducible rfl | apply ni_add | apply ni_mul)) (by omega) ?_
    refine gd_ald0 dX4_fillRow_57 (by decide) ?_
    refine gd_getR (r := 68) dX4_fillRow_58 fl_4_33 rfl rfl rfl (by decide) ?_
    refine gd_ild3 dX4_fillRow_61 ?_
    refine gd_ic1 dX4_fillRow_62 ?_
    refine gd_isub dX4_fillRow_63 ?_
    rw [pk_sub (by omega), Nat.add_sub_cancel]
    refine gd_iald (n := 40) dX4_fillRow_64 rfl (by decide) (by repeat' (first | with_reducible rfl | apply ni_add | apply ni_mul)) (by omega) ?_
    refine gd_iadd dX4_fillRow_65 ?_
    rw [e1]
    refine gd_iast (n := 40) dX4_fillRow_66 rfl (by decide) (by repeat' (first | with_reducible rfl | apply ni_add | apply ni_mul)) (by omega) ?_
    refine gd_iinc3 (b := nI 1) dX4_fillRow_67 (by decide) rfl ?_
    rw [nI_add]
    refine gd_goto 44 dX4_fillRow_70 (by decide) ?_
    exact gg
theorem c_fillRow {h : Hp} {s : Nat → Nat → Int32} (w : WF s) {g : Int32} (v : SV h s g) {c d : Nat} (hc : c < 144) (hd : d < 4) : ∃ h2, Gd mX4_fillRow 0 [.ref 60, .int (nI c), .int (nI d), .null] [] h (none, h2) ∧ FR h h2 ∧ RWP s g c d h2 := by
  have lT := w.t.2
  have key : ∀ h', IR h s g c d 0 h' → ∃ h2, Gd mX4_fillRow 10 [.ref 60, .int (nI c), .int (nI d), .int (nI 0)] [] h' (none, h2) ∧ FR h h2 ∧ RWP s g c d h2 := by
    refine loopG (P := fun t => ∀ h', IR h s g c d t h' → ∃ h2, Gd mX4_fillRow 10 [.ref 60, .int (nI c), .int (nI d), .int (nI t)] [] h' (none, h2) ∧ FR h h2 ∧ RWP s g c d h2) (n := nT s) ?_ ?_ 0 (by omega)
    · intro h' q
      obtain ⟨h2, gg, r⟩ := lp_fill2 h' ⟨q.1, q.2.1, fun y hy => by rw [show y = 0 by omega, q.2.2 0 (by decide)]; exact rs_0 s g c d (nT s), fun y h1 h2 => q.2.2 y h2⟩
      refine ⟨h2, ?_, r⟩
      refine gd_ild3 dX4_fillRow_10 ?_
      refine gd_ald0 dX4_fillRow_11 (by decide) ?_
      refine gd_getI dX4_fillRow_12 fl_4_43 rfl rfl ?_
      refine gd_icmp_ge_t 42 dX4_fillRow_15 (by decide) (by rw [(q.1.sv v).1.1]; exact nI_le (by omega) (by omega)) ?_
      refine gd_ic1 dX4_fillRow_42 ?_
      refine gd_ist3 dX4_fillRow_43 rfl ?_
      exact gg
    · intro t ht ih h' q
      have v' := q.1.sv v
      have hq : IR h s g c d (t + 1) (sI (sI h' 67 (upd (h'.1 67) t (nI (moN s t) - nI (dqN s t c d)))) 68 (acF (h'.1 68) s g t c d)) := by
        refine ⟨(q.1.si (by omega)).si (by omega), fun u hu => ?_, fun z hz => ?_⟩
        · rw [sI_n (by decide), sI_s]
          by_cases e : u = t
          · rw [e, upd_ss]
          · rw [upd_n e]; exact q.2.1 u (by omega)
        · rw [sI_s]; unfold acF; rw [if_pos hz, q.2.2 z hz]; rfl
      obtain ⟨h2, gg, r⟩ := ih _ hq
      refine ⟨h2, ?_, r⟩
      have vv : SV (sI h' 67 (upd (h'.1 67) t (nI (moN s t) - nI (dqN s t c d)))) s g := v'
      refine gd_ild3 dX4_fillRow_10 ?_
      refine gd_ald0 dX4_fillRow_11 (by decide) ?_
      refine gd_getI dX4_fillRow_12 fl_4_43 rfl rfl ?_
      refine gd_icmp_ge_f 42 dX4_fillRow_15 (by decide) (by rw [v'.1.1]; exact nI_ge (by omega) (by omega)) ?_
      refine gd_ald0 dX4_fillRow_18 (by decide) ?_
      refine gd_getR (r := 67) dX4_fillRow_19 fl_4_30 rfl rfl rfl (by decide) ?_
      refine gd_ild3 dX4_fillRow_22 ?_
      refine gd_ald0 dX4_fillRow_23 (by decide) ?_
      refine gd_ild3 dX4_fillRow_24 ?_
      refine gd_ild1 dX4_fillRow_25 ?_
      refine gd_ild2 dX4_fillRow_26 ?_
      refine gd_cV3i dX4_fillRow_27 ct_4_109 rc_60 ⟨Nat.le_of_ble_eq_true rfl, Nat.le_of_ble_eq_true rfl⟩ (Nat.le_of_ble_eq_true rfl) (Nat.le_of_ble_eq_true rfl) (c_lift w v' ht hc hd) ?_
      refine gd_iast (n := 16) dX4_fillRow_30 rfl (by decide) (by repeat' (first | with_reducible rfl | apply ni_add | apply ni_mul)) (by omega) ?_
      refine gd_ald0 dX4_fillRow_31 (by decide) ?_
      refine gd_ild3 dX4_fillRow_32 ?_
      refine gd_cV1v dX4_fillRow_33 ct_4_126 rc_60 ⟨Nat.le_of_ble_eq_true rfl, Nat.le_of_ble_eq_true rfl⟩ (Nat.le_of_ble_eq_true rfl) (Nat.le_of_ble_eq_true rfl) (c_addChanges w vv ht hc hd (upd_ss _ _ _)) ?_
      refine gd_iinc3 (b := nI 1) dX4_fillRow_36 (by decide) rfl ?_
      rw [nI_add]
      refine gd_goto 10 dX4_fillRow_39 (by decide) ?_
      exact gg
  obtain ⟨h2, gg, r⟩ := key (sI h 68 (filI (h.1 68) 40 (nI 0))) ⟨⟨fun j h1 h2 => sI_n h2, rfl⟩, fun u hu => absurd hu (by omega), fun z hz => by rw [sI_s]; exact if_pos hz⟩
  refine ⟨h2, ?_, r⟩
  refine gd_ald0 dX4_fillRow_0 (by decide) ?_
  refine gd_getR (r := 68) dX4_fillRow_1 fl_4_33 rfl rfl rfl (by decide) ?_
  refine gd_ic0 dX4_fillRow_4 ?_
  refine gd_cS2v dX4_fillRow_5 ct_4_82 ⟨Nat.le_of_ble_eq_true rfl, Nat.le_of_ble_eq_true rfl⟩ (Nat.le_of_ble_eq_true rfl) (Nat.le_of_ble_eq_true rfl) (c_fill68 _ _) ?_
  refine gd_ic0 dX4_fillRow_8 ?_
  refine gd_ist3 dX4_fillRow_9 rfl ?_
  exact gg
