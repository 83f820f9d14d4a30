
/-! ===== image, undo ===== -/
theorem cpy_i {f g : Nat → Int32} {n i : Nat} (h : i < n) : va_cpy f g 0 0 n i = f i := by
  unfold va_cpy; rw [if_pos (by omega)]; congr 1; omega
theorem icpy_s {f g : Nat → Int32} {sp dp k : Nat} : upd (va_cpy f g sp dp k) (dp + k) (f (sp + k)) = va_cpy f g sp dp (k + 1) := by
  funext j
  rw [upd_at]
  unfold va_cpy
  by_cases e : j = dp + k
  · rw [if_pos e, if_pos (by omega)]; congr 1; omega
  · rw [if_neg e]
    by_cases q : dp ≤ j ∧ j < dp + k
    · rw [if_pos q, if_pos (by omega)]
    · rw [if_neg q, if_neg (by omega)]
theorem icpy_s0 {f g : Nat → Int32} {sp k : Nat} : upd (va_cpy f g sp 0 k) k (f (sp + k)) = va_cpy f g sp 0 (k + 1) := by
  have := icpy_s (f := f) (g := g) (sp := sp) (dp := 0) (k := k)
  rw [Nat.zero_add] at this
  exact this
theorem icpy_0 {f g : Nat → Int32} {sp dp : Nat} : va_cpy f g sp dp 0 = g := by
  funext j; unfold va_cpy; rw [if_neg (by omega)]
/-- what a world that became another holds -/
def BC (a b : Nat) (h h' : Hp) : Prop :=
  (h'.1 (b + 1) 3 = h.1 (a + 1) 3 ∧ h'.1 (b + 1) 4 = h.1 (a + 1) 4 ∧ h'.1 (b + 5) 8 = h.1 (a + 5) 8 ∧ h'.1 (b + 5) 9 = h.1 (a + 5) 9 ∧ h'.1 (b + 14) 5 = h.1 (a + 14) 5 ∧ h'.1 (b + 20) 3 = h.1 (a + 20) 3) ∧
  ((∀ i, i < 144 → h'.1 (b + 2) i = h.1 (a + 2) i) ∧ (∀ i, i < 16 → h'.1 (b + 3) i = h.1 (a + 3) i) ∧ (∀ i, i < 96 → h'.1 (b + 4) i = h.1 (a + 4) i)) ∧
  (∀ j, 6 ≤ j → j ≤ 13 → ∀ i, i < 30 → h'.1 (b + j) i = h.1 (a + j) i) ∧
  ((∀ j, 15 ≤ j → j ≤ 16 → ∀ i, i < 8 → h'.1 (b + j) i = h.1 (a + j) i) ∧ (∀ j, 17 ≤ j → j ≤ 19 → ∀ i, i < 48 → h'.1 (b + j) i = h.1 (a + j) i)) ∧
  (∀ j, 21 ≤ j → j ≤ 23 → ∀ i, i < 20 → h'.1 (b + j) i = h.1 (a + j) i)
theorem CR.copy {a b : Nat} {h h' : Hp} {s : Nat → Nat → Int32} (w : WF s) (q : CR h a s) (e : BC a b h h') : CR h' b s := by
  obtain ⟨⟨s1, s2, s3, s4, s5, s6⟩, ⟨r2, r3, r4⟩, rl, ⟨rt, ru⟩, rn⟩ := e
  have t1 := w.t.2
  have n1 := w.n.2
  have x1 := w.x.2
  have o1 := w.o.2
  refine ⟨s1.trans q.t, s2.trans q.d, s4.trans q.n, s5.trans q.x, s6.trans q.o, fun c hc => (r2 c hc).trans (q.g c hc), fun t ht => (r3 t (by omega)).trans (q.c t ht), fun i hi => (r4 i (by omega)).trans (q.h i hi), fun i h1 h2 => (r4 i h1).trans (q.h0 i h1 h2),
    fun l hl => (rl 6 (by omega) (by omega) l (by omega)).trans (q.lk l hl), fun l hl => (rl 7 (by omega) (by omega) l (by omega)).trans (q.lt l hl), fun l hl => (rl 8 (by omega) (by omega) l (by omega)).trans (q.lw l hl), fun l hl => (rl 9 (by omega) (by omega) l (by omega)).trans (q.ld l hl), fun l hl => (rl 10 (by omega) (by omega) l (by omega)).trans (q.lr l hl), fun l hl => (rl 11 (by omega) (by omega) l (by omega)).trans (q.lq l hl), fun l hl => (rl 12 (by omega) (by omega) l (by omega)).trans (q.lf l hl), fun l hl => (rl 13 (by omega) (by omega) l (by omega)).trans (q.le l hl), s3.trans q.lo,
    fun t ht => (rt 15 (by omega) (by omega) t (by omega)).trans (q.f t ht), fun t ht => (rt 16 (by omega) (by omega) t (by omega)).trans (q.c6 t ht), fun t ht r hr => (ru 17 (by omega) (by omega) _ (by have := (w.c6 t ht).2.2; omega)).trans (q.rk t ht r hr), fun t ht r hr => (ru 18 (by omega) (by omega) _ (by have := (w.c6 t ht).2.2; omega)).trans (q.rl t ht r hr), fun t ht r hr => (ru 19 (by omega) (by omega) _ (by have := (w.c6 t ht).2.2; omega)).trans (q.rh t ht r hr),
    fun k hk => (rn 21 (by omega) (by omega) k (by omega)).trans (q.ks k hk), fun k hk => (rn 22 (by omega) (by omega) k (by omega)).trans (q.km k hk), fun k hk => (rn 23 (by omega) (by omega) k (by omega)).trans (q.kd k hk)⟩

theorem upd_id (f : Nat → Int32) (k : Nat) : upd f k (f k) = f := by
  funext j; rw [upd_at]; split
  · rename_i e; rw [e]
  · rfl
theorem mvA {h : Hp} {c i : Nat} {F G : Nat → Int32} {v : Int32} (hc : c ≠ 72) : sI (sI (sI h c F) 72 G) c (upd ((sI (sI h c F) 72 G).1 c) i v) = sI (sI h c (upd F i v)) 72 G := by
  rw [sI_n (j := c) (k := 72) hc, sI_s, sI_cm (k := 72) (j := c) (Ne.symm hc), sI_sI]
theorem mvB {A : Hp} {f : Nat → Int32} {u w : Int32} : sI (sI A 72 (upd f 34 u)) 72 (upd ((sI A 72 (upd f 34 u)).1 72) 34 w) = sI A 72 (upd f 34 w) := by
  rw [sI_s, upd_upd, sI_sI]
theorem c_becX0_26 {h : Hp} : ∃ h2, Gd mX0_become 0 [.ref 27, .ref 2] [] h (none, h2) ∧ (∀ k, ¬ (27 ≤ k ∧ k ≤ 30) → h2.1 k = h.1 k) ∧ h2.2 = h.2 ∧ (∀ i, i < 144 → h2.1 28 i = h.1 3 i) ∧ (∀ i, i < 16 → h2.1 29 i = h.1 4 i) ∧ (∀ i, i < 96 → h2.1 30 i = h.1 5 i) ∧ h2.1 27 3 = h.1 2 3 ∧ h2.1 27 4 = h.1 2 4 := by
  apply Exists.intro
  refine ⟨?_, ?_, ?_, ?_, ?_, ?_, ?_, ?_⟩
  · refine gd_ald1 dX0_become_0 (by decide) ?_
    refine gd_getR (r := 3) dX0_become_1 fl_0_9 rfl rfl rfl (by decide) ?_
    refine gd_ic0 dX0_become_4 ?_
    refine gd_ald0 dX0_become_5 (by decide) ?_
    refine gd_getR (r := 28) dX0_become_6 fl_0_9 rfl rfl rfl (by decide) ?_
    refine gd_ic0 dX0_become_9 ?_
    refine gd_sipush (v := nI 144) dX0_become_10 (by decide) ?_
    refine gd_acI (n0 := 144) (n1 := 144) dX0_become_13 ac_0_28 (Nat.le_of_ble_eq_true rfl) (Nat.le_of_ble_eq_true rfl) (Nat.le_of_ble_eq_true rfl) rfl rfl (by first | exact nI_pos (by decide) | (rw [show (nI 0).toNatClampNeg = 0 from rfl]; exact Nat.le_of_eq (by rw [nI_clamp (by decide)]))) (by first | exact nI_pos (by decide) | (rw [show (nI 0).toNatClampNeg = 0 from rfl]; exact Nat.le_of_eq (by rw [nI_clamp (by decide)]))) (by first | exact nI_pos (by decide) | (rw [show (nI 0).toNatClampNeg = 0 from rfl]; exact Nat.le_of_eq (by rw [nI_clamp (by decide)]))) (by first | exact nI_pos (by decide) | (rw [show (nI 0).toNatClampNeg = 0 from rfl]; exact Nat.le_of_eq (by rw [nI_clamp (by decide)]))) (by first | exact nI_pos (by decide) | (rw [show (nI 0).toNatClampNeg = 0 from rfl]; exact Nat.le_of_eq (by rw [nI_clamp (by decide)]))) ?_
    rw [show (nI 0).toNatClampNeg = 0 from rfl, show (nI 144).toNatClampNeg = 144 from nI_clamp (by decide)]
    refine gd_ald1 dX0_become_16 (by decide) ?_
    refine gd_getR (r := 4) dX0_become_17 fl_0_15 rfl rfl rfl (by decide) ?_
    refine gd_ic0 dX0_become_20 ?_
    refine gd_ald0 dX0_become_21 (by decide) ?_
    refine gd_getR (r := 29) dX0_become_22 fl_0_15 rfl rfl rfl (by decide) ?_
    refine gd_ic0 dX0_become_25 ?_
    refine gd_bipush (v := nI 16) dX0_become_26 (by decide) ?_
    refine gd_acI (n0 := 16) (n1 := 16) dX0_become_28 ac_0_28 (Nat.le_of_ble_eq_true rfl) (Nat.le_of_ble_eq_true rfl) (Nat.le_of_ble_eq_true rfl) rfl rfl (by first | exact nI_pos (by decide) | (rw [show (nI 0).toNatClampNeg = 0 from rfl]; exact Nat.le_of_eq (by rw [nI_clamp (by decide)]))) (by first | exact nI_pos (by decide) | (rw [show (nI 0).toNatClampNeg = 0 from rfl]; exact Nat.le_of_eq (by rw [nI_clamp (by decide)]))) (by first | exact nI_pos (by decide) | (rw [show (nI 0).toNatClampNeg = 0 from rfl]; exact Nat.le_of_eq (by rw [nI_clamp (by decide)]))) (by first | exact nI_pos (by decide) | (rw [show (nI 0).toNatClampNeg = 0 from rfl]; exact Nat.le_of_eq (by rw [nI_clamp (by decide)]))) (by first | exact nI_pos (by decide) | (rw [show (nI 0).toNatClampNeg = 0 from rfl]; exact Nat.le_of_eq (by rw [nI_clamp (by decide)]))) ?_
    rw [show (nI 0).toNatClampNeg = 0 from rfl, show (nI 16).toNatClampNeg = 16 from nI_clamp (by decide)]
    refine gd_ald1 dX0_become_31 (by decide) ?_
    refine gd_getR (r := 5) dX0_become_32 fl_0_18 rfl rfl rfl (by decide) ?_
    refine gd_ic0 dX0_become_35 ?_
    refine gd_ald0 dX0_become_36 (by decide) ?_
    refine gd_getR (r := 30) dX0_become_37 fl_0_18 rfl rfl rfl (by decide) ?_
    refine gd_ic0 dX0_become_40 ?_
    refine gd_ald0 dX0_become_41 (by decide) ?_
    refine gd_getR (r := 30) dX0_become_42 fl_0_18 rfl rfl rfl (by decide) ?_
    refine gd_alenI (n := 96) (v := nI 96) dX0_become_45 rfl rfl ?_
    refine gd_acI (n0 := 96) (n1 := 96) dX0_become_46 ac_0_28 (Nat.le_of_ble_eq_true rfl) (Nat.le_of_ble_eq_true rfl) (Nat.le_of_ble_eq_true rfl) rfl rfl (by first | exact nI_pos (by decide) | (rw [show (nI 0).toNatClampNeg = 0 from rfl]; exact Nat.le_of_eq (by rw [nI_clamp (by decide)]))) (by first | exact nI_pos (by decide) | (rw [show (nI 0).toNatClampNeg = 0 from rfl]; exact Nat.le_of_eq (by rw [nI_clamp (by decide)]))) (by first | exact nI_pos (by decide) | (rw [show (nI 0).toNatClampNeg = 0 from rfl]; exact Nat.le_of_eq (by rw [nI_clamp (by decide)]))) (by first | exact nI_pos (by decide) | (rw [show (nI 0).toNatClampNeg = 0 from rfl]; exact Nat.le_of_eq (by rw [nI_clamp (by decide)]))) (by first | exact nI_pos (by decide) | (rw [show (nI 0).toNatClampNeg = 0 from rfl]; exact Nat.le_of_eq (by rw [nI_clamp (by decide)]))) ?_
    rw [show (nI 0).toNatClampNeg = 0 from rfl, show (nI 96).toNatClampNeg = 96 from nI_clamp (by decide)]
    refine gd_ald0 dX0_become_49 (by decide) ?_
    refine gd_ald1 dX0_become_50 (by decide) ?_
    refine gd_getI dX0_become_51 fl_0_21 rfl rfl ?_
    refine gd_putI dX0_become_54 fl_0_21 rfl rfl (fun _ _ _ e => by cases e; rfl) ?_
    refine gd_ald0 dX0_become_57 (by decide) ?_
    refine gd_ald1 dX0_become_58 (by decide) ?_
    refine gd_getI dX0_become_59 fl_0_25 rfl rfl ?_
    refine gd_putI dX0_become_62 fl_0_25 rfl rfl (fun _ _ _ e => by cases e; rfl) ?_
    refine gd_vret dX0_become_65 rfl ?_
    rfl
  · intro k hk
    rw [sI_n (by omega), sI_n (by omega), sI_n (by omega), sI_n (by omega), sI_n (by omega)]
  · rfl
  · intro i hi
    show va_cpy (h.1 3) (h.1 28) 0 0 144 i = h.1 3 i
    exact cpy_i hi
  · intro i hi
    show va_cpy (h.1 4) (h.1 29) 0 0 16 i = h.1 4 i
    exact cpy_i hi
  · intro i hi
    show va_cpy (h.1 5) (h.1 30) 0 0 96 i = h.1 5 i
    exact cpy_i hi
  · rfl
  · rfl
theorem c_becX1_26 {h : Hp} : ∃ h2, Gd mX1_become 0 [.ref 31, .ref 6] [] h (none, h2) ∧ (∀ k, ¬ (31 ≤ k ∧ k ≤ 39) → h2.1 k = h.1 k) ∧ h2.2 = h.2 ∧ (∀ i, i < 30 → h2.1 32 i = h.1 7 i) ∧ (∀ i, i < 30 → h2.1 33 i = h.1 8 i) ∧ (∀ i, i < 30 → h2.1 34 i = h.1 9 i) ∧ (∀ i, i < 30 → h2.1 35 i = h.1 10 i) ∧ (∀ i, i < 30 → h2.1 36 i = h.1 11 i) ∧ (∀ i, i < 30 → h2.1 37 i = h.1 12 i) ∧ (∀ i, i < 30 → h2.1 38 i = h.1 13 i) ∧ (∀ i, i < 30 → h2.1 39 i = h.1 14 i) ∧ h2.1 31 8 = h.1 6 8 ∧ h2.1 31 9 = h.1 6 9 := by
  apply Exists.intro
  refine ⟨?_, ?_, ?_, ?_, ?_, ?_, ?_, ?_, ?_, ?_, ?_, ?_, ?_⟩
  · refine gd_ald1 dX1_become_0 (by decide) ?_
    refine gd_getR (r := 7) dX1_become_1 fl_1_9 rfl rfl rfl (by decide) ?_
    refine gd_ic0 dX1_become_4 ?_
    refine gd_ald0 dX1_become_5 (by decide) ?_
    refine gd_getR (r := 32) dX1_become_6 fl_1_9 rfl rfl rfl (by decide) ?_
    refine gd_ic0 dX1_become_9 ?_
    refine gd_bipush (v := nI 30) dX1_become_10 (by decide) ?_
    refine gd_acI (n0 := 30) (n1 := 30) dX1_become_12 ac_1_43 (Nat.le_of_ble_eq_true rfl) (Nat.le_of_ble_eq_true rfl) (Nat.le_of_ble_eq_true rfl) rfl rfl (by first | exact nI_pos (by decide) | (rw [show (nI 0).toNatClampNeg = 0 from rfl]; exact Nat.le_of_eq (by rw [nI_clamp (by decide)]))) (by first | exact nI_pos (by decide) | (rw [show (nI 0).toNatClampNeg = 0 from rfl]; exact Nat.le_of_eq (by rw [nI_clamp (by decide)]))) (by first | exact nI_pos (by decide) | (rw [show (nI 0).toNatClampNeg = 0 from rfl]; exact Nat.le_of_eq (by rw [nI_clamp (by decide)]))) (by first | exact nI_pos (by decide) | (rw [show (nI 0).toNatClampNeg = 0 from rfl]; exact Nat.le_of_eq (by rw [nI_clamp (by decide)]))) (by first | exact nI_pos (by decide) | (rw [show (nI 0).toNatClampNeg = 0 from rfl]; exact Nat.le_of_eq (by rw [nI_clamp (by decide)]))) ?_
    rw [show (nI 0).toNatClampNeg = 0 from rfl, show (nI 30).toNatClampNeg = 30 from nI_clamp (by decide)]
    refine gd_ald1 dX1_become_15 (by decide) ?_
    refine gd_getR (r := 8) dX1_become_16 fl_1_15 rfl rfl rfl (by decide) ?_
    refine gd_ic0 dX1_become_19 ?_
    refine gd_ald0 dX1_become_20 (by decide) ?_
    refine gd_getR (r := 33) dX1_become_21 fl_1_15 rfl rfl rfl (by decide) ?_
    refine gd_ic0 dX1_become_24 ?_
    refine gd_bipush (v := nI 30) dX1_become_25 (by decide) ?_
    refine gd_acI (n0 := 30) (n1 := 30) dX1_become_27 ac_1_43 (Nat.le_of_ble_eq_true rfl) (Nat.le_of_ble_eq_true rfl) (Nat.le_of_ble_eq_true rfl) rfl rfl (by first | exact nI_pos (by decide) | (rw [show (nI 0).toNatClampNeg = 0 from rfl]; exact Nat.le_of_eq (by rw [nI_clamp (by decide)]))) (by first | exact nI_pos (by decide) | (rw [show (nI 0).toNatClampNeg = 0 from rfl]; exact Nat.le_of_eq (by rw [nI_clamp (by decide)]))) (by first | exact nI_pos (by decide) | (rw [show (nI 0).toNatClampNeg = 0 from rfl]; exact Nat.le_of_eq (by rw [nI_clamp (by decide)]))) (by first | exact nI_pos (by decide) | (rw [show (nI 0).toNatClampNeg = 0 from rfl]; exact Nat.le_of_eq (by rw [nI_clamp (by decide)]))) (by first | exact nI_pos (by decide) | (rw [show (nI 0).toNatClampNeg = 0 from rfl]; exact Nat.le_of_eq (by rw [nI_clamp (by decide)]))) ?_
    rw [show (nI 0).toNatClampNeg = 0 from rfl, show (nI 30).toNatClampNeg = 30 from nI_clamp (by decide)]
    refine gd_ald1 dX1_become_30 (by decide) ?_
    refine gd_getR (r := 9) dX1_become_31 fl_1_18 rfl rfl rfl (by decide) ?_
    refine gd_ic0 dX1_become_34 ?_
    refine gd_ald0 dX1_become_35 (by decide) ?_
    refine gd_getR (r := 34) dX1_become_36 fl_1_18 rfl rfl rfl (by decide) ?_
    refine gd_ic0 dX1_become_39 ?_
    refine gd_bipush (v := nI 30) dX1_become_40 (by decide) ?_
    refine gd_acI (n0 := 30) (n1 := 30) dX1_become_42 ac_1_43 (Nat.le_of_ble_eq_true rfl) (Nat.le_of_ble_eq_true rfl) (Nat.le_of_ble_eq_true rfl) rfl rfl (by first | exact nI_pos (by decide) | (rw [show (nI 0).toNatClampNeg = 0 from rfl]; exact Nat.le_of_eq (by rw [nI_clamp (by decide)]))) (by first | exact nI_pos (by decide) | (rw [show (nI 0).toNatClampNeg = 0 from rfl]; exact Nat.le_of_eq (by rw [nI_clamp (by decide)]))) (by first | exact nI_pos (by decide) | (rw [show (nI 0).toNatClampNeg = 0 from rfl]; exact Nat.le_of_eq (by rw [nI_clamp (by decide)]))) (by first | exact nI_pos (by decide) | (rw [show (nI 0).toNatClampNeg = 0 from rfl]; exact Nat.le_of_eq (by rw [nI_clamp (by decide)]))) (by first | exact nI_pos (by decide) | (rw [show (nI 0).toNatClampNeg = 0 from rfl]; exact Nat.le_of_eq (by rw [nI_clamp (by decide)]))) ?_
    rw [show (nI 0).toNatClampNeg = 0 from rfl, show (nI 30).toNatClampNeg = 30 from nI_clamp (by decide)]
    refine gd_ald1 dX1_become_45 (by decide) ?_
    refine gd_getR (r := 10) dX1_become_46 fl_1_21 rfl rfl rfl (by decide) ?_
    refine gd_ic0 dX1_become_49 ?_
    refine gd_ald0 dX1_become_50 (by decide) ?_
    refine gd_getR (r := 35) dX1_become_51 fl_1_21 rfl rfl rfl (by decide) ?_
    refine gd_ic0 dX1_become_54 ?_
    refine gd_bipush (v := nI 30) dX1_become_55 (by decide) ?_
    refine gd_acI (n0 := 30) (n1 := 30) dX1_become_57 ac_1_43 (Nat.le_of_ble_eq_true rfl) (Nat.le_of_ble_eq_true rfl) (Nat.le_of_ble_eq_true rfl) rfl rfl (by first | exact nI_pos (by decide) | (rw [show (nI 0).toNatClampNeg = 0 from rfl]; exact Nat.le_of_eq (by rw [nI_clamp (by decide)]))) (by first | exact nI_pos (by decide) | (rw [show (nI 0).toNatClampNeg = 0 from rfl]; exact Nat.le_of_eq (by rw [nI_clamp (by decide)]))) (by first | exact nI_pos (by decide) | (rw [show (nI 0).toNatClampNeg = 0 from rfl]; exact Nat.le_of_eq (by rw [nI_clamp (by decide)]))) (by first | exact nI_pos (by decide) | (rw [show (nI 0).toNatClampNeg = 0 from rfl]; exact Nat.le_of_eq (by rw [nI_clamp (by decide)]))) (by first | exact nI_pos (by decide) | (rw [show (nI 0).toNatClampNeg = 0 from rfl]; exact Nat.le_of_eq (by rw [nI_clamp (by decide)]))) ?_
    rw [show (nI 0).toNatClampNeg = 0 from rfl, show (nI 30).toNatClampNeg = 30 from nI_clamp (by decide)]
    refine gd_ald1 dX1_become_60 (by decide) ?_
    refine gd_getR (r := 11) dX1_become_61 fl_1_24 rfl rfl rfl (by decide) ?_
    refine gd_ic0 dX1_become_64 ?_
    refine gd_ald0 dX1_become_65 (by decide) ?_
    refine gd_getR (r := 36) dX1_become_66 fl_1_24 rfl rfl rfl (by decide) ?_
    refine gd_ic0 dX1_become_69 ?_
    refine gd_bipush (v := nI 30) dX1_become_70 (by decide) ?_
    refine gd_acI (n0 := 30) (n1 := 30) dX1_become_72 ac_1_43 (Nat.le_of_ble_eq_true rfl) (Nat.le_of_ble_eq_true rfl) (Nat.le_of_ble_eq_true rfl) rfl rfl (by first | exact nI_pos (by decide) | (rw [show (nI 0).toNatClampNeg = 0 from rfl]; exact Nat.le_of_eq (by rw [nI_clamp (by decide)]))) (by first | exact nI_pos (by decide) | (rw [show (nI 0).toNatClampNeg = 0 from rfl]; exact Nat.le_of_eq (by rw [nI_clamp (by decide)]))) (by first | exact nI_pos (by decide) | (rw [show (nI 0).toNatClampNeg = 0 from rfl]; exact Nat.le_of_eq (by rw [nI_clamp (by decide)]))) (by first | exact nI_pos (by decide) | (rw [show (nI 0).toNatClampNeg = 0 from rfl]; exact Nat.le_of_eq (by rw [nI_clamp (by decide)]))) (by first | exact nI_pos (by decide) | (rw [show (nI 0).toNatClampNeg = 0 from rfl]; exact Nat.le_of_eq (by rw [nI_clamp (by decide)]))) ?_
    rw [show (nI 0).toNatClampNeg = 0 from rfl, show (nI 30).toNatClampNeg = 30 from nI_clamp (by decide)]
    refine gd_ald1 dX1_become_75 (by decide) ?_
    refine gd_getR (r := 12) dX1_become_76 fl_1_27 rfl rfl rfl (by decide) ?_
    refine gd_ic0 dX1_become_79 ?_
    refine gd_ald0 dX1_become_80 (by decide) ?_
    refine gd_getR (r := 37) dX1_become_81 fl_1_27 rfl rfl rfl (by decide) ?_
    refine gd_ic0 dX1_become_84 ?_
    refine gd_bipush (v := nI 30) dX1_become_85 (by decide) ?_
    refine gd_acI (n0 := 30) (n1 := 30) dX1_become_87 ac_1_43 (Nat.le_of_ble_eq_true rfl) (Nat.le_of_ble_eq_true rfl) (Nat.le_of_ble_eq_true rfl) rfl rfl (by first | exact nI_pos (by decide) | (rw [show (nI 0).toNatClampNeg = 0 from rfl]; exact Nat.le_of_eq (by rw [nI_clamp (by decide)]))) (by first | exact nI_pos (by decide) | (rw [show (nI 0).toNatClampNeg = 0 from rfl]; exact Nat.le_of_eq (by rw [nI_clamp (by decide)]))) (by first | exact nI_pos (by decide) | (rw [show (nI 0).toNatClampNeg = 0 from rfl]; exact Nat.le_of_eq (by rw [nI_clamp (by decide)]))) (by first | exact nI_pos (by decide) | (rw [show (nI 0).toNatClampNeg = 0 from rfl]; exact Nat.le_of_eq (by rw [nI_clamp (by decide)]))) (by first | exact nI_pos (by decide) | (rw [show (nI 0).toNatClampNeg = 0 from rfl]; exact Nat.le_of_eq (by rw [nI_clamp (by decide)]))) ?_
    rw [show (nI 0).toNatClampNeg = 0 from rfl, show (nI 30).toNatClampNeg = 30 from nI_clamp (by decide)]
    refine gd_ald1 dX1_become_90 (by decide) ?_
    refine gd_getR (r := 13) dX1_become_91 fl_1_30 rfl rfl rfl (by decide) ?_
    refine gd_ic0 dX1_become_94 ?_
    refine gd_ald0 dX1_become_95 (by decide) ?_
    refine gd_getR (r := 38) dX1_become_96 fl_1_30 rfl rfl rfl (by decide) ?_
    refine gd_ic0 dX1_become_99 ?_
    refine gd_bipush (v := nI 30) dX1_become_100 (by decide) ?_
    refine gd_acI (n0 := 30) (n1 := 30) dX1_become_102 ac_1_43 (Nat.le_of_ble_eq_true rfl) (Nat.le_of_ble_eq_true rfl) (Nat.le_of_ble_eq_true rfl) rfl rfl (by first | exact nI_pos (by decide) | (rw [show (nI 0).toNatClampNeg = 0 from rfl]; exact Nat.le_of_eq (by rw [nI_clamp (by decide)]))) (by first | exact nI_pos (by decide) | (rw [show (nI 0).toNatClampNeg = 0 from rfl]; exact Nat.le_of_eq (by rw [nI_clamp (by decide)]))) (by first | exact nI_pos (by decide) | (rw [show (nI 0).toNatClampNeg = 0 from rfl]; exact Nat.le_of_eq (by rw [nI_clamp (by decide)]))) (by first | exact nI_pos (by decide) | (rw [show (nI 0).toNatClampNeg = 0 from rfl]; exact Nat.le_of_eq (by rw [nI_clamp (by decide)]))) (by first | exact nI_pos (by decide) | (rw [show (nI 0).toNatClampNeg = 0 from rfl]; exact Nat.le_of_eq (by rw [nI_clamp (by decide)]))) ?_
    rw [show (nI 0).toNatClampNeg = 0 from rfl, show (nI 30).toNatClampNeg = 30 from nI_clamp (by decide)]
    refine gd_ald1 dX1_become_105 (by decide) ?_
    refine gd_getR (r := 14) dX1_become_106 fl_1_33 rfl rfl rfl (by decide) ?_
    refine gd_ic0 dX1_become_109 ?_
    refine gd_ald0 dX1_become_110 (by decide) ?_
    refine gd_getR (r := 39) dX1_become_111 fl_1_33 rfl rfl rfl (by decide) ?_
    refine gd_ic0 dX1_become_114 ?_
    refine gd_bipush (v := nI 30) dX1_become_115 (by decide) ?_
    refine gd_acI (n0 := 30) (n1 := 30) dX1_become_117 ac_1_43 (Nat.le_of_ble_eq_true rfl) (Nat.le_of_ble_eq_true rfl) (Nat.le_of_ble_eq_true rfl) rfl rfl (by first | exact nI_pos (by decide) | (rw [show (nI 0).toNatClampNeg = 0 from rfl]; exact Nat.le_of_eq (by rw [nI_clamp (by decide)]))) (by first | exact nI_pos (by decide) | (rw [show (nI 0).toNatClampNeg = 0 from rfl]; exact Nat.le_of_eq (by rw [nI_clamp (by decide)]))) (by first | exact nI_pos (by decide) | (rw [show (nI 0).toNatClampNeg = 0 from rfl]; exact Nat.le_of_eq (by rw [nI_clamp (by decide)]))) (by first | exact nI_pos (by decide) | (rw [show (nI 0).toNatClampNeg = 0 from rfl]; exact Nat.le_of_eq (by rw [nI_clamp (by decide)]))) (by first | exact nI_pos (by decide) | (rw [show (nI 0).toNatClampNeg = 0 from rfl]; exact Nat.le_of_eq (by rw [nI_clamp (by decide)]))) ?_
    rw [show (nI 0).toNatClampNeg = 0 from rfl, show (nI 30).toNatClampNeg = 30 from nI_clamp (by decide)]
    refine gd_ald0 dX1_become_120 (by decide) ?_
    refine gd_ald1 dX1_become_121 (by decide) ?_
    refine gd_getI dX1_become_122 fl_1_36 rfl rfl ?_
    refine gd_putI dX1_become_125 fl_1_36 rfl rfl (fun _ _ _ e => by cases e; rfl) ?_
    refine gd_ald0 dX1_become_128 (by decide) ?_
    refine gd_ald1 dX1_become_129 (by decide) ?_
    refine gd_getI dX1_become_130 fl_1_40 rfl rfl ?_
    refine gd_putI dX1_become_133 fl_1_40 rfl rfl (fun _ _ _ e => by cases e; rfl) ?_
    refine gd_vret dX1_become_136 rfl ?_
    rfl
  · intro k hk
    rw [sI_n (by omega), sI_n (by omega), sI_n (by omega), sI_n (by omega), sI_n (by omega), sI_n (by omega), sI_n (by omega), sI_n (by omega), sI_n (by omega), sI_n (by omega)]
  · rfl
  · intro i hi
    show va_cpy (h.1 7) (h.1 32) 0 0 30 i = h.1 7 i
    exact cpy_i hi
  · intro i hi
    show va_cpy (h.1 8) (h.1 33) 0 0 30 i = h.1 8 i
    exact cpy_i hi
  · intro i hi
    show va_cpy (h.1 9) (h.1 34) 0 0 30 i = h.1 9 i
    exact cpy_i hi
  · intro i hi
    show va_cpy (h.1 10) (h.1 35) 0 0 30 i = h.1 10 i
    exact cpy_i hi
  · intro i hi
    show va_cpy (h.1 11) (h.1 36) 0 0 30 i = h.1 11 i
    exact cpy_i hi
  · intro i hi
    show va_cpy (h.1 12) (h.1 37) 0 0 30 i = h.1 12 i
    exact cpy_i hi
  · intro i hi
    show va_cpy (h.1 13) (h.1 38) 0 0 30 i = h.1 13 i
    exact cpy_i hi
  · intro i hi
    show va_cpy (h.1 14) (h.1 39) 0 0 30 i = h.1 14 i
    exact cpy_i hi
  · rfl
  · rfl
theorem c_becX6_26 {h : Hp} : ∃ h2, Gd mX6_become 0 [.ref 40, .ref 15] [] h (none, h2) ∧ (∀ k, ¬ (40 ≤ k ∧ k ≤ 45) → h2.1 k = h.1 k) ∧ h2.2 = h.2 ∧ (∀ i, i < 8 → h2.1 41 i = h.1 16 i) ∧ (∀ i, i < 8 → h2.1 42 i = h.1 17 i) ∧ (∀ i, i < 48 → h2.1 43 i = h.1 18 i) ∧ (∀ i, i < 48 → h2.1 44 i = h.1 19 i) ∧ (∀ i, i < 48 → h2.1 45 i = h.1 20 i) ∧ h2.1 40 5 = h.1 15 5 := by
  apply Exists.intro
  refine ⟨?_, ?_, ?_, ?_, ?_, ?_, ?_, ?_, ?_⟩
  · refine gd_ald1 dX6_become_0 (by decide) ?_
    refine gd_getR (r := 16) dX6_become_1 fl_6_9 rfl rfl rfl (by decide) ?_
    refine gd_ic0 dX6_become_4 ?_
    refine gd_ald0 dX6_become_5 (by decide) ?_
    refine gd_getR (r := 41) dX6_become_6 fl_6_9 rfl rfl rfl (by decide) ?_
    refine gd_ic0 dX6_become_9 ?_
    refine gd_bipush (v := nI 8) dX6_become_10 (by decide) ?_
    refine gd_acI (n0 := 8) (n1 := 8) dX6_become_12 ac_6_31 (Nat.le_of_ble_eq_true rfl) (Nat.le_of_ble_eq_true rfl) (Nat.le_of_ble_eq_true rfl) rfl rfl (by first | exact nI_pos (by decide) | (rw [show (nI 0).toNatClampNeg = 0 from rfl]; exact Nat.le_of_eq (by rw [nI_clamp (by decide)]))) (by first | exact nI_pos (by decide) | (rw [show (nI 0).toNatClampNeg = 0 from rfl]; exact Nat.le_of_eq (by rw [nI_clamp (by decide)]))) (by first | exact nI_pos (by decide) | (rw [show (nI 0).toNatClampNeg = 0 from rfl]; exact Nat.le_of_eq (by rw [nI_clamp (by decide)]))) (by first | exact nI_pos (by decide) | (rw [show (nI 0).toNatClampNeg = 0 from rfl]; exact Nat.le_of_eq (by rw [nI_clamp (by decide)]))) (by first | exact nI_pos (by decide) | (rw [show (nI 0).toNatClampNeg = 0 from rfl]; exact Nat.le_of_eq (by rw [nI_clamp (by decide)]))) ?_
    rw [show (nI 0).toNatClampNeg = 0 from rfl, show (nI 8).toNatClampNeg = 8 from nI_clamp (by decide)]
    refine gd_ald1 dX6_become_15 (by decide) ?_
    refine gd_getR (r := 17) dX6_become_16 fl_6_15 rfl rfl rfl (by decide) ?_
    refine gd_ic0 dX6_become_19 ?_
    refine gd_ald0 dX6_become_20 (by decide) ?_
    refine gd_getR (r := 42) dX6_become_21 fl_6_15 rfl rfl rfl (by decide) ?_
    refine gd_ic0 dX6_become_24 ?_
    refine gd_bipush (v := nI 8) dX6_become_25 (by decide) ?_
    refine gd_acI (n0 := 8) (n1 := 8) dX6_become_27 ac_6_31 (Nat.le_of_ble_eq_true rfl) (Nat.le_of_ble_eq_true rfl) (Nat.le_of_ble_eq_true rfl) rfl rfl (by first | exact nI_pos (by decide) | (rw [show (nI 0).toNatClampNeg = 0 from rfl]; exact Nat.le_of_eq (by rw [nI_clamp (by decide)]))) (by first | exact nI_pos (by decide) | (rw [show (nI 0).toNatClampNeg = 0 from rfl]; exact Nat.le_of_eq (by rw [nI_clamp (by decide)]))) (by first | exact nI_pos (by decide) | (rw [show (nI 0).toNatClampNeg = 0 from rfl]; exact Nat.le_of_eq (by rw [nI_clamp (by decide)]))) (by first | exact nI_pos (by decide) | (rw [show (nI 0).toNatClampNeg = 0 from rfl]; exact Nat.le_of_eq (by rw [nI_clamp (by decide)]))) (by first | exact nI_pos (by decide) | (rw [show (nI 0).toNatClampNeg = 0 from rfl]; exact Nat.le_of_eq (by rw [nI_clamp (by decide)]))) ?_
    rw [show (nI 0).toNatClampNeg = 0 from rfl, show (nI 8).toNatClampNeg = 8 from nI_clamp (by decide)]
    refine gd_ald1 dX6_become_30 (by decide) ?_
    refine gd_getR (r := 18) dX6_become_31 fl_6_18 rfl rfl rfl (by decide) ?_
    refine gd_ic0 dX6_become_34 ?_
    refine gd_ald0 dX6_become_35 (by decide) ?_
    refine gd_getR (r := 43) dX6_become_36 fl_6_18 rfl rfl rfl (by decide) ?_
    refine gd_ic0 dX6_become_39 ?_
    refine gd_ald0 dX6_become_40 (by decide) ?_
    refine gd_getR (r := 43) dX6_become_41 fl_6_18 rfl rfl rfl (by decide) ?_
    refine gd_alenI (n := 48) (v := nI 48) dX6_become_44 rfl rfl ?_
    refine gd_acI (n0 := 48) (n1 := 48) dX6_become_45 ac_6_31 (Nat.le_of_ble_eq_true rfl) (Nat.le_of_ble_eq_true rfl) (Nat.le_of_ble_eq_true rfl) rfl rfl (by first | exact nI_pos (by decide) | (rw [show (nI 0).toNatClampNeg = 0 from rfl]; exact Nat.le_of_eq (by rw [nI_clamp (by decide)]))) (by first | exact nI_pos (by decide) | (rw [show (nI 0).toNatClampNeg = 0 from rfl]; exact Nat.le_of_eq (by rw [nI_clamp (by decide)]))) (by first | exact nI_pos (by decide) | (rw [show (nI 0).toNatClampNeg = 0 from rfl]; exact Nat.le_of_eq (by rw [nI_clamp (by decide)]))) (by first | exact nI_pos (by decide) | (rw [show (nI 0).toNatClampNeg = 0 from rfl]; exact Nat.le_of_eq (by rw [nI_clamp (by decide)]))) (by first | exact nI_pos (by decide) | (rw [show (nI 0).toNatClampNeg = 0 from rfl]; exact Nat.le_of_eq (by rw [nI_clamp (by decide)]))) ?_
    rw [show (nI 0).toNatClampNeg = 0 from rfl, show (nI 48).toNatClampNeg = 48 from nI_clamp (by decide)]
    refine gd_ald1 dX6_become_48 (by decide) ?_
    refine gd_getR (r := 19) dX6_become_49 fl_6_21 rfl rfl rfl (by decide) ?_
    refine gd_ic0 dX6_become_52 ?_
    refine gd_ald0 dX6_become_53 (by decide) ?_
    refine gd_getR (r := 44) dX6_become_54 fl_6_21 rfl rfl rfl (by decide) ?_
    refine gd_ic0 dX6_become_57 ?_
    refine gd_ald0 dX6_become_58 (by decide) ?_
    refine gd_getR (r := 44) dX6_become_59 fl_6_21 rfl rfl rfl (by decide) ?_
    refine gd_alenI (n := 48) (v := nI 48) dX6_become_62 rfl rfl ?_
    refine gd_acI (n0 := 48) (n1 := 48) dX6_become_63 ac_6_31 (Nat.le_of_ble_eq_true rfl) (Nat.le_of_ble_eq_true rfl) (Nat.le_of_ble_eq_true rfl) rfl rfl (by first | exact nI_pos (by decide) | (rw [show (nI 0).toNatClampNeg = 0 from rfl]; exact Nat.le_of_eq (by rw [nI_clamp (by decide)]))) (by first | exact nI_pos (by decide) | (rw [show (nI 0).toNatClampNeg = 0 from rfl]; exact Nat.le_of_eq (by rw [nI_clamp (by decide)]))) (by first | exact nI_pos (by decide) | (rw [show (nI 0).toNatClampNeg = 0 from rfl]; exact Nat.le_of_eq (by rw [nI_clamp (by decide)]))) (by first | exact nI_pos (by decide) | (rw [show (nI 0).toNatClampNeg = 0 from rfl]; exact Nat.le_of_eq (by rw [nI_clamp (by decide)]))) (by first | exact nI_pos (by decide) | (rw [show (nI 0).toNatClampNeg = 0 from rfl]; exact Nat.le_of_eq (by rw [nI_clamp (by decide)]))) ?_
    rw [show (nI 0).toNatClampNeg = 0 from rfl, show (nI 48).toNatClampNeg = 48 from nI_clamp (by decide)]
    refine gd_ald1 dX6_become_66 (by decide) ?_
    refine gd_getR (r := 20) dX6_become_67 fl_6_24 rfl rfl rfl (by decide) ?_
    refine gd_ic0 dX6_become_70 ?_
    refine gd_ald0 dX6_become_71 (by decide) ?_
    refine gd_getR (r := 45) dX6_become_72 fl_6_24 rfl rfl rfl (by decide) ?_
    refine gd_ic0 dX6_become_75 ?_
    refine gd_ald0 dX6_become_76 (by decide) ?_
    refine gd_getR (r := 45) dX6_become_77 fl_6_24 rfl rfl rfl (by decide) ?_
    refine gd_alenI (n := 48) (v := nI 48) dX6_become_80 rfl rfl ?_
    refine gd_acI (n0 := 48) (n1 := 48) dX6_become_81 ac_6_31 (Nat.le_of_ble_eq_true rfl) (Nat.le_of_ble_eq_true rfl) (Nat.le_of_ble_eq_true rfl) rfl rfl (by first | exact nI_pos (by decide) | (rw [show (nI 0).toNatClampNeg = 0 from rfl]; exact Nat.le_of_eq (by rw [nI_clamp (by decide)]))) (by first | exact nI_pos (by decide) | (rw [show (nI 0).toNatClampNeg = 0 from rfl]; exact Nat.le_of_eq (by rw [nI_clamp (by decide)]))) (by first | exact nI_pos (by decide) | (rw [show (nI 0).toNatClampNeg = 0 from rfl]; exact Nat.le_of_eq (by rw [nI_clamp (by decide)]))) (by first | exact nI_pos (by decide) | (rw [show (nI 0).toNatClampNeg = 0 from rfl]; exact Nat.le_of_eq (by rw [nI_clamp (by decide)]))) (by first | exact nI_pos (by decide) | (rw [show (nI 0).toNatClampNeg = 0 from rfl]; exact Nat.le_of_eq (by rw [nI_clamp (by decide)]))) ?_
    rw [show (nI 0).toNatClampNeg = 0 from rfl, show (nI 48).toNatClampNeg = 48 from nI_clamp (by decide)]
    refine gd_ald0 dX6_become_84 (by decide) ?_
    refine gd_ald1 dX6_become_85 (by decide) ?_
    refine gd_getI dX6_become_86 fl_6_27 rfl rfl ?_
    refine gd_putI dX6_become_89 fl_6_27 rfl rfl (fun _ _ _ e => by cases e; rfl) ?_
    refine gd_vret dX6_become_92 rfl ?_
    rfl
  · intro k hk
    rw [sI_n (by omega), sI_n (by omega), sI_n (by omega), sI_n (by omega), sI_n (by omega), sI_n (by omega)]
  · rfl
  · intro i hi
    show va_cpy (h.1 16) (h.1 41) 0 0 8 i = h.1 16 i
    exact cpy_i hi
  · intro i hi
    show va_cpy (h.1 17) (h.1 42) 0 0 8 i = h.1 17 i
    exact cpy_i hi
  · intro i hi
    show va_cpy (h.1 18) (h.1 43) 0 0 48 i = h.1 18 i
    exact cpy_i hi
  · intro i hi
    show va_cpy (h.1 19) (h.1 44) 0 0 48 i = h.1 19 i
    exact cpy_i hi
  · intro i hi
    show va_cpy (h.1 20) (h.1 45) 0 0 48 i = h.1 20 i
    exact cpy_i hi
  · rfl
theorem c_becX2_26 {h : Hp} : ∃ h2, Gd mX2_become 0 [.ref 46, .ref 21] [] h (none, h2) ∧ (∀ k, ¬ (46 ≤ k ∧ k ≤ 49) → h2.1 k = h.1 k) ∧ h2.2 = h.2 ∧ (∀ i, i < 20 → h2.1 47 i = h.1 22 i) ∧ (∀ i, i < 20 → h2.1 48 i = h.1 23 i) ∧ (∀ i, i < 20 → h2.1 49 i = h.1 24 i) ∧ h2.1 46 3 = h.1 21 3 := by
  apply Exists.intro
  refine ⟨?_, ?_, ?_, ?_, ?_, ?_, ?_⟩
  · refine gd_ald1 dX2_become_0 (by decide) ?_
    refine gd_getR (r := 22) dX2_become_1 fl_2_9 rfl rfl rfl (by decide) ?_
    refine gd_ic0 dX2_become_4 ?_
    refine gd_ald0 dX2_become_5 (by decide) ?_
    refine gd_getR (r := 47) dX2_become_6 fl_2_9 rfl rfl rfl (by decide) ?_
    refine gd_ic0 dX2_become_9 ?_
    refine gd_bipush (v := nI 20) dX2_become_10 (by decide) ?_
    refine gd_acI (n0 := 20) (n1 := 20) dX2_become_12 ac_2_25 (Nat.le_of_ble_eq_true rfl) (Nat.le_of_ble_eq_true rfl) (Nat.le_of_ble_eq_true rfl) rfl rfl (by first | exact nI_pos (by decide) | (rw [show (nI 0).toNatClampNeg = 0 from rfl]; exact Nat.le_of_eq (by rw [nI_clamp (by decide)]))) (by first | exact nI_pos (by decide) | (rw [show (nI 0).toNatClampNeg = 0 from rfl]; exact Nat.le_of_eq (by rw [nI_clamp (by decide)]))) (by first | exact nI_pos (by decide) | (rw [show (nI 0).toNatClampNeg = 0 from rfl]; exact Nat.le_of_eq (by rw [nI_clamp (by decide)]))) (by first | exact nI_pos (by decide) | (rw [show (nI 0).toNatClampNeg = 0 from rfl]; exact Nat.le_of_eq (by rw [nI_clamp (by decide)]))) (by first | exact nI_pos (by decide) | (rw [show (nI 0).toNatClampNeg = 0 from rfl]; exact Nat.le_of_eq (by rw [nI_clamp (by decide)]))) ?_
    rw [show (nI 0).toNatClampNeg = 0 from rfl, show (nI 20).toNatClampNeg = 20 from nI_clamp (by decide)]
    refine gd_ald1 dX2_become_15 (by decide) ?_
    refine gd_getR (r := 23) dX2_become_16 fl_2_15 rfl rfl rfl (by decide) ?_
    refine gd_ic0 dX2_become_19 ?_
    refine gd_ald0 dX2_become_20 (by decide) ?_
    refine gd_getR (r := 48) dX2_become_21 fl_2_15 rfl rfl rfl (by decide) ?_
    refine gd_ic0 dX2_become_24 ?_
    refine gd_bipush (v := nI 20) dX2_become_25 (by decide) ?_
    refine gd_acI (n0 := 20) (n1 := 20) dX2_become_27 ac_2_25 (Nat.le_of_ble_eq_true rfl) (Nat.le_of_ble_eq_true rfl) (Nat.le_of_ble_eq_true rfl) rfl rfl (by first | exact nI_pos (by decide) | (rw [show (nI 0).toNatClampNeg = 0 from rfl]; exact Nat.le_of_eq (by rw [nI_clamp (by decide)]))) (by first | exact nI_pos (by decide) | (rw [show (nI 0).toNatClampNeg = 0 from rfl]; exact Nat.le_of_eq (by rw [nI_clamp (by decide)]))) (by first | exact nI_pos (by decide) | (rw [show (nI 0).toNatClampNeg = 0 from rfl]; exact Nat.le_of_eq (by rw [nI_clamp (by decide)]))) (by first | exact nI_pos (by decide) | (rw [show (nI 0).toNatClampNeg = 0 from rfl]; exact Nat.le_of_eq (by rw [nI_clamp (by decide)]))) (by first | exact nI_pos (by decide) | (rw [show (nI 0).toNatClampNeg = 0 from rfl]; exact Nat.le_of_eq (by rw [nI_clamp (by decide)]))) ?_
    rw [show (nI 0).toNatClampNeg = 0 from rfl, show (nI 20).toNatClampNeg = 20 from nI_clamp (by decide)]
    refine gd_ald1 dX2_become_30 (by decide) ?_
    refine gd_getR (r := 24) dX2_become_31 fl_2_18 rfl rfl rfl (by decide) ?_
    refine gd_ic0 dX2_become_34 ?_
    refine gd_ald0 dX2_become_35 (by decide) ?_
    refine gd_getR (r := 49) dX2_become_36 fl_2_18 rfl rfl rfl (by decide) ?_
    refine gd_ic0 dX2_become_39 ?_
    refine gd_bipush (v := nI 20) dX2_become_40 (by decide) ?_
    refine gd_acI (n0 := 20) (n1 := 20) dX2_become_42 ac_2_25 (Nat.le_of_ble_eq_true rfl) (Nat.le_of_ble_eq_true rfl) (Nat.le_of_ble_eq_true rfl) rfl rfl (by first | exact nI_pos (by decide) | (rw [show (nI 0).toNatClampNeg = 0 from rfl]; exact Nat.le_of_eq (by rw [nI_clamp (by decide)]))) (by first | exact nI_pos (by decide) | (rw [show (nI 0).toNatClampNeg = 0 from rfl]; exact Nat.le_of_eq (by rw [nI_clamp (by decide)]))) (by first | exact nI_pos (by decide) | (rw [show (nI 0).toNatClampNeg = 0 from rfl]; exact Nat.le_of_eq (by rw [nI_clamp (by decide)]))) (by first | exact nI_pos (by decide) | (rw [show (nI 0).toNatClampNeg = 0 from rfl]; exact Nat.le_of_eq (by rw [nI_clamp (by decide)]))) (by first | exact nI_pos (by decide) | (rw [show (nI 0).toNatClampNeg = 0 from rfl]; exact Nat.le_of_eq (by rw [nI_clamp (by decide)]))) ?_
    rw [show (nI 0).toNatClampNeg = 0 from rfl, show (nI 20).toNatClampNeg = 20 from nI_clamp (by decide)]
    refine gd_ald0 dX2_become_45 (by decide) ?_
    refine gd_ald1 dX2_become_46 (by decide) ?_
    refine gd_getI dX2_become_47 fl_2_21 rfl rfl ?_
    refine gd_putI dX2_become_50 fl_2_21 rfl rfl (fun _ _ _ e => by cases e; rfl) ?_
    refine gd_vret dX2_become_53 rfl ?_
    rfl
  · intro k hk
    rw [sI_n (by omega), sI_n (by omega), sI_n (by omega), sI_n (by omega)]
  · rfl
  · intro i hi
    show va_cpy (h.1 22) (h.1 47) 0 0 20 i = h.1 22 i
    exact cpy_i hi
  · intro i hi
    show va_cpy (h.1 23) (h.1 48) 0 0 20 i = h.1 23 i
    exact cpy_i hi
  · intro i hi
    show va_cpy (h.1 24) (h.1 49) 0 0 20 i = h.1 24 i
    exact cpy_i hi
  · rfl
theorem c_become_26 {h : Hp} : ∃ h2, Gd mX7_become 0 [.ref 26, .ref 1] [] h (none, h2) ∧ (∀ k, ¬ (27 ≤ k ∧ k ≤ 49) → h2.1 k = h.1 k) ∧ h2.2 = h.2 ∧ BC 1 26 h h2 := by
  obtain ⟨h1, g1, f1, k1, a2, a3, a4, a5, a6⟩ := c_becX0_26 (h := h)
  obtain ⟨h2, g2, f2, k2, b56, b57, b58, b59, b60, b61, b62, b63, b8, b9⟩ := c_becX1_26 (h := h1)
  obtain ⟨h3, g3, f3, k3, d15, d16, d17, d18, d19, d5⟩ := c_becX6_26 (h := h2)
  obtain ⟨h4, g4, f4, k4, e21, e22, e23, e3⟩ := c_becX2_26 (h := h3)
  refine ⟨h4, ?_, ?_, ?_, ?_⟩
  · refine gd_ald0 dX7_become_0 (by decide) ?_
    refine gd_getR (r := 27) dX7_become_1 fl_7_12 rfl rfl rfl (by decide) ?_
    refine gd_ald1 dX7_become_4 (by decide) ?_
    refine gd_getR (r := 2) dX7_become_5 fl_7_12 rfl rfl rfl (by decide) ?_
    refine gd_cV1v dX7_become_8 ct_7_43 rc_27 ⟨Nat.le_of_ble_eq_true rfl, Nat.le_of_ble_eq_true rfl⟩ (Nat.le_of_ble_eq_true rfl) (Nat.le_of_ble_eq_true rfl) (g1) ?_
    refine gd_ald0 dX7_become_11 (by decide) ?_
    refine gd_getR (r := 31) dX7_become_12 fl_7_21 rfl rfl rfl (by decide) ?_
    refine gd_ald1 dX7_become_15 (by decide) ?_
    refine gd_getR (r := 6) dX7_become_16 fl_7_21 rfl rfl rfl (by decide) ?_
    refine gd_cV1v dX7_become_19 ct_7_47 rc_31 ⟨Nat.le_of_ble_eq_true rfl, Nat.le_of_ble_eq_true rfl⟩ (Nat.le_of_ble_eq_true rfl) (Nat.le_of_ble_eq_true rfl) (g2) ?_
    refine gd_ald0 dX7_become_22 (by decide) ?_
    refine gd_getR (r := 40) dX7_become_23 fl_7_28 rfl rfl rfl (by decide) ?_
    refine gd_ald1 dX7_become_26 (by decide) ?_
    refine gd_getR (r := 15) dX7_become_27 fl_7_28 rfl rfl rfl (by decide) ?_
    refine gd_cV1v dX7_become_30 ct_7_50 rc_40 ⟨Nat.le_of_ble_eq_true rfl, Nat.le_of_ble_eq_true rfl⟩ (Nat.le_of_ble_eq_true rfl) (Nat.le_of_ble_eq_true rfl) (g3) ?_
    refine gd_ald0 dX7_become_33 (by decide) ?_
    refine gd_getR (r := 46) dX7_become_34 fl_7_35 rfl rfl rfl (by decide) ?_
    refine gd_ald1 dX7_become_37 (by decide) ?_
    refine gd_getR (r := 21) dX7_become_38 fl_7_35 rfl rfl rfl (by decide) ?_
    refine gd_cV1v dX7_become_41 ct_7_53 rc_46 ⟨Nat.le_of_ble_eq_true rfl, Nat.le_of_ble_eq_true rfl⟩ (Nat.le_of_ble_eq_true rfl) (Nat.le_of_ble_eq_true rfl) (g4) ?_
    refine gd_vret dX7_become_44 rfl ?_
    rfl
  · intro k hk
    rw [f4 k (by omega), f3 k (by omega), f2 k (by omega), f1 k (by omega)]
  · rw [k4, k3, k2, k1]
  · have L : ∀ j, 31 ≤ j → j ≤ 39 → h4.1 j = h2.1 j := fun j q1 q2 => by rw [f4 j (by omega), f3 j (by omega)]
    have T : ∀ j, 40 ≤ j → j ≤ 45 → h4.1 j = h3.1 j := fun j q1 q2 => f4 j (by omega)
    have Z : ∀ j, 27 ≤ j → j ≤ 30 → h4.1 j = h1.1 j := fun j q1 q2 => by rw [f4 j (by omega), f3 j (by omega), f2 j (by omega)]
    have S1 : ∀ j, 2 ≤ j → j ≤ 24 → h1.1 j = h.1 j := fun j q1 q2 => f1 j (by omega)
    have S2 : ∀ j, 2 ≤ j → j ≤ 24 → h2.1 j = h.1 j := fun j q1 q2 => by rw [f2 j (by omega), f1 j (by omega)]
    have S3 : ∀ j, 2 ≤ j → j ≤ 24 → h3.1 j = h.1 j := fun j q1 q2 => by rw [f3 j (by omega), f2 j (by omega), f1 j (by omega)]
    refine ⟨⟨?_, ?_, ?_, ?_, ?_, ?_⟩, ⟨?_, ?_, ?_⟩, ?_, ⟨?_, ?_⟩, ?_⟩
    · show h4.1 27 3 = _; rw [Z 27 (by decide) (by decide)]; exact a5
    · show h4.1 27 4 = _; rw [Z 27 (by decide) (by decide)]; exact a6
    · show h4.1 31 8 = h.1 6 8; rw [L 31 (by decide) (by decide), b8, S1 6 (by decide) (by decide)]
    · show h4.1 31 9 = h.1 6 9; rw [L 31 (by decide) (by decide), b9, S1 6 (by decide) (by decide)]
    · show h4.1 40 5 = h.1 15 5; rw [T 40 (by decide) (by decide), d5, S2 15 (by decide) (by decide)]
    · show h4.1 46 3 = h.1 21 3; rw [e3, S3 21 (by decide) (by decide)]
    · intro i hi; show h4.1 28 i = _; rw [Z 28 (by decide) (by decide)]; exact a2 i hi
    · intro i hi; show h4.1 29 i = _; rw [Z 29 (by decide) (by decide)]; exact a3 i hi
    · intro i hi; show h4.1 30 i = _; rw [Z 30 (by decide) (by decide)]; exact a4 i hi
    · intro j q1 q2 i hi
      rcases (show j = 6 ∨ j = 7 ∨ j = 8 ∨ j = 9 ∨ j = 10 ∨ j = 11 ∨ j = 12 ∨ j = 13 by omega) with z | z | z | z | z | z | z | z
      · subst z; show h4.1 32 i = h.1 7 i; rw [L 32 (by decide) (by decide), b56 i hi, S1 7 (by decide) (by decide)]
      · subst z; show h4.1 33 i = h.1 8 i; rw [L 33 (by decide) (by decide), b57 i hi, S1 8 (by decide) (by decide)]
      · subst z; show h4.1 34 i = h.1 9 i; rw [L 34 (by decide) (by decide), b58 i hi, S1 9 (by decide) (by decide)]
      · subst z; show h4.1 35 i = h.1 10 i; rw [L 35 (by decide) (by decide), b59 i hi, S1 10 (by decide) (by decide)]
      · subst z; show h4.1 36 i = h.1 11 i; rw [L 36 (by decide) (by decide), b60 i hi, S1 11 (by decide) (by decide)]
      · subst z; show h4.1 37 i = h.1 12 i; rw [L 37 (by decide) (by decide), b61 i hi, S1 12 (by decide) (by decide)]
      · subst z; show h4.1 38 i = h.1 13 i; rw [L 38 (by decide) (by decide), b62 i hi, S1 13 (by decide) (by decide)]
      · subst z; show h4.1 39 i = h.1 14 i; rw [L 39 (by decide) (by decide), b63 i hi, S1 14 (by decide) (by decide)]
    · intro j q1 q2 i hi
      rcases (show j = 15 ∨ j = 16 by omega) with z | z
      · subst z; show h4.1 41 i = h.1 16 i; rw [T 41 (by decide) (by decide), d15 i hi, S2 16 (by decide) (by decide)]
      · subst z; show h4.1 42 i = h.1 17 i; rw [T 42 (by decide) (by decide), d16 i hi, S2 17 (by decide) (by decide)]
    · intro j q1 q2 i hi
      rcases (show j = 17 ∨ j = 18 ∨ j = 19 by omega) with z | z | z
      · subst z; show h4.1 43 i = h.1 18 i; rw [T 43 (by decide) (by decide), d17 i hi, S2 18 (by decide) (by decide)]
      · subst z; show h4.1 44 i = h.1 19 i; rw [T 44 (by decide) (by decide), d18 i hi, S2 19 (by decide) (by decide)]
      · subst z; show h4.1 45 i = h.1 20 i; rw [T 45 (by decide) (by decide), d19 i hi, S2 20 (by decide) (by decide)]
    · intro j q1 q2 i hi
      rcases (show j = 21 ∨ j = 22 ∨ j = 23 by omega) with z | z | z
      · subst z; show h4.1 47 i = h.1 22 i; rw [e21 i hi, S3 22 (by decide) (by decide)]
      · subst z; show h4.1 48 i = h.1 23 i; rw [e22 i hi, S3 23 (by decide) (by decide)]
      · subst z; show h4.1 49 i = h.1 24 i; rw [e23 i hi, S3 24 (by decide) (by decide)]
theorem c_becX0_1 {h : Hp} : ∃ h2, Gd mX0_become 0 [.ref 2, .ref 27] [] h (none, h2) ∧ (∀ k, ¬ (2 ≤ k ∧ k ≤ 5) → h2.1 k = h.1 k) ∧ h2.2 = h.2 ∧ (∀ i, i < 144 → h2.1 3 i = h.1 28 i) ∧ (∀ i, i < 16 → h2.1 4 i = h.1 29 i) ∧ (∀ i, i < 96 → h2.1 5 i = h.1 30 i) ∧ h2.1 2 3 = h.1 27 3 ∧ h2.1 2 4 = h.1 27 4 := by
  apply Exists.intro
  refine ⟨?_, ?_, ?_, ?_, ?_, ?_, ?_, ?_⟩
  · refine gd_ald1 dX0_become_0 (by decide) ?_
    refine gd_getR (r := 28) dX0_become_1 fl_0_9 rfl rfl rfl (by decide) ?_
    refine gd_ic0 dX0_become_4 ?_
    refine gd_ald0 dX0_become_5 (by decide) ?_
    refine gd_getR (r := 3) dX0_become_6 fl_0_9 rfl rfl rfl (by decide) ?_
    refine gd_ic0 dX0_become_9 ?_
    refine gd_sipush (v := nI 144) dX0_become_10 (by decide) ?_
    refine gd_acI (n0 := 144) (n1 := 144) dX0_become_13 ac_0_28 (Nat.le_of_ble_eq_true rfl) (Nat.le_of_ble_eq_true rfl) (Nat.le_of_ble_eq_true rfl) rfl rfl (by first | exact nI_pos (by decide) | (rw [show (nI 0).toNatClampNeg = 0 from rfl]; exact Nat.le_of_eq (by rw [nI_clamp (by decide)]))) (by first | exact nI_pos (by decide) | (rw [show (nI 0).toNatClampNeg = 0 from rfl]; exact Nat.le_of_eq (by rw [nI_clamp (by decide)]))) (by first | exact nI_pos (by decide) | (rw [show (nI 0).toNatClampNeg = 0 from rfl]; exact Nat.le_of_eq (by rw [nI_clamp (by decide)]))) (by first | exact nI_pos (by decide) | (rw [show (nI 0).toNatClampNeg = 0 from rfl]; exact Nat.le_of_eq (by rw [nI_clamp (by decide)]))) (by first | exact nI_pos (by decide) | (rw [show (nI 0).toNatClampNeg = 0 from rfl]; exact Nat.le_of_eq (by rw [nI_clamp (by decide)]))) ?_
    rw [show (nI 0).toNatClampNeg = 0 from rfl, show (nI 144).toNatClampNeg = 144 from nI_clamp (by decide)]
    refine gd_ald1 dX0_become_16 (by decide) ?_
    refine gd_getR (r := 29) dX0_become_17 fl_0_15 rfl rfl rfl (by decide) ?_
    refine gd_ic0 dX0_become_20 ?_
    refine gd_ald0 dX0_become_21 (by decide) ?_
    refine gd_getR (r := 4) dX0_become_22 fl_0_15 rfl rfl rfl (by decide) ?_
    refine gd_ic0 dX0_become_25 ?_
    refine gd_bipush (v := nI 16) dX0_become_26 (by decide) ?_
    refine gd_acI (n0 := 16) (n1 := 16) dX0_become_28 ac_0_28 (Nat.le_of_ble_eq_true rfl) (Nat.le_of_ble_eq_true rfl) (Nat.le_of_ble_eq_true rfl) rfl rfl (by first | exact nI_pos (by decide) | (rw [show (nI 0).toNatClampNeg = 0 from rfl]; exact Nat.le_of_eq (by rw [nI_clamp (by decide)]))) (by first | exact nI_pos (by decide) | (rw [show (nI 0).toNatClampNeg = 0 from rfl]; exact Nat.le_of_eq (by rw [nI_clamp (by decide)]))) (by first | exact nI_pos (by decide) | (rw [show (nI 0).toNatClampNeg = 0 from rfl]; exact Nat.le_of_eq (by rw [nI_clamp (by decide)]))) (by first | exact nI_pos (by decide) | (rw [show (nI 0).toNatClampNeg = 0 from rfl]; exact Nat.le_of_eq (by rw [nI_clamp (by decide)]))) (by first | exact nI_pos (by decide) | (rw [show (nI 0).toNatClampNeg = 0 from rfl]; exact Nat.le_of_eq (by rw [nI_clamp (by decide)]))) ?_
    rw [show (nI 0).toNatClampNeg = 0 from rfl, show (nI 16).toNatClampNeg = 16 from nI_clamp (by decide)]
    refine gd_ald1 dX0_become_31 (by decide) ?_
    refine gd_getR (r := 30) dX0_become_32 fl_0_18 rfl rfl rfl (by decide) ?_
    refine gd_ic0 dX0_become_35 ?_
    refine gd_ald0 dX0_become_36 (by decide) ?_
    refine gd_getR (r := 5) dX0_become_37 fl_0_18 rfl rfl rfl (by decide) ?_
    refine gd_ic0 dX0_become_40 ?_
    refine gd_ald0 dX0_become_41 (by decide) ?_
    refine gd_getR (r := 5) dX0_become_42 fl_0_18 rfl rfl rfl (by decide) ?_
    refine gd_alenI (n := 96) (v := nI 96) dX0_become_45 rfl rfl ?_
    refine gd_acI (n0 := 96) (n1 := 96) dX0_become_46 ac_0_28 (Nat.le_of_ble_eq_true rfl) (Nat.le_of_ble_eq_true rfl) (Nat.le_of_ble_eq_true rfl) rfl rfl (by first | exact nI_pos (by decide) | (rw [show (nI 0).toNatClampNeg = 0 from rfl]; exact Nat.le_of_eq (by rw [nI_clamp (by decide)]))) (by first | exact nI_pos (by decide) | (rw [show (nI 0).toNatClampNeg = 0 from rfl]; exact Nat.le_of_eq (by rw [nI_clamp (by decide)]))) (by first | exact nI_pos (by decide) | (rw [show (nI 0).toNatClampNeg = 0 from rfl]; exact Nat.le_of_eq (by rw [nI_clamp (by decide)]))) (by first | exact nI_pos (by decide) | (rw [show (nI 0).toNatClampNeg = 0 from rfl]; exact Nat.le_of_eq (by rw [nI_clamp (by decide)]))) (by first | exact nI_pos (by decide) | (rw [show (nI 0).toNatClampNeg = 0 from rfl]; exact Nat.le_of_eq (by rw [nI_clamp (by decide)]))) ?_
    rw [show (nI 0).toNatClampNeg = 0 from rfl, show (nI 96).toNatClampNeg = 96 from nI_clamp (by decide)]
    refine gd_ald0 dX0_become_49 (by decide) ?_
    refine gd_ald1 dX0_become_50 (by decide) ?_
    refine gd_getI dX0_become_51 fl_0_21 rfl rfl ?_
    refine gd_putI dX0_become_54 fl_0_21 rfl rfl (fun _ _ _ e => by cases e; rfl) ?_
    refine gd_ald0 dX0_become_57 (by decide) ?_
    refine gd_ald1 dX0_become_58 (by decide) ?_
    refine gd_getI dX0_become_59 fl_0_25 rfl rfl ?_
    refine gd_putI dX0_become_62 fl_0_25 rfl rfl (fun _ _ _ e => by cases e; rfl) ?_
    refine gd_vret dX0_become_65 rfl ?_
    rfl
  · intro k hk
    rw [sI_n (by omega), sI_n (by omega), sI_n (by omega), sI_n (by omega), sI_n (by omega)]
  · rfl
  · intro i hi
    show va_cpy (h.1 28) (h.1 3) 0 0 144 i = h.1 28 i
    exact cpy_i hi
  · intro i hi
    show va_cpy (h.1 29) (h.1 4) 0 0 16 i = h.1 29 i
    exact cpy_i hi
  · intro i hi
    show va_cpy (h.1 30) (h.1 5) 0 0 96 i = h.1 30 i
    exact cpy_i hi
  · rfl
  · rfl
theorem c_becX1_1 {h : Hp} : ∃ h2, Gd mX1_become 0 [.ref 6, .ref 31] [] h (none, h2) ∧ (∀ k, ¬ (6 ≤ k ∧ k ≤ 14) → h2.1 k = h.1 k) ∧ h2.2 = h.2 ∧ (∀ i, i < 30 → h2.1 7 i = h.1 32 i) ∧ (∀ i, i < 30 → h2.1 8 i = h.1 33 i) ∧ (∀ i, i < 30 → h2.1 9 i = h.1 34 i) ∧ (∀ i, i < 30 → h2.1 10 i = h.1 35 i) ∧ (∀ i, i < 30 → h2.1 11 i = h.1 36 i) ∧ (∀ i, i < 30 → h2.1 12 i = h.1 37 i) ∧ (∀ i, i < 30 → h2.1 13 i = h.1 38 i) ∧ (∀ i, i < 30 → h2.1 14 i = h.1 39 i) ∧ h2.1 6 8 = h.1 31 8 ∧ h2.1 6 9 = h.1 31 9 := by
  apply Exists.intro
  refine ⟨?_, ?_, ?_, ?_, ?_, ?_, ?_, ?_, ?_, ?_, ?_, ?_, ?_⟩
  · refine gd_ald1 dX1_become_0 (by decide) ?_
    refine gd_getR (r := 32) dX1_become_1 fl_1_9 rfl rfl rfl (by decide) ?_
    refine gd_ic0 dX1_become_4 ?_
    refine gd_ald0 dX1_become_5 (by decide) ?_
    refine gd_getR (r := 7) dX1_become_6 fl_1_9 rfl rfl rfl (by decide) ?_
    refine gd_ic0 dX1_become_9 ?_
    refine gd_bipush (v := nI 30) dX1_become_10 (by decide) ?_
    refine gd_acI (n0 := 30) (n1 := 30) dX1_become_12 ac_1_43 (Nat.le_of_ble_eq_true rfl) (Nat.le_of_ble_eq_true rfl) (Nat.le_of_ble_eq_true rfl) rfl rfl (by first | exact nI_pos (by decide) | (rw [show (nI 0).toNatClampNeg = 0 from rfl]; exact Nat.le_of_eq (by rw [nI_clamp (by decide)]))) (by first | exact nI_pos (by decide) | (rw [show (nI 0).toNatClampNeg = 0 from rfl]; exact Nat.le_of_eq (by rw [nI_clamp (by decide)]))) (by first | exact nI_pos (by decide) | (rw [show (nI 0).toNatClampNeg = 0 from rfl]; exact Nat.le_of_eq (by rw [nI_clamp (by decide)]))) (by first | exact nI_pos (by decide) | (rw [show (nI 0).toNatClampNeg = 0 from rfl]; exact Nat.le_of_eq (by rw [nI_clamp (by decide)]))) (by first | exact nI_pos (by decide) | (rw [show (nI 0).toNatClampNeg = 0 from rfl]; exact Nat.le_of_eq (by rw [nI_clamp (by decide)]))) ?_
    rw [show (nI 0).toNatClampNeg = 0 from rfl, show (nI 30).toNatClampNeg = 30 from nI_clamp (by decide)]
    refine gd_ald1 dX1_become_15 (by decide) ?_
    refine gd_getR (r := 33) dX1_become_16 fl_1_15 rfl rfl rfl (by decide) ?_
    refine gd_ic0 dX1_become_19 ?_
    refine gd_ald0 dX1_become_20 (by decide) ?_
    refine gd_getR (r := 8) dX1_become_21 fl_1_15 rfl rfl rfl (by decide) ?_
    refine gd_ic0 dX1_become_24 ?_
    refine gd_bipush (v := nI 30) dX1_become_25 (by decide) ?_
    refine gd_acI (n0 := 30) (n1 := 30) dX1_become_27 ac_1_43 (Nat.le_of_ble_eq_true rfl) (Nat.le_of_ble_eq_true rfl) (Nat.le_of_ble_eq_true rfl) rfl rfl (by first | exact nI_pos (by decide) | (rw [show (nI 0).toNatClampNeg = 0 from rfl]; exact Nat.le_of_eq (by rw [nI_clamp (by decide)]))) (by first | exact nI_pos (by decide) | (rw [show (nI 0).toNatClampNeg = 0 from rfl]; exact Nat.le_of_eq (by rw [nI_clamp (by decide)]))) (by first | exact nI_pos (by decide) | (rw [show (nI 0).toNatClampNeg = 0 from rfl]; exact Nat.le_of_eq (by rw [nI_clamp (by decide)]))) (by first | exact nI_pos (by decide) | (rw [show (nI 0).toNatClampNeg = 0 from rfl]; exact Nat.le_of_eq (by rw [nI_clamp (by decide)]))) (by first | exact nI_pos (by decide) | (rw [show (nI 0).toNatClampNeg = 0 from rfl]; exact Nat.le_of_eq (by rw [nI_clamp (by decide)]))) ?_
    rw [show (nI 0).toNatClampNeg = 0 from rfl, show (nI 30).toNatClampNeg = 30 from nI_clamp (by decide)]
    refine gd_ald1 dX1_become_30 (by decide) ?_
    refine gd_getR (r := 34) dX1_become_31 fl_1_18 rfl rfl rfl (by decide) ?_
    refine gd_ic0 dX1_become_34 ?_
    refine gd_ald0 dX1_become_35 (by decide) ?_
    refine gd_getR (r := 9) dX1_become_36 fl_1_18 rfl rfl rfl (by decide) ?_
    refine gd_ic0 dX1_become_39 ?_
    refine gd_bipush (v := nI 30) dX1_become_40 (by decide) ?_
    refine gd_acI (n0 := 30) (n1 := 30) dX1_become_42 ac_1_43 (Nat.le_of_ble_eq_true rfl) (Nat.le_of_ble_eq_true rfl) (Nat.le_of_ble_eq_true rfl) rfl rfl (by first | exact nI_pos (by decide) | (rw [show (nI 0).toNatClampNeg = 0 from rfl]; exact Nat.le_of_eq (by rw [nI_clamp (by decide)]))) (by first | exact nI_pos (by decide) | (rw [show (nI 0).toNatClampNeg = 0 from rfl]; exact Nat.le_of_eq (by rw [nI_clamp (by decide)]))) (by first | exact nI_pos (by decide) | (rw [show (nI 0).toNatClampNeg = 0 from rfl]; exact Nat.le_of_eq (by rw [nI_clamp (by decide)]))) (by first | exact nI_pos (by decide) | (rw [show (nI 0).toNatClampNeg = 0 from rfl]; exact Nat.le_of_eq (by rw [nI_clamp (by decide)]))) (by first | exact nI_pos (by decide) | (rw [show (nI 0).toNatClampNeg = 0 from rfl]; exact Nat.le_of_eq (by rw [nI_clamp (by decide)]))) ?_
    rw [show (nI 0).toNatClampNeg = 0 from rfl, show (nI 30).toNatClampNeg = 30 from nI_clamp (by decide)]
    refine gd_ald1 dX1_become_45 (by decide) ?_
    refine gd_getR (r := 35) dX1_become_46 fl_1_21 rfl rfl rfl (by decide) ?_
    refine gd_ic0 dX1_become_49 ?_
    refine gd_ald0 dX1_become_50 (by decide) ?_
    refine gd_getR (r := 10) dX1_become_51 fl_1_21 rfl rfl rfl (by decide) ?_
    refine gd_ic0 dX1_become_54 ?_
    refine gd_bipush (v := nI 30) dX1_become_55 (by decide) ?_
    refine gd_acI (n0 := 30) (n1 := 30) dX1_become_57 ac_1_43 (Nat.le_of_ble_eq_true rfl) (Nat.le_of_ble_eq_true rfl) (Nat.le_of_ble_eq_true rfl) rfl rfl (by first | exact nI_pos (by decide) | (rw [show (nI 0).toNatClampNeg = 0 from rfl]; exact Nat.le_of_eq (by rw [nI_clamp (by decide)]))) (by first | exact nI_pos (by decide) | (rw [show (nI 0).toNatClampNeg = 0 from rfl]; exact Nat.le_of_eq (by rw [nI_clamp (by decide)]))) (by first | exact nI_pos (by decide) | (rw [show (nI 0).toNatClampNeg = 0 from rfl]; exact Nat.le_of_eq (by rw [nI_clamp (by decide)]))) (by first | exact nI_pos (by decide) | (rw [show (nI 0).toNatClampNeg = 0 from rfl]; exact Nat.le_of_eq (by rw [nI_clamp (by decide)]))) (by first | exact nI_pos (by decide) | (rw [show (nI 0).toNatClampNeg = 0 from rfl]; exact Nat.le_of_eq (by rw [nI_clamp (by decide)]))) ?_
    rw [show (nI 0).toNatClampNeg = 0 from rfl, show (nI 30).toNatClampNeg = 30 from nI_clamp (by decide)]
    refine gd_ald1 dX1_become_60 (by decide) ?_
    refine gd_getR (r := 36) dX1_become_61 fl_1_24 rfl rfl rfl (by decide) ?_
    refine gd_ic0 dX1_become_64 ?_
    refine gd_ald0 dX1_become_65 (by decide) ?_
    refine gd_getR (r := 11) dX1_become_66 fl_1_24 rfl rfl rfl (by decide) ?_
    refine gd_ic0 dX1_become_69 ?_
    refine gd_bipush (v := nI 30) dX1_become_70 (by decide) ?_
    refine gd_acI (n0 := 30) (n1 := 30) dX1_become_72 ac_1_43 (Nat.le_of_ble_eq_true rfl) (Nat.le_of_ble_eq_true rfl) (Nat.le_of_ble_eq_true rfl) rfl rfl (by first | exact nI_pos (by decide) | (rw [show (nI 0).toNatClampNeg = 0 from rfl]; exact Nat.le_of_eq (by rw [nI_clamp (by decide)]))) (by first | exact nI_pos (by decide) | (rw [show (nI 0).toNatClampNeg = 0 from rfl]; exact Nat.le_of_eq (by rw [nI_clamp (by decide)]))) (by first | exact nI_pos (by decide) | (rw [show (nI 0).toNatClampNeg = 0 from rfl]; exact Nat.le_of_eq (by rw [nI_clamp (by decide)]))) (by first | exact nI_pos (by decide) | (rw [show (nI 0).toNatClampNeg = 0 from rfl]; exact Nat.le_of_eq (by rw [nI_clamp (by decide)]))) (by first | exact nI_pos (by decide) | (rw [show (nI 0).toNatClampNeg = 0 from rfl]; exact Nat.le_of_eq (by rw [nI_clamp (by decide)]))) ?_
    rw [show (nI 0).toNatClampNeg = 0 from rfl, show (nI 30).toNatClampNeg = 30 from nI_clamp (by decide)]
    refine gd_ald1 dX1_become_75 (by decide) ?_
    refine gd_getR (r := 37) dX1_become_76 fl_1_27 rfl rfl rfl (by decide) ?_
    refine gd_ic0 dX1_become_79 ?_
    refine gd_ald0 dX1_become_80 (by decide) ?_
    refine gd_getR (r := 12) dX1_become_81 fl_1_27 rfl rfl rfl (by decide) ?_
    refine gd_ic0 dX1_become_84 ?_
    refine gd_bipush (v := nI 30) dX1_become_85 (by decide) ?_
    refine gd_acI (n0 := 30) (n1 := 30) dX1_become_87 ac_1_43 (Nat.le_of_ble_eq_true rfl) (Nat.le_of_ble_eq_true rfl) (Nat.le_of_ble_eq_true rfl) rfl rfl (by first | exact nI_pos (by decide) | (rw [show (nI 0).toNatClampNeg = 0 from rfl]; exact Nat.le_of_eq (by rw [nI_clamp (by decide)]))) (by first | exact nI_pos (by decide) | (rw [show (nI 0).toNatClampNeg = 0 from rfl]; exact Nat.le_of_eq (by rw [nI_clamp (by decide)]))) (by first | exact nI_pos (by decide) | (rw [show (nI 0).toNatClampNeg = 0 from rfl]; exact Nat.le_of_eq (by rw [nI_clamp (by decide)]))) (by first | exact nI_pos (by decide) | (rw [show (nI 0).toNatClampNeg = 0 from rfl]; exact Nat.le_of_eq (by rw [nI_clamp (by decide)]))) (by first | exact nI_pos (by decide) | (rw [show (nI 0).toNatClampNeg = 0 from rfl]; exact Nat.le_of_eq (by rw [nI_clamp (by decide)]))) ?_
    rw [show (nI 0).toNatClampNeg = 0 from rfl, show (nI 30).toNatClampNeg = 30 from nI_clamp (by decide)]
    refine gd_ald1 dX1_become_90 (by decide) ?_
    refine gd_getR (r := 38) dX1_become_91 fl_1_30 rfl rfl rfl (by decide) ?_
    refine gd_ic0 dX1_become_94 ?_
    refine gd_ald0 dX1_become_95 (by decide) ?_
    refine gd_getR (r := 13) dX1_become_96 fl_1_30 rfl rfl rfl (by decide) ?_
    refine gd_ic0 dX1_become_99 ?_
    refine gd_bipush (v := nI 30) dX1_become_100 (by decide) ?_
    refine gd_acI (n0 := 30) (n1 := 30) dX1_become_102 ac_1_43 (Nat.le_of_ble_eq_true rfl) (Nat.le_of_ble_eq_true rfl) (Nat.le_of_ble_eq_true rfl) rfl rfl (by first | exact nI_pos (by decide) | (rw [show (nI 0).toNatClampNeg = 0 from rfl]; exact Nat.le_of_eq (by rw [nI_clamp (by decide)]))) (by first | exact nI_pos (by decide) | (rw [show (nI 0).toNatClampNeg = 0 from rfl]; exact Nat.le_of_eq (by rw [nI_clamp (by decide)]))) (by first | exact nI_pos (by decide) | (rw [show (nI 0).toNatClampNeg = 0 from rfl]; exact Nat.le_of_eq (by rw [nI_clamp (by decide)]))) (by first | exact nI_pos (by decide) | (rw [show (nI 0).toNatClampNeg = 0 from rfl]; exact Nat.le_of_eq (by rw [nI_clamp (by decide)]))) (by first | exact nI_pos (by decide) | (rw [show (nI 0).toNatClampNeg = 0 from rfl]; exact Nat.le_of_eq (by rw [nI_clamp (by decide)]))) ?_
    rw [show (nI 0).toNatClampNeg = 0 from rfl, show (nI 30).toNatClampNeg = 30 from nI_clamp (by decide)]
    refine gd_ald1 dX1_become_105 (by decide) ?_
    refine gd_getR (r := 39) dX1_become_106 fl_1_33 rfl rfl rfl (by decide) ?_
    refine gd_ic0 dX1_become_109 ?_
    refine gd_ald0 dX1_become_110 (by decide) ?_
    refine gd_getR (r := 14) dX1_become_111 fl_1_33 rfl rfl rfl (by decide) ?_
    refine gd_ic0 dX1_become_114 ?_
    refine gd_bipush (v := nI 30) dX1_become_115 (by decide) ?_
    refine gd_acI (n0 := 30) (n1 := 30) dX1_become_117 ac_1_43 (Nat.le_of_ble_eq_true rfl) (Nat.le_of_ble_eq_true rfl) (Nat.le_of_ble_eq_true rfl) rfl rfl (by first | exact nI_pos (by decide) | (rw [show (nI 0).toNatClampNeg = 0 from rfl]; exact Nat.le_of_eq (by rw [nI_clamp (by decide)]))) (by first | exact nI_pos (by decide) | (rw [show (nI 0).toNatClampNeg = 0 from rfl]; exact Nat.le_of_eq (by rw [nI_clamp (by decide)]))) (by first | exact nI_pos (by decide) | (rw [show (nI 0).toNatClampNeg = 0 from rfl]; exact Nat.le_of_eq (by rw [nI_clamp (by decide)]))) (by first | exact nI_pos (by decide) | (rw [show (nI 0).toNatClampNeg = 0 from rfl]; exact Nat.le_of_eq (by rw [nI_clamp (by decide)]))) (by first | exact nI_pos (by decide) | (rw [show (nI 0).toNatClampNeg = 0 from rfl]; exact Nat.le_of_eq (by rw [nI_clamp (by decide)]))) ?_
    rw [show (nI 0).toNatClampNeg = 0 from rfl, show (nI 30).toNatClampNeg = 30 from nI_clamp (by decide)]
    refine gd_ald0 dX1_become_120 (by decide) ?_
    refine gd_ald1 dX1_become_121 (by decide) ?_
    refine gd_getI dX1_become_122 fl_1_36 rfl rfl ?_
    refine gd_putI dX1_become_125 fl_1_36 rfl rfl (fun _ _ _ e => by cases e; rfl) ?_
    refine gd_ald0 dX1_become_128 (by decide) ?_
    refine gd_ald1 dX1_become_129 (by decide) ?_
    refine gd_getI dX1_become_130 fl_1_40 rfl rfl ?_
    refine gd_putI dX1_become_133 fl_1_40 rfl rfl (fun _ _ _ e => by cases e; rfl) ?_
    refine gd_vret dX1_become_136 rfl ?_
    rfl
  · intro k hk
    rw [sI_n (by omega), sI_n (by omega), sI_n (by omega), sI_n (by omega), sI_n (by omega), sI_n (by omega), sI_n (by omega), sI_n (by omega), sI_n (by omega), sI_n (by omega)]
  · rfl
  · intro i hi
    show va_cpy (h.1 32) (h.1 7) 0 0 30 i = h.1 32 i
    exact cpy_i hi
  · intro i hi
    show va_cpy (h.1 33) (h.1 8) 0 0 30 i = h.1 33 i
    exact cpy_i hi
  · intro i hi
    show va_cpy (h.1 34) (h.1 9) 0 0 30 i = h.1 34 i
    exact cpy_i hi
  · intro i hi
    show va_cpy (h.1 35) (h.1 10) 0 0 30 i = h.1 35 i
    exact cpy_i hi
  · intro i hi
    show va_cpy (h.1 36) (h.1 11) 0 0 30 i = h.1 36 i
    exact cpy_i hi
  · intro i hi
    show va_cpy (h.1 37) (h.1 12) 0 0 30 i = h.1 37 i
    exact cpy_i hi
  · intro i hi
    show va_cpy (h.1 38) (h.1 13) 0 0 30 i = h.1 38 i
    exact cpy_i hi
  · intro i hi
    show va_cpy (h.1 39) (h.1 14) 0 0 30 i = h.1 39 i
    exact cpy_i hi
  · rfl
  · rfl
theorem c_becX6_1 {h : Hp} : ∃ h2, Gd mX6_become 0 [.ref 15, .ref 40] [] h (none, h2) ∧ (∀ k, ¬ (15 ≤ k ∧ k ≤ 20) → h2.1 k = h.1 k) ∧ h2.2 = h.2 ∧ (∀ i, i < 8 → h2.1 16 i = h.1 41 i) ∧ (∀ i, i < 8 → h2.1 17 i = h.1 42 i) ∧ (∀ i, i < 48 → h2.1 18 i = h.1 43 i) ∧ (∀ i, i < 48 → h2.1 19 i = h.1 44 i) ∧ (∀ i, i < 48 → h2.1 20 i = h.1 45 i) ∧ h2.1 15 5 = h.1 40 5 := by
  apply Exists.intro
  refine ⟨?_, ?_, ?_, ?_, ?_, ?_, ?_, ?_, ?_⟩
  · refine gd_ald1 dX6_become_0 (by decide) ?_
    refine gd_getR (r := 41) dX6_become_1 fl_6_9 rfl rfl rfl (by decide) ?_
    refine gd_ic0 dX6_become_4 ?_
    refine gd_ald0 dX6_become_5 (by decide) ?_
    refine gd_getR (r := 16) dX6_become_6 fl_6_9 rfl rfl rfl (by decide) ?_
    refine gd_ic0 dX6_become_9 ?_
    refine gd_bipush (v := nI 8) dX6_become_10 (by decide) ?_
    refine gd_acI (n0 := 8) (n1 := 8) dX6_become_12 ac_6_31 (Nat.le_of_ble_eq_true rfl) (Nat.le_of_ble_eq_true rfl) (Nat.le_of_ble_eq_true rfl) rfl rfl (by first | exact nI_pos (by decide) | (rw [show (nI 0).toNatClampNeg = 0 from rfl]; exact Nat.le_of_eq (by rw [nI_clamp (by decide)]))) (by first | exact nI_pos (by decide) | (rw [show (nI 0).toNatClampNeg = 0 from rfl]; exact Nat.le_of_eq (by rw [nI_clamp (by decide)]))) (by first | exact nI_pos (by decide) | (rw [show (nI 0).toNatClampNeg = 0 from rfl]; exact Nat.le_of_eq (by rw [nI_clamp (by decide)]))) (by first | exact nI_pos (by decide) | (rw [show (nI 0).toNatClampNeg = 0 from rfl]; exact Nat.le_of_eq (by rw [nI_clamp (by decide)]))) (by first | exact nI_pos (by decide) | (rw [show (nI 0).toNatClampNeg = 0 from rfl]; exact Nat.le_of_eq (by rw [nI_clamp (by decide)]))) ?_
    rw [show (nI 0).toNatClampNeg = 0 from rfl, show (nI 8).toNatClampNeg = 8 from nI_clamp (by decide)]
    refine gd_ald1 dX6_become_15 (by decide) ?_
    refine gd_getR (r := 42) dX6_become_16 fl_6_15 rfl rfl rfl (by decide) ?_
    refine gd_ic0 dX6_become_19 ?_
    refine gd_ald0 dX6_become_20 (by decide) ?_
    refine gd_getR (r := 17) dX6_become_21 fl_6_15 rfl rfl rfl (by decide) ?_
    refine gd_ic0 dX6_become_24 ?_
    refine gd_bipush (v := nI 8) dX6_become_25 (by decide) ?_
    refine gd_acI (n0 := 8) (n1 := 8) dX6_become_27 ac_6_31 (Nat.le_of_ble_eq_true rfl) (Nat.le_of_ble_eq_true rfl) (Nat.le_of_ble_eq_true rfl) rfl rfl (by first | exact nI_pos (by decide) | (rw [show (nI 0).toNatClampNeg = 0 from rfl]; exact Nat.le_of_eq (by rw [nI_clamp (by decide)]))) (by first | exact nI_pos (by decide) | (rw [show (nI 0).toNatClampNeg = 0 from rfl]; exact Nat.le_of_eq (by rw [nI_clamp (by decide)]))) (by first | exact nI_pos (by decide) | (rw [show (nI 0).toNatClampNeg = 0 from rfl]; exact Nat.le_of_eq (by rw [nI_clamp (by decide)]))) (by first | exact nI_pos (by decide) | (rw [show (nI 0).toNatClampNeg = 0 from rfl]; exact Nat.le_of_eq (by rw [nI_clamp (by decide)]))) (by first | exact nI_pos (by decide) | (rw [show (nI 0).toNatClampNeg = 0 from rfl]; exact Nat.le_of_eq (by rw [nI_clamp (by decide)]))) ?_
    rw [show (nI 0).toNatClampNeg = 0 from rfl, show (nI 8).toNatClampNeg = 8 from nI_clamp (by decide)]
    refine gd_ald1 dX6_become_30 (by decide) ?_
    refine gd_getR (r := 43) dX6_become_31 fl_6_18 rfl rfl rfl (by decide) ?_
    refine gd_ic0 dX6_become_34 ?_
    refine gd_ald0 dX6_become_35 (by decide) ?_
    refine gd_getR (r := 18) dX6_become_36 fl_6_18 rfl rfl rfl (by decide) ?_
    refine gd_ic0 dX6_become_39 ?_
    refine gd_ald0 dX6_become_40 (by decide) ?_
    refine gd_getR (r := 18) dX6_become_41 fl_6_18 rfl rfl rfl (by decide) ?_
    refine gd_alenI (n := 48) (v := nI 48) dX6_become_44 rfl rfl ?_
    refine gd_acI (n0 := 48) (n1 := 48) dX6_become_45 ac_6_31 (Nat.le_of_ble_eq_true rfl) (Nat.le_of_ble_eq_true rfl) (Nat.le_of_ble_eq_true rfl) rfl rfl (by first | exact nI_pos (by decide) | (rw [show (nI 0).toNatClampNeg = 0 from rfl]; exact Nat.le_of_eq (by rw [nI_clamp (by decide)]))) (by first | exact nI_pos (by decide) | (rw [show (nI 0).toNatClampNeg = 0 from rfl]; exact Nat.le_of_eq (by rw [nI_clamp (by decide)]))) (by first | exact nI_pos (by decide) | (rw [show (nI 0).toNatClampNeg = 0 from rfl]; exact Nat.le_of_eq (by rw [nI_clamp (by decide)]))) (by first | exact nI_pos (by decide) | (rw [show (nI 0).toNatClampNeg = 0 from rfl]; exact Nat.le_of_eq (by rw [nI_clamp (by decide)]))) (by first | exact nI_pos (by decide) | (rw [show (nI 0).toNatClampNeg = 0 from rfl]; exact Nat.le_of_eq (by rw [nI_clamp (by decide)]))) ?_
    rw [show (nI 0).toNatClampNeg = 0 from rfl, show (nI 48).toNatClampNeg = 48 from nI_clamp (by decide)]
    refine gd_ald1 dX6_become_48 (by decide) ?_
    refine gd_getR (r := 44) dX6_become_49 fl_6_21 rfl rfl rfl (by decide) ?_
    refine gd_ic0 dX6_become_52 ?_
    refine gd_ald0 dX6_become_53 (by decide) ?_
    refine gd_getR (r := 19) dX6_become_54 fl_6_21 rfl rfl rfl (by decide) ?_
    refine gd_ic0 dX6_become_57 ?_
    refine gd_ald0 dX6_become_58 (by decide) ?_
    refine gd_getR (r := 19) dX6_become_59 fl_6_21 rfl rfl rfl (by decide) ?_
    refine gd_alenI (n := 48) (v := nI 48) dX6_become_62 rfl rfl ?_
    refine gd_acI (n0 := 48) (n1 := 48) dX6_become_63 ac_6_31 (Nat.le_of_ble_eq_true rfl) (Nat.le_of_ble_eq_true rfl) (Nat.le_of_ble_eq_true rfl) rfl rfl (by first | exact nI_pos (by decide) | (rw [show (nI 0).toNatClampNeg = 0 from rfl]; exact Nat.le_of_eq (by rw [nI_clamp (by decide)]))) (by first | exact nI_pos (by decide) | (rw [show (nI 0).toNatClampNeg = 0 from rfl]; exact Nat.le_of_eq (by rw [nI_clamp (by decide)]))) (by first | exact nI_pos (by decide) | (rw [show (nI 0).toNatClampNeg = 0 from rfl]; exact Nat.le_of_eq (by rw [nI_clamp (by decide)]))) (by first | exact nI_pos (by decide) | (rw [show (nI 0).toNatClampNeg = 0 from rfl]; exact Nat.le_of_eq (by rw [nI_clamp (by decide)]))) (by first | exact nI_pos (by decide) | (rw [show (nI 0).toNatClampNeg = 0 from rfl]; exact Nat.le_of_eq (by rw [nI_clamp (by decide)]))) ?_
    rw [show (nI 0).toNatClampNeg = 0 from rfl, show (nI 48).toNatClampNeg = 48 from nI_clamp (by decide)]
    refine gd_ald1 dX6_become_66 (by decide) ?_
    refine gd_getR (r := 45) dX6_become_67 fl_6_24 rfl rfl rfl (by decide) ?_
    refine gd_ic0 dX6_become_70 ?_
    refine gd_ald0 dX6_become_71 (by decide) ?_
    refine gd_getR (r := 20) dX6_become_72 fl_6_24 rfl rfl rfl (by decide) ?_
    refine gd_ic0 dX6_become_75 ?_
    refine gd_ald0 dX6_become_76 (by decide) ?_
    refine gd_getR (r := 20) dX6_become_77 fl_6_24 rfl rfl rfl (by decide) ?_
    refine gd_alenI (n := 48) (v := nI 48) dX6_become_80 rfl rfl ?_
    refine gd_acI (n0 := 48) (n1 := 48) dX6_become_81 ac_6_31 (Nat.le_of_ble_eq_true rfl) (Nat.le_of_ble_eq_true rfl) (Nat.le_of_ble_eq_true rfl) rfl rfl (by first | exact nI_pos (by decide) | (rw [show (nI 0).toNatClampNeg = 0 from rfl]; exact Nat.le_of_eq (by rw [nI_clamp (by decide)]))) (by first | exact nI_pos (by decide) | (rw [show (nI 0).toNatClampNeg = 0 from rfl]; exact Nat.le_of_eq (by rw [nI_clamp (by decide)]))) (by first | exact nI_pos (by decide) | (rw [show (nI 0).toNatClampNeg = 0 from rfl]; exact Nat.le_of_eq (by rw [nI_clamp (by decide)]))) (by first | exact nI_pos (by decide) | (rw [show (nI 0).toNatClampNeg = 0 from rfl]; exact Nat.le_of_eq (by rw [nI_clamp (by decide)]))) (by first | exact nI_pos (by decide) | (rw [show (nI 0).toNatClampNeg = 0 from rfl]; exact Nat.le_of_eq (by rw [nI_clamp (by decide)]))) ?_
    rw [show (nI 0).toNatClampNeg = 0 from rfl, show (nI 48).toNatClampNeg = 48 from nI_clamp (by decide)]
    refine gd_ald0 dX6_become_84 (by decide) ?_
    refine gd_ald1 dX6_become_85 (by decide) ?_
    refine gd_getI dX6_become_86 fl_6_27 rfl rfl ?_
    refine gd_putI dX6_become_89 fl_6_27 rfl rfl (fun _ _ _ e => by cases e; rfl) ?_
    refine gd_vret dX6_become_92 rfl ?_
    rfl
  · intro k hk
    rw [sI_n (by omega), sI_n (by omega), sI_n (by omega), sI_n (by omega), sI_n (by omega), sI_n (by omega)]
  · rfl
  · intro i hi
    show va_cpy (h.1 41) (h.1 16) 0 0 8 i = h.1 41 i
    exact cpy_i hi
  · intro i hi
    show va_cpy (h.1 42) (h.1 17) 0 0 8 i = h.1 42 i
    exact cpy_i hi
  · intro i hi
    show va_cpy (h.1 43) (h.1 18) 0 0 48 i = h.1 43 i
    exact cpy_i hi
  · intro i hi
    show va_cpy (h.1 44) (h.1 19) 0 0 48 i = h.1 44 i
    exact cpy_i hi
  · intro i hi
    show va_cpy (h.1 45) (h.1 20) 0 0 48 i = h.1 45 i
    exact cpy_i hi
  · rfl
theorem c_becX2_1 {h : Hp} : ∃ h2, Gd mX2_become 0 [.ref 21, .ref 46] [] h (none, h2) ∧ (∀ k, ¬ (21 ≤ k ∧ k ≤ 24) → h2.1 k = h.1 k) ∧ h2.2 = h.2 ∧ (∀ i, i < 20 → h2.1 22 i = h.1 47 i) ∧ (∀ i, i < 20 → h2.1 23 i = h.1 48 i) ∧ (∀ i, i < 20 → h2.1 24 i = h.1 49 i) ∧ h2.1 21 3 = h.1 46 3 := by
  apply Exists.intro
  refine ⟨?_, ?_, ?_, ?_, ?_, ?_, ?_⟩
  · refine gd_ald1 dX2_become_0 (by decide) ?_
    refine gd_getR (r := 47) dX2_become_1 fl_2_9 rfl rfl rfl (by decide) ?_
    refine gd_ic0 dX2_become_4 ?_
    refine gd_ald0 dX2_become_5 (by decide) ?_
    refine gd_getR (r := 22) dX2_become_6 fl_2_9 rfl rfl rfl (by decide) ?_
    refine gd_ic0 dX2_become_9 ?_
    refine gd_bipush (v := nI 20) dX2_become_10 (by decide) ?_
    refine gd_acI (n0 := 20) (n1 := 20) dX2_become_12 ac_2_25 (Nat.le_of_ble_eq_true rfl) (Nat.le_of_ble_eq_true rfl) (Nat.le_of_ble_eq_true rfl) rfl rfl (by first | exact nI_pos (by decide) | (rw [show (nI 0).toNatClampNeg = 0 from rfl]; exact Nat.le_of_eq (by rw [nI_clamp (by decide)]))) (by first | exact nI_pos (by decide) | (rw [show (nI 0).toNatClampNeg = 0 from rfl]; exact Nat.le_of_eq (by rw [nI_clamp (by decide)]))) (by first | exact nI_pos (by decide) | (rw [show (nI 0).toNatClampNeg = 0 from rfl]; exact Nat.le_of_eq (by rw [nI_clamp (by decide)]))) (by first | exact nI_pos (by decide) | (rw [show (nI 0).toNatClampNeg = 0 from rfl]; exact Nat.le_of_eq (by rw [nI_clamp (by decide)]))) (by first | exact nI_pos (by decide) | (rw [show (nI 0).toNatClampNeg = 0 from rfl]; exact Nat.le_of_eq (by rw [nI_clamp (by decide)]))) ?_
    rw [show (nI 0).toNatClampNeg = 0 from rfl, show (nI 20).toNatClampNeg = 20 from nI_clamp (by decide)]
    refine gd_ald1 dX2_become_15 (by decide) ?_
    refine gd_getR (r := 48) dX2_become_16 fl_2_15 rfl rfl rfl (by decide) ?_
    refine gd_ic0 dX2_become_19 ?_
    refine gd_ald0 dX2_become_20 (by decide) ?_
    refine gd_getR (r := 23) dX2_become_21 fl_2_15 rfl rfl rfl (by decide) ?_
    refine gd_ic0 dX2_become_24 ?_
    refine gd_bipush (v := nI 20) dX2_become_25 (by decide) ?_
    refine gd_acI (n0 := 20) (n1 := 20) dX2_become_27 ac_2_25 (Nat.le_of_ble_eq_true rfl) (Nat.le_of_ble_eq_true rfl) (Nat.le_of_ble_eq_true rfl) rfl rfl (by first | exact nI_pos (by decide) | (rw [show (nI 0).toNatClampNeg = 0 from rfl]; exact Nat.le_of_eq (by rw [nI_clamp (by decide)]))) (by first | exact nI_pos (by decide) | (rw [show (nI 0).toNatClampNeg = 0 from rfl]; exact Nat.le_of_eq (by rw [nI_clamp (by decide)]))) (by first | exact nI_pos (by decide) | (rw [show (nI 0).toNatClampNeg = 0 from rfl]; exact Nat.le_of_eq (by rw [nI_clamp (by decide)]))) (by first | exact nI_pos (by decide) | (rw [show (nI 0).toNatClampNeg = 0 from rfl]; exact Nat.le_of_eq (by rw [nI_clamp (by decide)]))) (by first | exact nI_pos (by decide) | (rw [show (nI 0).toNatClampNeg = 0 from rfl]; exact Nat.le_of_eq (by rw [nI_clamp (by decide)]))) ?_
    rw [show (nI 0).toNatClampNeg = 0 from rfl, show (nI 20).toNatClampNeg = 20 from nI_clamp (by decide)]
    refine gd_ald1 dX2_become_30 (by decide) ?_
    refine gd_getR (r := 49) dX2_become_31 fl_2_18 rfl rfl rfl (by decide) ?_
    refine gd_ic0 dX2_become_34 ?_
    refine gd_ald0 dX2_become_35 (by decide) ?_
    refine gd_getR (r := 24) dX2_become_36 fl_2_18 rfl rfl rfl (by decide) ?_
    refine gd_ic0 dX2_become_39 ?_
    refine gd_bipush (v := nI 20) dX2_become_40 (by decide) ?_
    refine gd_acI (n0 := 20) (n1 := 20) dX2_become_42 ac_2_25 (Nat.le_of_ble_eq_true rfl) (Nat.le_of_ble_eq_true rfl) (Nat.le_of_ble_eq_true rfl) rfl rfl (by first | exact nI_pos (by decide) | (rw [show (nI 0).toNatClampNeg = 0 from rfl]; exact Nat.le_of_eq (by rw [nI_clamp (by decide)]))) (by first | exact nI_pos (by decide) | (rw [show (nI 0).toNatClampNeg = 0 from rfl]; exact Nat.le_of_eq (by rw [nI_clamp (by decide)]))) (by first | exact nI_pos (by decide) | (rw [show (nI 0).toNatClampNeg = 0 from rfl]; exact Nat.le_of_eq (by rw [nI_clamp (by decide)]))) (by first | exact nI_pos (by decide) | (rw [show (nI 0).toNatClampNeg = 0 from rfl]; exact Nat.le_of_eq (by rw [nI_clamp (by decide)]))) (by first | exact nI_pos (by decide) | (rw [show (nI 0).toNatClampNeg = 0 from rfl]; exact Nat.le_of_eq (by rw [nI_clamp (by decide)]))) ?_
    rw [show (nI 0).toNatClampNeg = 0 from rfl, show (nI 20).toNatClampNeg = 20 from nI_clamp (by decide)]
    refine gd_ald0 dX2_become_45 (by decide) ?_
    refine gd_ald1 dX2_become_46 (by decide) ?_
    refine gd_getI dX2_become_47 fl_2_21 rfl rfl ?_
    refine gd_putI dX2_become_50 fl_2_21 rfl rfl (fun _ _ _ e => by cases e; rfl) ?_
    refine gd_vret dX2_become_53 rfl ?_
    rfl
  · intro k hk
    rw [sI_n (by omega), sI_n (by omega), sI_n (by omega), sI_n (by omega)]
  · rfl
  · intro i hi
    show va_cpy (h.1 47) (h.1 22) 0 0 20 i = h.1 47 i
    exact cpy_i hi
  · intro i hi
    show va_cpy (h.1 48) (h.1 23) 0 0 20 i = h.1 48 i
    exact cpy_i hi
  · intro i hi
    show va_cpy (h.1 49) (h.1 24) 0 0 20 i = h.1 49 i
    exact cpy_i hi
  · rfl
theorem c_become_1 {h : Hp} : ∃ h2, Gd mX7_become 0 [.ref 1, .ref 26] [] h (none, h2) ∧ (∀ k, ¬ (2 ≤ k ∧ k ≤ 24) → h2.1 k = h.1 k) ∧ h2.2 = h.2 ∧ BC 26 1 h h2 := by
  obtain ⟨h1, g1, f1, k1, a2, a3, a4, a5, a6⟩ := c_becX0_1 (h := h)
  obtain ⟨h2, g2, f2, k2, b56, b57, b58, b59, b60, b61, b62, b63, b8, b9⟩ := c_becX1_1 (h := h1)
  obtain ⟨h3, g3, f3, k3, d15, d16, d17, d18, d19, d5⟩ := c_becX6_1 (h := h2)
  obtain ⟨h4, g4, f4, k4, e21, e22, e23, e3⟩ := c_becX2_1 (h := h3)
  refine ⟨h4, ?_, ?_, ?_, ?_⟩
  · refine gd_ald0 dX7_become_0 (by decide) ?_
    refine gd_getR (r := 2) dX7_become_1 fl_7_12 rfl rfl rfl (by decide) ?_
    refine gd_ald1 dX7_become_4 (by decide) ?_
    refine gd_getR (r := 27) dX7_become_5 fl_7_12 rfl rfl rfl (by decide) ?_
    refine gd_cV1v dX7_become_8 ct_7_43 rc_2 ⟨Nat.le_of_ble_eq_true rfl, Nat.le_of_ble_eq_true rfl⟩ (Nat.le_of_ble_eq_true rfl) (Nat.le_of_ble_eq_true rfl) (g1) ?_
    refine gd_ald0 dX7_become_11 (by decide) ?_
    refine gd_getR (r := 6) dX7_become_12 fl_7_21 rfl rfl rfl (by decide) ?_
    refine gd_ald1 dX7_become_15 (by decide) ?_
    refine gd_getR (r := 31) dX7_become_16 fl_7_21 rfl rfl rfl (by decide) ?_
    refine gd_cV1v dX7_become_19 ct_7_47 rc_6 ⟨Nat.le_of_ble_eq_true rfl, Nat.le_of_ble_eq_true rfl⟩ (Nat.le_of_ble_eq_true rfl) (Nat.le_of_ble_eq_true rfl) (g2) ?_
    refine gd_ald0 dX7_become_22 (by decide) ?_
    refine gd_getR (r := 15) dX7_become_23 fl_7_28 rfl rfl rfl (by decide) ?_
    refine gd_ald1 dX7_become_26 (by decide) ?_
    refine gd_getR (r := 40) dX7_become_27 fl_7_28 rfl rfl rfl (by decide) ?_
    refine gd_cV1v dX7_become_30 ct_7_50 rc_15 ⟨Nat.le_of_ble_eq_true rfl, Nat.le_of_ble_eq_true rfl⟩ (Nat.le_of_ble_eq_true rfl) (Nat.le_of_ble_eq_true rfl) (g3) ?_
    refine gd_ald0 dX7_become_33 (by decide) ?_
    refine gd_getR (r := 21) dX7_become_34 fl_7_35 rfl rfl rfl (by decide) ?_
    refine gd_ald1 dX7_become_37 (by decide) ?_
    refine gd_getR (r := 46) dX7_become_38 fl_7_35 rfl rfl rfl (by decide) ?_
    refine gd_cV1v dX7_become_41 ct_7_53 rc_21 ⟨Nat.le_of_ble_eq_true rfl, Nat.le_of_ble_eq_true rfl⟩ (Nat.le_of_ble_eq_true rfl) (Nat.le_of_ble_eq_true rfl) (g4) ?_
    refine gd_vret dX7_become_44 rfl ?_
    rfl
  · intro k hk
    rw [f4 k (by omega), f3 k (by omega), f2 k (by omega), f1 k (by omega)]
  · rw [k4, k3, k2, k1]
  · have L : ∀ j, 6 ≤ j → j ≤ 14 → h4.1 j = h2.1 j := fun j q1 q2 => by rw [f4 j (by omega), f3 j (by omega)]
    have T : ∀ j, 15 ≤ j → j ≤ 20 → h4.1 j = h3.1 j := fun j q1 q2 => f4 j (by omega)
    have Z : ∀ j, 2 ≤ j → j ≤ 5 → h4.1 j = h1.1 j := fun j q1 q2 => by rw [f4 j (by omega), f3 j (by omega), f2 j (by omega)]
    have S1 : ∀ j, 27 ≤ j → j ≤ 49 → h1.1 j = h.1 j := fun j q1 q2 => f1 j (by omega)
    have S2 : ∀ j, 27 ≤ j → j ≤ 49 → h2.1 j = h.1 j := fun j q1 q2 => by rw [f2 j (by omega), f1 j (by omega)]
    have S3 : ∀ j, 27 ≤ j → j ≤ 49 → h3.1 j = h.1 j := fun j q1 q2 => by rw [f3 j (by omega), f2 j (by omega), f1 j (by omega)]
    refine ⟨⟨?_, ?_, ?_, ?_, ?_, ?_⟩, ⟨?_, ?_, ?_⟩, ?_, ⟨?_, ?_⟩, ?_⟩
    · show h4.1 2 3 = _; rw [Z 2 (by decide) (by decide)]; exact a5
    · show h4.1 2 4 = _; rw [Z 2 (by decide) (by decide)]; exact a6
    · show h4.1 6 8 = h.1 31 8; rw [L 6 (by decide) (by decide), b8, S1 31 (by decide) (by decide)]
    · show h4.1 6 9 = h.1 31 9; rw [L 6 (by decide) (by decide), b9, S1 31 (by decide) (by decide)]
    · show h4.1 15 5 = h.1 40 5; rw [T 15 (by decide) (by decide), d5, S2 40 (by decide) (by decide)]
    · show h4.1 21 3 = h.1 46 3; rw [e3, S3 46 (by decide) (by decide)]
    · intro i hi; show h4.1 3 i = _; rw [Z 3 (by decide) (by decide)]; exact a2 i hi
    · intro i hi; show h4.1 4 i = _; rw [Z 4 (by decide) (by decide)]; exact a3 i hi
    · intro i hi; show h4.1 5 i = _; rw [Z 5 (by decide) (by decide)]; exact a4 i hi
    · intro j q1 q2 i hi
      rcases (show j = 6 ∨ j = 7 ∨ j = 8 ∨ j = 9 ∨ j = 10 ∨ j = 11 ∨ j = 12 ∨ j = 13 by omega) with z | z | z | z | z | z | z | z
      · subst z; show h4.1 7 i = h.1 32 i; rw [L 7 (by decide) (by decide), b56 i hi, S1 32 (by decide) (by decide)]
      · subst z; show h4.1 8 i = h.1 33 i; rw [L 8 (by decide) (by decide), b57 i hi, S1 33 (by decide) (by decide)]
      · subst z; show h4.1 9 i = h.1 34 i; rw [L 9 (by decide) (by decide), b58 i hi, S1 34 (by decide) (by decide)]
      · subst z; show h4.1 10 i = h.1 35 i; rw [L 10 (by decide) (by decide), b59 i hi, S1 35 (by decide) (by decide)]
      · subst z; show h4.1 11 i = h.1 36 i; rw [L 11 (by decide) (by decide), b60 i hi, S1 36 (by decide) (by decide)]
      · subst z; show h4.1 12 i = h.1 37 i; rw [L 12 (by decide) (by decide), b61 i hi, S1 37 (by decide) (by decide)]
      · subst z; show h4.1 13 i = h.1 38 i; rw [L 13 (by decide) (by decide), b62 i hi, S1 38 (by decide) (by decide)]
      · subst z; show h4.1 14 i = h.1 39 i; rw [L 14 (by decide) (by decide), b63 i hi, S1 39 (by decide) (by decide)]
    · intro j q1 q2 i hi
      rcases (show j = 15 ∨ j = 16 by omega) with z | z
      · subst z; show h4.1 16 i = h.1 41 i; rw [T 16 (by decide) (by decide), d15 i hi, S2 41 (by decide) (by decide)]
      · subst z; show h4.1 17 i = h.1 42 i; rw [T 17 (by decide) (by decide), d16 i hi, S2 42 (by decide) (by decide)]
    · intro j q1 q2 i hi
      rcases (show j = 17 ∨ j = 18 ∨ j = 19 by omega) with z | z | z
      · subst z; show h4.1 18 i = h.1 43 i; rw [T 18 (by decide) (by decide), d17 i hi, S2 43 (by decide) (by decide)]
      · subst z; show h4.1 19 i = h.1 44 i; rw [T 19 (by decide) (by decide), d18 i hi, S2 44 (by decide) (by decide)]
      · subst z; show h4.1 20 i = h.1 45 i; rw [T 20 (by decide) (by decide), d19 i hi, S2 45 (by decide) (by decide)]
    · intro j q1 q2 i hi
      rcases (show j = 21 ∨ j = 22 ∨ j = 23 by omega) with z | z | z
      · subst z; show h4.1 22 i = h.1 47 i; rw [e21 i hi, S3 47 (by decide) (by decide)]
      · subst z; show h4.1 23 i = h.1 48 i; rw [e22 i hi, S3 48 (by decide) (by decide)]
      · subst z; show h4.1 24 i = h.1 49 i; rw [e23 i hi, S3 49 (by decide) (by decide)]
theorem m_mv0_1 {h : Hp} (hp : h.1 72 34 = nI 0) : Gd mX9_move 0 [.ref 72, .ref 74, .int (nI 5), .int (nI 1), .null] [] h (none, sI (sI h 94 (va_cpy (h.1 74) (h.1 94) 0 0 5)) 72 (upd (h.1 72) 34 (nI (0 + 5)))) := by
  have key := loopG (P := fun j => Gd mX9_move 3 [.ref 72, .ref 74, .int (nI 5), .int (nI 1), .int (nI j)] [] (sI (sI h 94 (va_cpy (h.1 74) (h.1 94) 0 0 j)) 72 (upd (h.1 72) 34 (nI (0 + j)))) (none, sI (sI h 94 (va_cpy (h.1 74) (h.1 94) 0 0 5)) 72 (upd (h.1 72) 34 (nI (0 + 5))))) (n := 5) ?_ ?_ 0 (by omega)
  · have e0 : sI (sI h 94 (va_cpy (h.1 74) (h.1 94) 0 0 0)) 72 (upd (h.1 72) 34 (nI (0 + 0))) = h := by rw [icpy_0, sI_id]; rw [show upd (h.1 72) 34 (nI (0 + 0)) = h.1 72 from by rw [show nI (0 + 0) = h.1 72 34 from hp.symm]; exact upd_id _ _, sI_id]
    rw [e0] at key
    refine gd_ic0 dX9_move_0 ?_
    refine gd_ist4 dX9_move_1 rfl ?_
    exact key
  · refine gd_ild4 dX9_move_3 ?_
    refine gd_ild2 dX9_move_5 ?_
    refine gd_icmp_ge_t 58 dX9_move_6 (by decide) (by exact nI_le (by omega) (by omega)) ?_
    refine gd_vret dX9_move_58 rfl ?_
    rfl
  · intro j hj ih
    refine gd_ild4 dX9_move_3 ?_
    refine gd_ild2 dX9_move_5 ?_
    refine gd_icmp_ge_f 58 dX9_move_6 (by decide) (by exact nI_ge (by omega) (by omega)) ?_
    refine gd_ild3 dX9_move_9 ?_
    refine gd_if_eq_f 29 dX9_move_10 (by decide) (by decide) ?_
    refine gd_ald0 dX9_move_13 (by decide) ?_
    refine gd_getR (r := 94) dX9_move_14 fl_9_75 rfl rfl rfl (by decide) ?_
    refine gd_ald0 dX9_move_17 (by decide) ?_
    refine gd_getI dX9_move_18 fl_9_272 rfl rfl ?_
    rw [show (sI (sI h 94 (va_cpy (h.1 74) (h.1 94) 0 0 j)) 72 (upd (h.1 72) 34 (nI (0 + j)))).1 72 34 = nI (0 + j) from rfl]
    refine gd_ald1 dX9_move_21 (by decide) ?_
    refine gd_ild4 dX9_move_22 ?_
    refine gd_iald (n := 5) dX9_move_24 rfl (by decide) (by repeat' (first | with_reducible rfl | apply ni_add | apply ni_mul)) (by omega) ?_
    rw [show (sI (sI h 94 (va_cpy (h.1 74) (h.1 94) 0 0 j)) 72 (upd (h.1 72) 34 (nI (0 + j)))).1 74 j = h.1 74 (0 + j) by rw [Nat.zero_add]; rfl]
    refine gd_iast (n := 900) dX9_move_25 rfl (by decide) (by repeat' (first | with_reducible rfl | apply ni_add | apply ni_mul)) (by omega) ?_
    rw [mvA (c := 94) (by decide), icpy_s]
    refine gd_goto 42 dX9_move_26 (by decide) ?_
    refine gd_ald0 dX9_move_42 (by decide) ?_
    refine gd_dupr (by decide) dX9_move_43 ?_
    refine gd_getI dX9_move_44 fl_9_272 rfl rfl ?_
    rw [show (sI (sI h 94 (va_cpy (h.1 74) (h.1 94) 0 0 (j + 1))) 72 (upd (h.1 72) 34 (nI (0 + j)))).1 72 34 = nI (0 + j) from rfl]
    refine gd_ic1 dX9_move_47 ?_
    refine gd_iadd dX9_move_48 ?_
    rw [nI_add, Nat.add_assoc]
    refine gd_putI dX9_move_49 fl_9_272 rfl rfl (fun _ _ _ e => by cases e; rfl) ?_
    rw [mvB]
    refine gd_iinc4 (b := nI 1) dX9_move_52 (by decide) rfl ?_
    rw [nI_add]
    refine gd_goto 3 dX9_move_55 (by decide) ?_
    exact ih
theorem m_mv0_0 {h : Hp} (hp : h.1 72 34 = nI 0) : Gd mX9_move 0 [.ref 72, .ref 74, .int (nI 5), .int (nI 0), .null] [] h (none, sI (sI h 74 (va_cpy (h.1 94) (h.1 74) 0 0 5)) 72 (upd (h.1 72) 34 (nI (0 + 5)))) := by
  have key := loopG (P := fun j => Gd mX9_move 3 [.ref 72, .ref 74, .int (nI 5), .int (nI 0), .int (nI j)] [] (sI (sI h 74 (va_cpy (h.1 94) (h.1 74) 0 0 j)) 72 (upd (h.1 72) 34 (nI (0 + j)))) (none, sI (sI h 74 (va_cpy (h.1 94) (h.1 74) 0 0 5)) 72 (upd (h.1 72) 34 (nI (0 + 5))))) (n := 5) ?_ ?_ 0 (by omega)
  · have e0 : sI (sI h 74 (va_cpy (h.1 94) (h.1 74) 0 0 0)) 72 (upd (h.1 72) 34 (nI (0 + 0))) = h := by rw [icpy_0, sI_id]; rw [show upd (h.1 72) 34 (nI (0 + 0)) = h.1 72 from by rw [show nI (0 + 0) = h.1 72 34 from hp.symm]; exact upd_id _ _, sI_id]
    rw [e0] at key
    refine gd_ic0 dX9_move_0 ?_
    refine gd_ist4 dX9_move_1 rfl ?_
    exact key
  · refine gd_ild4 dX9_move_3 ?_
    refine gd_ild2 dX9_move_5 ?_
    refine gd_icmp_ge_t 58 dX9_move_6 (by decide) (by exact nI_le (by omega) (by omega)) ?_
    refine gd_vret dX9_move_58 rfl ?_
    rfl
  · intro j hj ih
    refine gd_ild4 dX9_move_3 ?_
    refine gd_ild2 dX9_move_5 ?_
    refine gd_icmp_ge_f 58 dX9_move_6 (by decide) (by exact nI_ge (by omega) (by omega)) ?_
    refine gd_ild3 dX9_move_9 ?_
    refine gd_if_eq_t 29 dX9_move_10 (by decide) (by decide) ?_
    refine gd_ald1 dX9_move_29 (by decide) ?_
    refine gd_ild4 dX9_move_30 ?_
    refine gd_ald0 dX9_move_32 (by decide) ?_
    refine gd_getR (r := 94) dX9_move_33 fl_9_75 rfl rfl rfl (by decide) ?_
    refine gd_ald0 dX9_move_36 (by decide) ?_
    refine gd_getI dX9_move_37 fl_9_272 rfl rfl ?_
    rw [show (sI (sI h 74 (va_cpy (h.1 94) (h.1 74) 0 0 j)) 72 (upd (h.1 72) 34 (nI (0 + j)))).1 72 34 = nI (0 + j) from rfl]
    refine gd_iald (n := 900) dX9_move_40 rfl (by decide) (by repeat' (first | with_reducible rfl | apply ni_add | apply ni_mul)) (by omega) ?_
    rw [show (sI (sI h 74 (va_cpy (h.1 94) (h.1 74) 0 0 j)) 72 (upd (h.1 72) 34 (nI (0 + j)))).1 94 (0 + j) = h.1 94 (0 + j) from rfl]
    refine gd_iast (n := 5) dX9_move_41 rfl (by decide) (by repeat' (first | with_reducible rfl | apply ni_add | apply ni_mul)) (by omega) ?_
    rw [mvA (c := 74) (by decide), icpy_s0]
    refine gd_ald0 dX9_move_42 (by decide) ?_
    refine gd_dupr (by decide) dX9_move_43 ?_
    refine gd_getI dX9_move_44 fl_9_272 rfl rfl ?_
    rw [show (sI (sI h 74 (va_cpy (h.1 94) (h.1 74) 0 0 (j + 1))) 72 (upd (h.1 72) 34 (nI (0 + j)))).1 72 34 = nI (0 + j) from rfl]
    refine gd_ic1 dX9_move_47 ?_
    refine gd_iadd dX9_move_48 ?_
    rw [nI_add, Nat.add_assoc]
    refine gd_putI dX9_move_49 fl_9_272 rfl rfl (fun _ _ _ e => by cases e; rfl) ?_
    rw [mvB]
    refine gd_iinc4 (b := nI 1) dX9_move_52 (by decide) rfl ?_
    rw [nI_add]
    refine gd_goto 3 dX9_move_55 (by decide) ?_
    exact ih
theorem m_mv1_1 {h : Hp} (hp : h.1 72 34 = nI 5) : Gd mX9_move 0 [.ref 72, .ref 75, .int (nI 144), .int (nI 1), .null] [] h (none, sI (sI h 94 (va_cpy (h.1 75) (h.1 94) 0 5 144)) 72 (upd (h.1 72) 34 (nI (5 + 144)))) := by
  have key := loopG (P := fun j => Gd mX9_move 3 [.ref 72, .ref 75, .int (nI 144), .int (nI 1), .int (nI j)] [] (sI (sI h 94 (va_cpy (h.1 75) (h.1 94) 0 5 j)) 72 (upd (h.1 72) 34 (nI (5 + j)))) (none, sI (sI h 94 (va_cpy (h.1 75) (h.1 94) 0 5 144)) 72 (upd (h.1 72) 34 (nI (5 + 144))))) (n := 144) ?_ ?_ 0 (by omega)
  · have e0 : sI (sI h 94 (va_cpy (h.1 75) (h.1 94) 0 5 0)) 72 (upd (h.1 72) 34 (nI (5 + 0))) = h := by rw [icpy_0, sI_id]; rw [show upd (h.1 72) 34 (nI (5 + 0)) = h.1 72 from by rw [show nI (5 + 0) = h.1 72 34 from hp.symm]; exact upd_id _ _, sI_id]
    rw [e0] at key
    refine gd_ic0 dX9_move_0 ?_
    refine gd_ist4 dX9_move_1 rfl ?_
    exact key
  · refine gd_ild4 dX9_move_3 ?_
    refine gd_ild2 dX9_move_5 ?_
    refine gd_icmp_ge_t 58 dX9_move_6 (by decide) (by exact nI_le (by omega) (by omega)) ?_
    refine gd_vret dX9_move_58 rfl ?_
    rfl
  · intro j hj ih
    refine gd_ild4 dX9_move_3 ?_
    refine gd_ild2 dX9_move_5 ?_
    refine gd_icmp_ge_f 58 dX9_move_6 (by decide) (by exact nI_ge (by omega) (by omega)) ?_
    refine gd_ild3 dX9_move_9 ?_
    refine gd_if_eq_f 29 dX9_move_10 (by decide) (by decide) ?_
    refine gd_ald0 dX9_move_13 (by decide) ?_
    refine gd_getR (r := 94) dX9_move_14 fl_9_75 rfl rfl rfl (by decide) ?_
    refine gd_ald0 dX9_move_17 (by decide) ?_
    refine gd_getI dX9_move_18 fl_9_272 rfl rfl ?_
    rw [show (sI (sI h 94 (va_cpy (h.1 75) (h.1 94) 0 5 j)) 72 (upd (h.1 72) 34 (nI (5 + j)))).1 72 34 = nI (5 + j) from rfl]
    refine gd_ald1 dX9_move_21 (by decide) ?_
    refine gd_ild4 dX9_move_22 ?_
    refine gd_iald (n := 144) dX9_move_24 rfl (by decide) (by repeat' (first | with_reducible rfl | apply ni_add | apply ni_mul)) (by omega) ?_
    rw [show (sI (sI h 94 (va_cpy (h.1 75) (h.1 94) 0 5 j)) 72 (upd (h.1 72) 34 (nI (5 + j)))).1 75 j = h.1 75 (0 + j) by rw [Nat.zero_add]; rfl]
    refine gd_iast (n := 900) dX9_move_25 rfl (by decide) (by repeat' (first | with_reducible rfl | apply ni_add | apply ni_mul)) (by omega) ?_
    rw [mvA (c := 94) (by decide), icpy_s]
    refine gd_goto 42 dX9_move_26 (by decide) ?_
    refine gd_ald0 dX9_move_42 (by decide) ?_
    refine gd_dupr (by decide) dX9_move_43 ?_
    refine gd_getI dX9_move_44 fl_9_272 rfl rfl ?_
    rw [show (sI (sI h 94 (va_cpy (h.1 75) (h.1 94) 0 5 (j + 1))) 72 (upd (h.1 72) 34 (nI (5 + j)))).1 72 34 = nI (5 + j) from rfl]
    refine gd_ic1 dX9_move_47 ?_
    refine gd_iadd dX9_move_48 ?_
    rw [nI_add, Nat.add_assoc]
    refine gd_putI dX9_move_49 fl_9_272 rfl rfl (fun _ _ _ e => by cases e; rfl) ?_
    rw [mvB]
    refine gd_iinc4 (b := nI 1) dX9_move_52 (by decide) rfl ?_
    rw [nI_add]
    refine gd_goto 3 dX9_move_55 (by decide) ?_
    exact ih
theorem m_mv1_0 {h : Hp} (hp : h.1 72 34 = nI 5) : Gd mX9_move 0 [.ref 72, .ref 75, .int (nI 144), .int (nI 0), .null] [] h (none, sI (sI h 75 (va_cpy (h.1 94) (h.1 75) 5 0 144)) 72 (upd (h.1 72) 34 (nI (5 + 144)))) := by
  have key := loopG (P := fun j => Gd mX9_move 3 [.ref 72, .ref 75, .int (nI 144), .int (nI 0), .int (nI j)] [] (sI (sI h 75 (va_cpy (h.1 94) (h.1 75) 5 0 j)) 72 (upd (h.1 72) 34 (nI (5 + j)))) (none, sI (sI h 75 (va_cpy (h.1 94) (h.1 75) 5 0 144)) 72 (upd (h.1 72) 34 (nI (5 + 144))))) (n := 144) ?_ ?_ 0 (by omega)
  · have e0 : sI (sI h 75 (va_cpy (h.1 94) (h.1 75) 5 0 0)) 72 (upd (h.1 72) 34 (nI (5 + 0))) = h := by rw [icpy_0, sI_id]; rw [show upd (h.1 72) 34 (nI (5 + 0)) = h.1 72 from by rw [show nI (5 + 0) = h.1 72 34 from hp.symm]; exact upd_id _ _, sI_id]
    rw [e0] at key
    refine gd_ic0 dX9_move_0 ?_
    refine gd_ist4 dX9_move_1 rfl ?_
    exact key
  · refine gd_ild4 dX9_move_3 ?_
    refine gd_ild2 dX9_move_5 ?_
    refine gd_icmp_ge_t 58 dX9_move_6 (by decide) (by exact nI_le (by omega) (by omega)) ?_
    refine gd_vret dX9_move_58 rfl ?_
    rfl
  · intro j hj ih
    refine gd_ild4 dX9_move_3 ?_
    refine gd_ild2 dX9_move_5 ?_
    refine gd_icmp_ge_f 58 dX9_move_6 (by decide) (by exact nI_ge (by omega) (by omega)) ?_
    refine gd_ild3 dX9_move_9 ?_
    refine gd_if_eq_t 29 dX9_move_10 (by decide) (by decide) ?_
    refine gd_ald1 dX9_move_29 (by decide) ?_
    refine gd_ild4 dX9_move_30 ?_
    refine gd_ald0 dX9_move_32 (by decide) ?_
    refine gd_getR (r := 94) dX9_move_33 fl_9_75 rfl rfl rfl (by decide) ?_
    refine gd_ald0 dX9_move_36 (by decide) ?_
    refine gd_getI dX9_move_37 fl_9_272 rfl rfl ?_
    rw [show (sI (sI h 75 (va_cpy (h.1 94) (h.1 75) 5 0 j)) 72 (upd (h.1 72) 34 (nI (5 + j)))).1 72 34 = nI (5 + j) from rfl]
    refine gd_iald (n := 900) dX9_move_40 rfl (by decide) (by repeat' (first | with_reducible rfl | apply ni_add | apply ni_mul)) (by omega) ?_
    rw [show (sI (sI h 75 (va_cpy (h.1 94) (h.1 75) 5 0 j)) 72 (upd (h.1 72) 34 (nI (5 + j)))).1 94 (5 + j) = h.1 94 (5 + j) from rfl]
    refine gd_iast (n := 144) dX9_move_41 rfl (by decide) (by repeat' (first | with_reducible rfl | apply ni_add | apply ni_mul)) (by omega) ?_
    rw [mvA (c := 75) (by decide), icpy_s0]
    refine gd_ald0 dX9_move_42 (by decide) ?_
    refine gd_dupr (by decide) dX9_move_43 ?_
    refine gd_getI dX9_move_44 fl_9_272 rfl rfl ?_
    rw [show (sI (sI h 75 (va_cpy (h.1 94) (h.1 75) 5 0 (j + 1))) 72 (upd (h.1 72) 34 (nI (5 + j)))).1 72 34 = nI (5 + j) from rfl]
    refine gd_ic1 dX9_move_47 ?_
    refine gd_iadd dX9_move_48 ?_
    rw [nI_add, Nat.add_assoc]
    refine gd_putI dX9_move_49 fl_9_272 rfl rfl (fun _ _ _ e => by cases e; rfl) ?_
    rw [mvB]
    refine gd_iinc4 (b := nI 1) dX9_move_52 (by decide) rfl ?_
    rw [nI_add]
    refine gd_goto 3 dX9_move_55 (by decide) ?_
    exact ih
theorem m_mv2_1 {h : Hp} (hp : h.1 72 34 = nI 149) : Gd mX9_move 0 [.ref 72, .ref 76, .int (nI 16), .int (nI 1), .null] [] h (none, sI (sI h 94 (va_cpy (h.1 76) (h.1 94) 0 149 16)) 72 (upd (h.1 72) 34 (nI (149 + 16)))) := by
  have key := loopG (P := fun j => Gd mX9_move 3 [.ref 72, .ref 76, .int (nI 16), .int (nI 1), .int (nI j)] [] (sI (sI h 94 (va_cpy (h.1 76) (h.1 94) 0 149 j)) 72 (upd (h.1 72) 34 (nI (149 + j)))) (none, sI (sI h 94 (va_cpy (h.1 76) (h.1 94) 0 149 16)) 72 (upd (h.1 72) 34 (nI (149 + 16))))) (n := 16) ?_ ?_ 0 (by omega)
  · have e0 : sI (sI h 94 (va_cpy (h.1 76) (h.1 94) 0 149 0)) 72 (upd (h.1 72) 34 (nI (149 + 0))) = h := by rw [icpy_0, sI_id]; rw [show upd (h.1 72) 34 (nI (149 + 0)) = h.1 72 from by rw [show nI (149 + 0) = h.1 72 34 from hp.symm]; exact upd_id _ _, sI_id]
    rw [e0] at key
    refine gd_ic0 dX9_move_0 ?_
    refine gd_ist4 dX9_move_1 rfl ?_
    exact key
  · refine gd_ild4 dX9_move_3 ?_
    refine gd_ild2 dX9_move_5 ?_
    refine gd_icmp_ge_t 58 dX9_move_6 (by decide) (by exact nI_le (by omega) (by omega)) ?_
    refine gd_vret dX9_move_58 rfl ?_
    rfl
  · intro j hj ih
    refine gd_ild4 dX9_move_3 ?_
    refine gd_ild2 dX9_move_5 ?_
    refine gd_icmp_ge_f 58 dX9_move_6 (by decide) (by exact nI_ge (by omega) (by omega)) ?_
    refine gd_ild3 dX9_move_9 ?_
    refine gd_if_eq_f 29 dX9_move_10 (by decide) (by decide) ?_
    refine gd_ald0 dX9_move_13 (by decide) ?_
    refine gd_getR (r := 94) dX9_move_14 fl_9_75 rfl rfl rfl (by decide) ?_
    refine gd_ald0 dX9_move_17 (by decide) ?_
    refine gd_getI dX9_move_18 fl_9_272 rfl rfl ?_
    rw [show (sI (sI h 94 (va_cpy (h.1 76) (h.1 94) 0 149 j)) 72 (upd (h.1 72) 34 (nI (149 + j)))).1 72 34 = nI (149 + j) from rfl]
    refine gd_ald1 dX9_move_21 (by decide) ?_
    refine gd_ild4 dX9_move_22 ?_
    refine gd_iald (n := 16) dX9_move_24 rfl (by decide) (by repeat' (first | with_reducible rfl | apply ni_add | apply ni_mul)) (by omega) ?_
    rw [show (sI (sI h 94 (va_cpy (h.1 76) (h.1 94) 0 149 j)) 72 (upd (h.1 72) 34 (nI (149 + j)))).1 76 j = h.1 76 (0 + j) by rw [Nat.zero_add]; rfl]
    refine gd_iast (n := 900) dX9_move_25 rfl (by decide) (by repeat' (first | with_reducible rfl | apply ni_add | apply ni_mul)) (by omega) ?_
    rw [mvA (c := 94) (by decide), icpy_s]
    refine gd_goto 42 dX9_move_26 (by decide) ?_
    refine gd_ald0 dX9_move_42 (by decide) ?_
    refine gd_dupr (by decide) dX9_move_43 ?_
    refine gd_getI dX9_move_44 fl_9_272 rfl rfl ?_
    rw [show (sI (sI h 94 (va_cpy (h.1 76) (h.1 94) 0 149 (j + 1))) 72 (upd (h.1 72) 34 (nI (149 + j)))).1 72 34 = nI (149 + j) from rfl]
    refine gd_ic1 dX9_move_47 ?_
    refine gd_iadd dX9_move_48 ?_
    rw [nI_add, Nat.add_assoc]
    refine gd_putI dX9_move_49 fl_9_272 rfl rfl (fun _ _ _ e => by cases e; rfl) ?_
    rw [mvB]
    refine gd_iinc4 (b := nI 1) dX9_move_52 (by decide) rfl ?_
    rw [nI_add]
    refine gd_goto 3 dX9_move_55 (by decide) ?_
    exact ih
theorem m_mv2_0 {h : Hp} (hp : h.1 72 34 = nI 149) : Gd mX9_move 0 [.ref 72, .ref 76, .int (nI 16), .int (nI 0), .null] [] h (none, sI (sI h 76 (va_cpy (h.1 94) (h.1 76) 149 0 16)) 72 (upd (h.1 72) 34 (nI (149 + 16)))) := by
  have key := loopG (P := fun j => Gd mX9_move 3 [.ref 72, .ref 76, .int (nI 16), .int (nI 0), .int (nI j)] [] (sI (sI h 76 (va_cpy (h.1 94) (h.1 76) 149 0 j)) 72 (upd (h.1 72) 34 (nI (149 + j)))) (none, sI (sI h 76 (va_cpy (h.1 94) (h.1 76) 149 0 16)) 72 (upd (h.1 72) 34 (nI (149 + 16))))) (n := 16) ?_ ?_ 0 (by omega)
  · have e0 : sI (sI h 76 (va_cpy (h.1 94) (h.1 76) 149 0 0)) 72 (upd (h.1 72) 34 (nI (149 + 0))) = h := by rw [icpy_0, sI_id]; rw [show upd (h.1 72) 34 (nI (149 + 0)) = h.1 72 from by rw [show nI (149 + 0) = h.1 72 34 from hp.symm]; exact upd_id _ _, sI_id]
    rw [e0] at key
    refine gd_ic0 dX9_move_0 ?_
    refine gd_ist4 dX9_move_1 rfl ?_
    exact key
  · refine gd_ild4 dX9_move_3 ?_
    refine gd_ild2 dX9_move_5 ?_
    refine gd_icmp_ge_t 58 dX9_move_6 (by decide) (by exact nI_le (by omega) (by omega)) ?_
    refine gd_vret dX9_move_58 rfl ?_
    rfl
  · intro j hj ih
    refine gd_ild4 dX9_move_3 ?_
    refine gd_ild2 dX9_move_5 ?_
    refine gd_icmp_ge_f 58 dX9_move_6 (by decide) (by exact nI_ge (by omega) (by omega)) ?_
    refine gd_ild3 dX9_move_9 ?_
    refine gd_if_eq_t 29 dX9_move_10 (by decide) (by decide) ?_
    refine gd_ald1 dX9_move_29 (by decide) ?_
    refine gd_ild4 dX9_move_30 ?_
    refine gd_ald0 dX9_move_32 (by decide) ?_
    refine gd_getR (r := 94) dX9_move_33 fl_9_75 rfl rfl rfl (by decide) ?_
    refine gd_ald0 dX9_move_36 (by decide) ?_
    refine gd_getI dX9_move_37 fl_9_272 rfl rfl ?_
    rw [show (sI (sI h 76 (va_cpy (h.1 94) (h.1 76) 149 0 j)) 72 (upd (h.1 72) 34 (nI (149 + j)))).1 72 34 = nI (149 + j) from rfl]
    refine gd_iald (n := 900) dX9_move_40 rfl (by decide) (by repeat' (first | with_reducible rfl | apply ni_add | apply ni_mul)) (by omega) ?_
    rw [show (sI (sI h 76 (va_cpy (h.1 94) (h.1 76) 149 0 j)) 72 (upd (h.1 72) 34 (nI (149 + j)))).1 94 (149 + j) = h.1 94 (149 + j) from rfl]
    refine gd_iast (n := 16) dX9_move_41 rfl (by decide) (by repeat' (first | with_reducible rfl | apply ni_add | apply ni_mul)) (by omega) ?_
    rw [mvA (c := 76) (by decide), icpy_s0]
    refine gd_ald0 dX9_move_42 (by decide) ?_
    refine gd_dupr (by decide) dX9_move_43 ?_
    refine gd_getI dX9_move_44 fl_9_272 rfl rfl ?_
    rw [show (sI (sI h 76 (va_cpy (h.1 94) (h.1 76) 149 0 (j + 1))) 72 (upd (h.1 72) 34 (nI (149 + j)))).1 72 34 = nI (149 + j) from rfl]
    refine gd_ic1 dX9_move_47 ?_
    refine gd_iadd dX9_move_48 ?_
    rw [nI_add, Nat.add_assoc]
    refine gd_putI dX9_move_49 fl_9_272 rfl rfl (fun _ _ _ e => by cases e; rfl) ?_
    rw [mvB]
    refine gd_iinc4 (b := nI 1) dX9_move_52 (by decide) rfl ?_
    rw [nI_add]
    refine gd_goto 3 dX9_move_55 (by decide) ?_
    exact ih
theorem m_mv3_1 {h : Hp} (hp : h.1 72 34 = nI 165) : Gd mX9_move 0 [.ref 72, .ref 77, .int (nI 96), .int (nI 1), .null] [] h (none, sI (sI h 94 (va_cpy (h.1 77) (h.1 94) 0 165 96)) 72 (upd (h.1 72) 34 (nI (165 + 96)))) := by
  have key := loopG (P := fun j => Gd mX9_move 3 [.ref 72, .ref 77, .int (nI 96), .int (nI 1), .int (nI j)] [] (sI (sI h 94 (va_cpy (h.1 77) (h.1 94) 0 165 j)) 72 (upd (h.1 72) 34 (nI (165 + j)))) (none, sI (sI h 94 (va_cpy (h.1 77) (h.1 94) 0 165 96)) 72 (upd (h.1 72) 34 (nI (165 + 96))))) (n := 96) ?_ ?_ 0 (by omega)
  · have e0 : sI (sI h 94 (va_cpy (h.1 77) (h.1 94) 0 165 0)) 72 (upd (h.1 72) 34 (nI (165 + 0))) = h := by rw [icpy_0, sI_id]; rw [show upd (h.1 72) 34 (nI (165 + 0)) = h.1 72 from by rw [show nI (165 + 0) = h.1 72 34 from hp.symm]; exact upd_id _ _, sI_id]
    rw [e0] at key
    refine gd_ic0 dX9_move_0 ?_
    refine gd_ist4 dX9_move_1 rfl ?_
    exact key
  · refine gd_ild4 dX9_move_3 ?_
    refine gd_ild2 dX9_move_5 ?_
    refine gd_icmp_ge_t 58 dX9_move_6 (by decide) (by exact nI_le (by omega) (by omega)) ?_
    refine gd_vret dX9_move_58 rfl ?_
    rfl
  · intro j hj ih
    refine gd_ild4 dX9_move_3 ?_
    refine gd_ild2 dX9_move_5 ?_
    refine gd_icmp_ge_f 58 dX9_move_6 (by decide) (by exact nI_ge (by omega) (by omega)) ?_
    refine gd_ild3 dX9_move_9 ?_
    refine gd_if_eq_f 29 dX9_move_10 (by decide) (by decide) ?_
    refine gd_ald0 dX9_move_13 (by decide) ?_
    refine gd_getR (r := 94) dX9_move_14 fl_9_75 rfl rfl rfl (by decide) ?_
    refine gd_ald0 dX9_move_17 (by decide) ?_
    refine gd_getI dX9_move_18 fl_9_272 rfl rfl ?_
    rw [show (sI (sI h 94 (va_cpy (h.1 77) (h.1 94) 0 165 j)) 72 (upd (h.1 72) 34 (nI (165 + j)))).1 72 34 = nI (165 + j) from rfl]
    refine gd_ald1 dX9_move_21 (by decide) ?_
    refine gd_ild4 dX9_move_22 ?_
    refine gd_iald (n := 96) dX9_move_24 rfl (by decide) (by repeat' (first | with_reducible rfl | apply ni_add | apply ni_mul)) (by omega) ?_
    rw [show (sI (sI h 94 (va_cpy (h.1 77) (h.1 94) 0 165 j)) 72 (upd (h.1 72) 34 (nI (165 + j)))).1 77 j = h.1 77 (0 + j) by rw [Nat.zero_add]; rfl]
    refine gd_iast (n := 900) dX9_move_25 rfl (by decide) (by repeat' (first | with_reducible rfl | apply ni_add | apply ni_mul)) (by omega) ?_
    rw [mvA (c := 94) (by decide), icpy_s]
    refine gd_goto 42 dX9_move_26 (by decide) ?_
    refine gd_ald0 dX9_move_42 (by decide) ?_
    refine gd_dupr (by decide) dX9_move_43 ?_
    refine gd_getI dX9_move_44 fl_9_272 rfl rfl ?_
    rw [show (sI (sI h 94 (va_cpy (h.1 77) (h.1 94) 0 165 (j + 1))) 72 (upd (h.1 72) 34 (nI (165 + j)))).1 72 34 = nI (165 + j) from rfl]
    refine gd_ic1 dX9_move_47 ?_
    refine gd_iadd dX9_move_48 ?_
    rw [nI_add, Nat.add_assoc]
    refine gd_putI dX9_move_49 fl_9_272 rfl rfl (fun _ _ _ e => by cases e; rfl) ?_
    rw [mvB]
    refine gd_iinc4 (b := nI 1) dX9_move_52 (by decide) rfl ?_
    rw [nI_add]
    refine gd_goto 3 dX9_move_55 (by decide) ?_
    exact ih
theorem m_mv3_0 {h : Hp} (hp : h.1 72 34 = nI 165) : Gd mX9_move 0 [.ref 72, .ref 77, .int (nI 96), .int (nI 0), .null] [] h (none, sI (sI h 77 (va_cpy (h.1 94) (h.1 77) 165 0 96)) 72 (upd (h.1 72) 34 (nI (165 + 96)))) := by
  have key := loopG (P := fun j => Gd mX9_move 3 [.ref 72, .ref 77, .int (nI 96), .int (nI 0), .int (nI j)] [] (sI (sI h 77 (va_cpy (h.1 94) (h.1 77) 165 0 j)) 72 (upd (h.1 72) 34 (nI (165 + j)))) (none, sI (sI h 77 (va_cpy (h.1 94) (h.1 77) 165 0 96)) 72 (upd (h.1 72) 34 (nI (165 + 96))))) (n := 96) ?_ ?_ 0 (by omega)
  · have e0 : sI (sI h 77 (va_cpy (h.1 94) (h.1 77) 165 0 0)) 72 (upd (h.1 72) 34 (nI (165 + 0))) = h := by rw [icpy_0, sI_id]; rw [show upd (h.1 72) 34 (nI (165 + 0)) = h.1 72 from by rw [show nI (165 + 0) = h.1 72 34 from hp.symm]; exact upd_id _ _, sI_id]
    rw [e0] at key
    refine gd_ic0 dX9_move_0 ?_
    refine gd_ist4 dX9_move_1 rfl ?_
    exact key
  · refine gd_ild4 dX9_move_3 ?_
    refine gd_ild2 dX9_move_5 ?_
    refine gd_icmp_ge_t 58 dX9_move_6 (by decide) (by exact nI_le (by omega) (by omega)) ?_
    refine gd_vret dX9_move_58 rfl ?_
    rfl
  · intro j hj ih
    refine gd_ild4 dX9_move_3 ?_
    refine gd_ild2 dX9_move_5 ?_
    refine gd_icmp_ge_f 58 dX9_move_6 (by decide) (by exact nI_ge (by omega) (by omega)) ?_
    refine gd_ild3 dX9_move_9 ?_
    refine gd_if_eq_t 29 dX9_move_10 (by decide) (by decide) ?_
    refine gd_ald1 dX9_move_29 (by decide) ?_
    refine gd_ild4 dX9_move_30 ?_
    refine gd_ald0 dX9_move_32 (by decide) ?_
    refine gd_getR (r := 94) dX9_move_33 fl_9_75 rfl rfl rfl (by decide) ?_
    refine gd_ald0 dX9_move_36 (by decide) ?_
    refine gd_getI dX9_move_37 fl_9_272 rfl rfl ?_
    rw [show (sI (sI h 77 (va_cpy (h.1 94) (h.1 77) 165 0 j)) 72 (upd (h.1 72) 34 (nI (165 + j)))).1 72 34 = nI (165 + j) from rfl]
    refine gd_iald (n := 900) dX9_move_40 rfl (by decide) (by repeat' (first | with_reducible rfl | apply ni_add | apply ni_mul)) (by omega) ?_
    rw [show (sI (sI h 77 (va_cpy (h.1 94) (h.1 77) 165 0 j)) 72 (upd (h.1 72) 34 (nI (165 + j)))).1 94 (165 + j) = h.1 94 (165 + j) from rfl]
    refine gd_iast (n := 96) dX9_move_41 rfl (by decide) (by repeat' (first | with_reducible rfl | apply ni_add | apply ni_mul)) (by omega) ?_
    rw [mvA (c := 77) (by decide), icpy_s0]
    refine gd_ald0 dX9_move_42 (by decide) ?_
    refine gd_dupr (by decide) dX9_move_43 ?_
    refine gd_getI dX9_move_44 fl_9_272 rfl rfl ?_
    rw [show (sI (sI h 77 (va_cpy (h.1 94) (h.1 77) 165 0 (j + 1))) 72 (upd (h.1 72) 34 (nI (165 + j)))).1 72 34 = nI (165 + j) from rfl]
    refine gd_ic1 dX9_move_47 ?_
    refine gd_iadd dX9_move_48 ?_
    rw [nI_add, Nat.add_assoc]
    refine gd_putI dX9_move_49 fl_9_272 rfl rfl (fun _ _ _ e => by cases e; rfl) ?_
    rw [mvB]
    refine gd_iinc4 (b := nI 1) dX9_move_52 (by decide) rfl ?_
    rw [nI_add]
    refine gd_goto 3 dX9_move_55 (by decide) ?_
    exact ih
theorem m_mv4_1 {h : Hp} (hp : h.1 72 34 = nI 261) : Gd mX9_move 0 [.ref 72, .ref 78, .int (nI 270), .int (nI 1), .null] [] h (none, sI (sI h 94 (va_cpy (h.1 78) (h.1 94) 0 261 270)) 72 (upd (h.1 72) 34 (nI (261 + 270)))) := by
  have key := loopG (P := fun j => Gd mX9_move 3 [.ref 72, .ref 78, .int (nI 270), .int (nI 1), .int (nI j)] [] (sI (sI h 94 (va_cpy (h.1 78) (h.1 94) 0 261 j)) 72 (upd (h.1 72) 34 (nI (261 + j)))) (none, sI (sI h 94 (va_cpy (h.1 78) (h.1 94) 0 261 270)) 72 (upd (h.1 72) 34 (nI (261 + 270))))) (n := 270) ?_ ?_ 0 (by omega)
  · have e0 : sI (sI h 94 (va_cpy (h.1 78) (h.1 94) 0 261 0)) 72 (upd (h.1 72) 34 (nI (261 + 0))) = h := by rw [icpy_0, sI_id]; rw [show upd (h.1 72) 34 (nI (261 + 0)) = h.1 72 from by rw [show nI (261 + 0) = h.1 72 34 from hp.symm]; exact upd_id _ _, sI_id]
    rw [e0] at key
    refine gd_ic0 dX9_move_0 ?_
    refine gd_ist4 dX9_move_1 rfl ?_
    exact key
  · refine gd_ild4 dX9_move_3 ?_
    refine gd_ild2 dX9_move_5 ?_
    refine gd_icmp_ge_t 58 dX9_move_6 (by decide) (by exact nI_le (by omega) (by omega)) ?_
    refine gd_vret dX9_move_58 rfl ?_
    rfl
  · intro j hj ih
    refine gd_ild4 dX9_move_3 ?_
    refine gd_ild2 dX9_move_5 ?_
    refine gd_icmp_ge_f 58 dX9_move_6 (by decide) (by exact nI_ge (by omega) (by omega)) ?_
    refine gd_ild3 dX9_move_9 ?_
    refine gd_if_eq_f 29 dX9_move_10 (by decide) (by decide) ?_
    refine gd_ald0 dX9_move_13 (by decide) ?_
    refine gd_getR (r := 94) dX9_move_14 fl_9_75 rfl rfl rfl (by decide) ?_
    refine gd_ald0 dX9_move_17 (by decide) ?_
    refine gd_getI dX9_move_18 fl_9_272 rfl rfl ?_
    rw [show (sI (sI h 94 (va_cpy (h.1 78) (h.1 94) 0 261 j)) 72 (upd (h.1 72) 34 (nI (261 + j)))).1 72 34 = nI (261 + j) from rfl]
    refine gd_ald1 dX9_move_21 (by decide) ?_
    refine gd_ild4 dX9_move_22 ?_
    refine gd_iald (n := 270) dX9_move_24 rfl (by decide) (by repeat' (first | with_reducible rfl | apply ni_add | apply ni_mul)) (by omega) ?_
    rw [show (sI (sI h 94 (va_cpy (h.1 78) (h.1 94) 0 261 j)) 72 (upd (h.1 72) 34 (nI (261 + j)))).1 78 j = h.1 78 (0 + j) by rw [Nat.zero_add]; rfl]
    refine gd_iast (n := 900) dX9_move_25 rfl (by decide) (by repeat' (first | with_reducible rfl | apply ni_add | apply ni_mul)) (by omega) ?_
    rw [mvA (c := 94) (by decide), icpy_s]
    refine gd_goto 42 dX9_move_26 (by decide) ?_
    refine gd_ald0 dX9_move_42 (by decide) ?_
    refine gd_dupr (by decide) dX9_move_43 ?_
    refine gd_getI dX9_move_44 fl_9_272 rfl rfl ?_
    rw [show (sI (sI h 94 (va_cpy (h.1 78) (h.1 94) 0 261 (j + 1))) 72 (upd (h.1 72) 34 (nI (261 + j)))).1 72 34 = nI (261 + j) from rfl]
    refine gd_ic1 dX9_move_47 ?_
    refine gd_iadd dX9_move_48 ?_
    rw [nI_add, Nat.add_assoc]
    refine gd_putI dX9_move_49 fl_9_272 rfl rfl (fun _ _ _ e => by cases e; rfl) ?_
    rw [mvB]
    refine gd_iinc4 (b := nI 1) dX9_move_52 (by decide) rfl ?_
    rw [nI_add]
    refine gd_goto 3 dX9_move_55 (by decide) ?_
    exact ih
theorem m_mv4_0 {h : Hp} (hp : h.1 72 34 = nI 261) : Gd mX9_move 0 [.ref 72, .ref 78, .int (nI 270), .int (nI 0), .null] [] h (none, sI (sI h 78 (va_cpy (h.1 94) (h.1 78) 261 0 270)) 72 (upd (h.1 72) 34 (nI (261 + 270)))) := by
  have key := loopG (P := fun j => Gd mX9_move 3 [.ref 72, .ref 78, .int (nI 270), .int (nI 0), .int (nI j)] [] (sI (sI h 78 (va_cpy (h.1 94) (h.1 78) 261 0 j)) 72 (upd (h.1 72) 34 (nI (261 + j)))) (none, sI (sI h 78 (va_cpy (h.1 94) (h.1 78) 261 0 270)) 72 (upd (h.1 72) 34 (nI (261 + 270))))) (n := 270) ?_ ?_ 0 (by omega)
  · have e0 : sI (sI h 78 (va_cpy (h.1 94) (h.1 78) 261 0 0)) 72 (upd (h.1 72) 34 (nI (261 + 0))) = h := by rw [icpy_0, sI_id]; rw [show upd (h.1 72) 34 (nI (261 + 0)) = h.1 72 from by rw [show nI (261 + 0) = h.1 72 34 from hp.symm]; exact upd_id _ _, sI_id]
    rw [e0] at key
    refine gd_ic0 dX9_move_0 ?_
    refine gd_ist4 dX9_move_1 rfl ?_
    exact key
  · refine gd_ild4 dX9_move_3 ?_
    refine gd_ild2 dX9_move_5 ?_
    refine gd_icmp_ge_t 58 dX9_move_6 (by decide) (by exact nI_le (by omega) (by omega)) ?_
    refine gd_vret dX9_move_58 rfl ?_
    rfl
  · intro j hj ih
    refine gd_ild4 dX9_move_3 ?_
    refine gd_ild2 dX9_move_5 ?_
    refine gd_icmp_ge_f 58 dX9_move_6 (by decide) (by exact nI_ge (by omega) (by omega)) ?_
    refine gd_ild3 dX9_move_9 ?_
    refine gd_if_eq_t 29 dX9_move_10 (by decide) (by decide) ?_
    refine gd_ald1 dX9_move_29 (by decide) ?_
    refine gd_ild4 dX9_move_30 ?_
    refine gd_ald0 dX9_move_32 (by decide) ?_
    refine gd_getR (r := 94) dX9_move_33 fl_9_75 rfl rfl rfl (by decide) ?_
    refine gd_ald0 dX9_move_36 (by decide) ?_
    refine gd_getI dX9_move_37 fl_9_272 rfl rfl ?_
    rw [show (sI (sI h 78 (va_cpy (h.1 94) (h.1 78) 261 0 j)) 72 (upd (h.1 72) 34 (nI (261 + j)))).1 72 34 = nI (261 + j) from rfl]
    refine gd_iald (n := 900) dX9_move_40 rfl (by decide) (by repeat' (first | with_reducible rfl | apply ni_add | apply ni_mul)) (by omega) ?_
    rw [show (sI (sI h 78 (va_cpy (h.1 94) (h.1 78) 261 0 j)) 72 (upd (h.1 72) 34 (nI (261 + j)))).1 94 (261 + j) = h.1 94 (261 + j) from rfl]
    refine gd_iast (n := 270) dX9_move_41 rfl (by decide) (by repeat' (first | with_reducible rfl | apply ni_add | apply ni_mul)) (by omega) ?_
    rw [mvA (c := 78) (by decide), icpy_s0]
    refine gd_ald0 dX9_move_42 (by decide) ?_
    refine gd_dupr (by decide) dX9_move_43 ?_
    refine gd_getI dX9_move_44 fl_9_272 rfl rfl ?_
    rw [show (sI (sI h 78 (va_cpy (h.1 94) (h.1 78) 261 0 (j + 1))) 72 (upd (h.1 72) 34 (nI (261 + j)))).1 72 34 = nI (261 + j) from rfl]
    refine gd_ic1 dX9_move_47 ?_
    refine gd_iadd dX9_move_48 ?_
    rw [nI_add, Nat.add_assoc]
    refine gd_putI dX9_move_49 fl_9_272 rfl rfl (fun _ _ _ e => by cases e; rfl) ?_
    rw [mvB]
    refine gd_iinc4 (b := nI 1) dX9_move_52 (by decide) rfl ?_
    rw [nI_add]
    refine gd_goto 3 dX9_move_55 (by decide) ?_
    exact ih
theorem m_mv5_1 {h : Hp} (hp : h.1 72 34 = nI 531) : Gd mX9_move 0 [.ref 72, .ref 79, .int (nI 16), .int (nI 1), .null] [] h (none, sI (sI h 94 (va_cpy (h.1 79) (h.1 94) 0 531 16)) 72 (upd (h.1 72) 34 (nI (531 + 16)))) := by
  have key := loopG (P := fun j => Gd mX9_move 3 [.ref 72, .ref 79, .int (nI 16), .int (nI 1), .int (nI j)] [] (sI (sI h 94 (va_cpy (h.1 79) (h.1 94) 0 531 j)) 72 (upd (h.1 72) 34 (nI (531 + j)))) (none, sI (sI h 94 (va_cpy (h.1 79) (h.1 94) 0 531 16)) 72 (upd (h.1 72) 34 (nI (531 + 16))))) (n := 16) ?_ ?_ 0 (by omega)
  · have e0 : sI (sI h 94 (va_cpy (h.1 79) (h.1 94) 0 531 0)) 72 (upd (h.1 72) 34 (nI (531 + 0))) = h := by rw [icpy_0, sI_id]; rw [show upd (h.1 72) 34 (nI (531 + 0)) = h.1 72 from by rw [show nI (531 + 0) = h.1 72 34 from hp.symm]; exact upd_id _ _, sI_id]
    rw [e0] at key
    refine gd_ic0 dX9_move_0 ?_
    refine gd_ist4 dX9_move_1 rfl ?_
    exact key
  · refine gd_ild4 dX9_move_3 ?_
    refine gd_ild2 dX9_move_5 ?_
    refine gd_icmp_ge_t 58 dX9_move_6 (by decide) (by exact nI_le (by omega) (by omega)) ?_
    refine gd_vret dX9_move_58 rfl ?_
    rfl
  · intro j hj ih
    refine gd_ild4 dX9_move_3 ?_
    refine gd_ild2 dX9_move_5 ?_
    refine gd_icmp_ge_f 58 dX9_move_6 (by decide) (by exact nI_ge (by omega) (by omega)) ?_
    refine gd_ild3 dX9_move_9 ?_
    refine gd_if_eq_f 29 dX9_move_10 (by decide) (by decide) ?_
    refine gd_ald0 dX9_move_13 (by decide) ?_
    refine gd_getR (r := 94) dX9_move_14 fl_9_75 rfl rfl rfl (by decide) ?_
    refine gd_ald0 dX9_move_17 (by decide) ?_
    refine gd_getI dX9_move_18 fl_9_272 rfl rfl ?_
    rw [show (sI (sI h 94 (va_cpy (h.1 79) (h.1 94) 0 531 j)) 72 (upd (h.1 72) 34 (nI (531 + j)))).1 72 34 = nI (531 + j) from rfl]
    refine gd_ald1 dX9_move_21 (by decide) ?_
    refine gd_ild4 dX9_move_22 ?_
    refine gd_iald (n := 16) dX9_move_24 rfl (by decide) (by repeat' (first | with_reducible rfl | apply ni_add | apply ni_mul)) (by omega) ?_
    rw [show (sI (sI h 94 (va_cpy (h.1 79) (h.1 94) 0 531 j)) 72 (upd (h.1 72) 34 (nI (531 + j)))).1 79 j = h.1 79 (0 + j) by rw [Nat.zero_add]; rfl]
    refine gd_iast (n := 900) dX9_move_25 rfl (by decide) (by repeat' (first | with_reducible rfl | apply ni_add | apply ni_mul)) (by omega) ?_
    rw [mvA (c := 94) (by decide), icpy_s]
    refine gd_goto 42 dX9_move_26 (by decide) ?_
    refine gd_ald0 dX9_move_42 (by decide) ?_
    refine gd_dupr (by decide) dX9_move_43 ?_
    refine gd_getI dX9_move_44 fl_9_272 rfl rfl ?_
    rw [show (sI (sI h 94 (va_cpy (h.1 79) (h.1 94) 0 531 (j + 1))) 72 (upd (h.1 72) 34 (nI (531 + j)))).1 72 34 = nI (531 + j) from rfl]
    refine gd_ic1 dX9_move_47 ?_
    refine gd_iadd dX9_move_48 ?_
    rw [nI_add, Nat.add_assoc]
    refine gd_putI dX9_move_49 fl_9_272 rfl rfl (fun _ _ _ e => by cases e; rfl) ?_
    rw [mvB]
    refine gd_iinc4 (b := nI 1) dX9_move_52 (by decide) rfl ?_
    rw [nI_add]
    refine gd_goto 3 dX9_move_55 (by decide) ?_
    exact ih
theorem m_mv5_0 {h : Hp} (hp : h.1 72 34 = nI 531) : Gd mX9_move 0 [.ref 72, .ref 79, .int (nI 16), .int (nI 0), .null] [] h (none, sI (sI h 79 (va_cpy (h.1 94) (h.1 79) 531 0 16)) 72 (upd (h.1 72) 34 (nI (531 + 16)))) := by
  have key := loopG (P := fun j => Gd mX9_move 3 [.ref 72, .ref 79, .int (nI 16), .int (nI 0), .int (nI j)] [] (sI (sI h 79 (va_cpy (h.1 94) (h.1 79) 531 0 j)) 72 (upd (h.1 72) 34 (nI (531 + j)))) (none, sI (sI h 79 (va_cpy (h.1 94) (h.1 79) 531 0 16)) 72 (upd (h.1 72) 34 (nI (531 + 16))))) (n := 16) ?_ ?_ 0 (by omega)
  · have e0 : sI (sI h 79 (va_cpy (h.1 94) (h.1 79) 531 0 0)) 72 (upd (h.1 72) 34 (nI (531 + 0))) = h := by rw [icpy_0, sI_id]; rw [show upd (h.1 72) 34 (nI (531 + 0)) = h.1 72 from by rw [show nI (531 + 0) = h.1 72 34 from hp.symm]; exact upd_id _ _, sI_id]
    rw [e0] at key
    refine gd_ic0 dX9_move_0 ?_
    refine gd_ist4 dX9_move_1 rfl ?_
    exact key
  · refine gd_ild4 dX9_move_3 ?_
    refine gd_ild2 dX9_move_5 ?_
    refine gd_icmp_ge_t 58 dX9_move_6 (by decide) (by exact nI_le (by omega) (by omega)) ?_
    refine gd_vret dX9_move_58 rfl ?_
    rfl
  · intro j hj ih
    refine gd_ild4 dX9_move_3 ?_
    refine gd_ild2 dX9_move_5 ?_
    refine gd_icmp_ge_f 58 dX9_move_6 (by decide) (by exact nI_ge (by omega) (by omega)) ?_
    refine gd_ild3 dX9_move_9 ?_
    refine gd_if_eq_t 29 dX9_move_10 (by decide) (by decide) ?_
    refine gd_ald1 dX9_move_29 (by decide) ?_
    refine gd_ild4 dX9_move_30 ?_
    refine gd_ald0 dX9_move_32 (by decide) ?_
    refine gd_getR (r := 94) dX9_move_33 fl_9_75 rfl rfl rfl (by decide) ?_
    refine gd_ald0 dX9_move_36 (by decide) ?_
    refine gd_getI dX9_move_37 fl_9_272 rfl rfl ?_
    rw [show (sI (sI h 79 (va_cpy (h.1 94) (h.1 79) 531 0 j)) 72 (upd (h.1 72) 34 (nI (531 + j)))).1 72 34 = nI (531 + j) from rfl]
    refine gd_iald (n := 900) dX9_move_40 rfl (by decide) (by repeat' (first | with_reducible rfl | apply ni_add | apply ni_mul)) (by omega) ?_
    rw [show (sI (sI h 79 (va_cpy (h.1 94) (h.1 79) 531 0 j)) 72 (upd (h.1 72) 34 (nI (531 + j)))).1 94 (531 + j) = h.1 94 (531 + j) from rfl]
    refine gd_iast (n := 16) dX9_move_41 rfl (by decide) (by repeat' (first | with_reducible rfl | apply ni_add | apply ni_mul)) (by omega) ?_
    rw [mvA (c := 79) (by decide), icpy_s0]
    refine gd_ald0 dX9_move_42 (by decide) ?_
    refine gd_dupr (by decide) dX9_move_43 ?_
    refine gd_getI dX9_move_44 fl_9_272 rfl rfl ?_
    rw [show (sI (sI h 79 (va_cpy (h.1 94) (h.1 79) 531 0 (j + 1))) 72 (upd (h.1 72) 34 (nI (531 + j)))).1 72 34 = nI (531 + j) from rfl]
    refine gd_ic1 dX9_move_47 ?_
    refine gd_iadd dX9_move_48 ?_
    rw [nI_add, Nat.add_assoc]
    refine gd_putI dX9_move_49 fl_9_272 rfl rfl (fun _ _ _ e => by cases e; rfl) ?_
    rw [mvB]
    refine gd_iinc4 (b := nI 1) dX9_move_52 (by decide) rfl ?_
    rw [nI_add]
    refine gd_goto 3 dX9_move_55 (by decide) ?_
    exact ih
theorem m_mv6_1 {h : Hp} (hp : h.1 72 34 = nI 547) : Gd mX9_move 0 [.ref 72, .ref 80, .int (nI 192), .int (nI 1), .null] [] h (none, sI (sI h 94 (va_cpy (h.1 80) (h.1 94) 0 547 192)) 72 (upd (h.1 72) 34 (nI (547 + 192)))) := by
  have key := loopG (P := fun j => Gd mX9_move 3 [.ref 72, .ref 80, .int (nI 192), .int (nI 1), .int (nI j)] [] (sI (sI h 94 (va_cpy (h.1 80) (h.1 94) 0 547 j)) 72 (upd (h.1 72) 34 (nI (547 + j)))) (none, sI (sI h 94 (va_cpy (h.1 80) (h.1 94) 0 547 192)) 72 (upd (h.1 72) 34 (nI (547 + 192))))) (n := 192) ?_ ?_ 0 (by omega)
  · have e0 : sI (sI h 94 (va_cpy (h.1 80) (h.1 94) 0 547 0)) 72 (upd (h.1 72) 34 (nI (547 + 0))) = h := by rw [icpy_0, sI_id]; rw [show upd (h.1 72) 34 (nI (547 + 0)) = h.1 72 from by rw [show nI (547 + 0) = h.1 72 34 from hp.symm]; exact upd_id _ _, sI_id]
    rw [e0] at key
    refine gd_ic0 dX9_move_0 ?_
    refine gd_ist4 dX9_move_1 rfl ?_
    exact key
  · refine gd_ild4 dX9_move_3 ?_
    refine gd_ild2 dX9_move_5 ?_
    refine gd_icmp_ge_t 58 dX9_move_6 (by decide) (by exact nI_le (by omega) (by omega)) ?_
    refine gd_vret dX9_move_58 rfl ?_
    rfl
  · intro j hj ih
    refine gd_ild4 dX9_move_3 ?_
    refine gd_ild2 dX9_move_5 ?_
    refine gd_icmp_ge_f 58 dX9_move_6 (by decide) (by exact nI_ge (by omega) (by omega)) ?_
    refine gd_ild3 dX9_move_9 ?_
    refine gd_if_eq_f 29 dX9_move_10 (by decide) (by decide) ?_
    refine gd_ald0 dX9_move_13 (by decide) ?_
    refine gd_getR (r := 94) dX9_move_14 fl_9_75 rfl rfl rfl (by decide) ?_
    refine gd_ald0 dX9_move_17 (by decide) ?_
    refine gd_getI dX9_move_18 fl_9_272 rfl rfl ?_
    rw [show (sI (sI h 94 (va_cpy (h.1 80) (h.1 94) 0 547 j)) 72 (upd (h.1 72) 34 (nI (547 + j)))).1 72 34 = nI (547 + j) from rfl]
    refine gd_ald1 dX9_move_21 (by decide) ?_
    refine gd_ild4 dX9_move_22 ?_
    refine gd_iald (n := 192) dX9_move_24 rfl (by decide) (by repeat' (first | with_reducible rfl | apply ni_add | apply ni_mul)) (by omega) ?_
    rw [show (sI (sI h 94 (va_cpy (h.1 80) (h.1 94) 0 547 j)) 72 (upd (h.1 72) 34 (nI (547 + j)))).1 80 j = h.1 80 (0 + j) by rw [Nat.zero_add]; rfl]
    refine gd_iast (n := 900) dX9_move_25 rfl (by decide) (by repeat' (first | with_reducible rfl | apply ni_add | apply ni_mul)) (by omega) ?_
    rw [mvA (c := 94) (by decide), icpy_s]
    refine gd_goto 42 dX9_move_26 (by decide) ?_
    refine gd_ald0 dX9_move_42 (by decide) ?_
    refine gd_dupr (by decide) dX9_move_43 ?_
    refine gd_getI dX9_move_44 fl_9_272 rfl rfl ?_
    rw [show (sI (sI h 94 (va_cpy (h.1 80) (h.1 94) 0 547 (j + 1))) 72 (upd (h.1 72) 34 (nI (547 + j)))).1 72 34 = nI (547 + j) from rfl]
    refine gd_ic1 dX9_move_47 ?_
    refine gd_iadd dX9_move_48 ?_
    rw [nI_add, Nat.add_assoc]
    refine gd_putI dX9_move_49 fl_9_272 rfl rfl (fun _ _ _ e => by cases e; rfl) ?_
    rw [mvB]
    refine gd_iinc4 (b := nI 1) dX9_move_52 (by decide) rfl ?_
    rw [nI_add]
    refine gd_goto 3 dX9_move_55 (by decide) ?_
    exact ih
theorem m_mv6_0 {h : Hp} (hp : h.1 72 34 = nI 547) : Gd mX9_move 0 [.ref 72, .ref 80, .int (nI 192), .int (nI 0), .null] [] h (none, sI (sI h 80 (va_cpy (h.1 94) (h.1 80) 547 0 192)) 72 (upd (h.1 72) 34 (nI (547 + 192)))) := by
  have key := loopG (P := fun j => Gd mX9_move 3 [.ref 72, .ref 80, .int (nI 192), .int (nI 0), .int (nI j)] [] (sI (sI h 80 (va_cpy (h.1 94) (h.1 80) 547 0 j)) 72 (upd (h.1 72) 34 (nI (547 + j)))) (none, sI (sI h 80 (va_cpy (h.1 94) (h.1 80) 547 0 192)) 72 (upd (h.1 72) 34 (nI (547 + 192))))) (n := 192) ?_ ?_ 0 (by omega)
  · have e0 : sI (sI h 80 (va_cpy (h.1 94) (h.1 80) 547 0 0)) 72 (upd (h.1 72) 34 (nI (547 + 0))) = h := by rw [icpy_0, sI_id]; rw [show upd (h.1 72) 34 (nI (547 + 0)) = h.1 72 from by rw [show nI (547 + 0) = h.1 72 34 from hp.symm]; exact upd_id _ _, sI_id]
    rw [e0] at key
    refine gd_ic0 dX9_move_0 ?_
    refine gd_ist4 dX9_move_1 rfl ?_
    exact key
  · refine gd_ild4 dX9_move_3 ?_
    refine gd_ild2 dX9_move_5 ?_
    refine gd_icmp_ge_t 58 dX9_move_6 (by decide) (by exact nI_le (by omega) (by omega)) ?_
    refine gd_vret dX9_move_58 rfl ?_
    rfl
  · intro j hj ih
    refine gd_ild4 dX9_move_3 ?_
    refine gd_ild2 dX9_move_5 ?_
    refine gd_icmp_ge_f 58 dX9_move_6 (by decide) (by exact nI_ge (by omega) (by omega)) ?_
    refine gd_ild3 dX9_move_9 ?_
    refine gd_if_eq_t 29 dX9_move_10 (by decide) (by decide) ?_
    refine gd_ald1 dX9_move_29 (by decide) ?_
    refine gd_ild4 dX9_move_30 ?_
    refine gd_ald0 dX9_move_32 (by decide) ?_
    refine gd_getR (r := 94) dX9_move_33 fl_9_75 rfl rfl rfl (by decide) ?_
    refine gd_ald0 dX9_move_36 (by decide) ?_
    refine gd_getI dX9_move_37 fl_9_272 rfl rfl ?_
    rw [show (sI (sI h 80 (va_cpy (h.1 94) (h.1 80) 547 0 j)) 72 (upd (h.1 72) 34 (nI (547 + j)))).1 72 34 = nI (547 + j) from rfl]
    refine gd_iald (n := 900) dX9_move_40 rfl (by decide) (by repeat' (first | with_reducible rfl | apply ni_add | apply ni_mul)) (by omega) ?_
    rw [show (sI (sI h 80 (va_cpy (h.1 94) (h.1 80) 547 0 j)) 72 (upd (h.1 72) 34 (nI (547 + j)))).1 94 (547 + j) = h.1 94 (547 + j) from rfl]
    refine gd_iast (n := 192) dX9_move_41 rfl (by decide) (by repeat' (first | with_reducible rfl | apply ni_add | apply ni_mul)) (by omega) ?_
    rw [mvA (c := 80) (by decide), icpy_s0]
    refine gd_ald0 dX9_move_42 (by decide) ?_
    refine gd_dupr (by decide) dX9_move_43 ?_
    refine gd_getI dX9_move_44 fl_9_272 rfl rfl ?_
    rw [show (sI (sI h 80 (va_cpy (h.1 94) (h.1 80) 547 0 (j + 1))) 72 (upd (h.1 72) 34 (nI (547 + j)))).1 72 34 = nI (547 + j) from rfl]
    refine gd_ic1 dX9_move_47 ?_
    refine gd_iadd dX9_move_48 ?_
    rw [nI_add, Nat.add_assoc]
    refine gd_putI dX9_move_49 fl_9_272 rfl rfl (fun _ _ _ e => by cases e; rfl) ?_
    rw [mvB]
    refine gd_iinc4 (b := nI 1) dX9_move_52 (by decide) rfl ?_
    rw [nI_add]
    refine gd_goto 3 dX9_move_55 (by decide) ?_
    exact ih
theorem m_mv7_1 {h : Hp} (hp : h.1 72 34 = nI 739) : Gd mX9_move 0 [.ref 72, .ref 81, .int (nI 60), .int (nI 1), .null] [] h (none, sI (sI h 94 (va_cpy (h.1 81) (h.1 94) 0 739 60)) 72 (upd (h.1 72) 34 (nI (739 + 60)))) := by
  have key := loopG (P := fun j => Gd mX9_move 3 [.ref 72, .ref 81, .int (nI 60), .int (nI 1), .int (nI j)] [] (sI (sI h 94 (va_cpy (h.1 81) (h.1 94) 0 739 j)) 72 (upd (h.1 72) 34 (nI (739 + j)))) (none, sI (sI h 94 (va_cpy (h.1 81) (h.1 94) 0 739 60)) 72 (upd (h.1 72) 34 (nI (739 + 60))))) (n := 60) ?_ ?_ 0 (by omega)
  · have e0 : sI (sI h 94 (va_cpy (h.1 81) (h.1 94) 0 739 0)) 72 (upd (h.1 72) 34 (nI (739 + 0))) = h := by rw [icpy_0, sI_id]; rw [show upd (h.1 72) 34 (nI (739 + 0)) = h.1 72 from by rw [show nI (739 + 0) = h.1 72 34 from hp.symm]; exact upd_id _ _, sI_id]
    rw [e0] at key
    refine gd_ic0 dX9_move_0 ?_
    refine gd_ist4 dX9_move_1 rfl ?_
    exact key
  · refine gd_ild4 dX9_move_3 ?_
    refine gd_ild2 dX9_move_5 ?_
    refine gd_icmp_ge_t 58 dX9_move_6 (by decide) (by exact nI_le (by omega) (by omega)) ?_
    refine gd_vret dX9_move_58 rfl ?_
    rfl
  · intro j hj ih
    refine gd_ild4 dX9_move_3 ?_
    refine gd_ild2 dX9_move_5 ?_
    refine gd_icmp_ge_f 58 dX9_move_6 (by decide) (by exact nI_ge (by omega) (by omega)) ?_
    refine gd_ild3 dX9_move_9 ?_
    refine gd_if_eq_f 29 dX9_move_10 (by decide) (by decide) ?_
    refine gd_ald0 dX9_move_13 (by decide) ?_
    refine gd_getR (r := 94) dX9_move_14 fl_9_75 rfl rfl rfl (by decide) ?_
    refine gd_ald0 dX9_move_17 (by decide) ?_
    refine gd_getI dX9_move_18 fl_9_272 rfl rfl ?_
    rw [show (sI (sI h 94 (va_cpy (h.1 81) (h.1 94) 0 739 j)) 72 (upd (h.1 72) 34 (nI (739 + j)))).1 72 34 = nI (739 + j) from rfl]
    refine gd_ald1 dX9_move_21 (by decide) ?_
    refine gd_ild4 dX9_move_22 ?_
    refine gd_iald (n := 60) dX9_move_24 rfl (by decide) (by repeat' (first | with_reducible rfl | apply ni_add | apply ni_mul)) (by omega) ?_
    rw [show (sI (sI h 94 (va_cpy (h.1 81) (h.1 94) 0 739 j)) 72 (upd (h.1 72) 34 (nI (739 + j)))).1 81 j = h.1 81 (0 + j) by rw [Nat.zero_add]; rfl]
    refine gd_iast (n := 900) dX9_move_25 rfl (by decide) (by repeat' (first | with_reducible rfl | apply ni_add | apply ni_mul)) (by omega) ?_
    rw [mvA (c := 94) (by decide), icpy_s]
    refine gd_goto 42 dX9_move_26 (by decide) ?_
    refine gd_ald0 dX9_move_42 (by decide) ?_
    refine gd_dupr (by decide) dX9_move_43 ?_
    refine gd_getI dX9_move_44 fl_9_272 rfl rfl ?_
    rw [show (sI (sI h 94 (va_cpy (h.1 81) (h.1 94) 0 739 (j + 1))) 72 (upd (h.1 72) 34 (nI (739 + j)))).1 72 34 = nI (739 + j) from rfl]
    refine gd_ic1 dX9_move_47 ?_
    refine gd_iadd dX9_move_48 ?_
    rw [nI_add, Nat.add_assoc]
    refine gd_putI dX9_move_49 fl_9_272 rfl rfl (fun _ _ _ e => by cases e; rfl) ?_
    rw [mvB]
    refine gd_iinc4 (b := nI 1) dX9_move_52 (by decide) rfl ?_
    rw [nI_add]
    refine gd_goto 3 dX9_move_55 (by decide) ?_
    exact ih
theorem m_mv7_0 {h : Hp} (hp : h.1 72 34 = nI 739) : Gd mX9_move 0 [.ref 72, .ref 81, .int (nI 60), .int (nI 0), .null] [] h (none, sI (sI h 81 (va_cpy (h.1 94) (h.1 81) 739 0 60)) 72 (upd (h.1 72) 34 (nI (739 + 60)))) := by
  have key := loopG (P := fun j => Gd mX9_move 3 [.ref 72, .ref 81, .int (nI 60), .int (nI 0), .int (nI j)] [] (sI (sI h 81 (va_cpy (h.1 94) (h.1 81) 739 0 j)) 72 (upd (h.1 72) 34 (nI (739 + j)))) (none, sI (sI h 81 (va_cpy (h.1 94) (h.1 81) 739 0 60)) 72 (upd (h.1 72) 34 (nI (739 + 60))))) (n := 60) ?_ ?_ 0 (by omega)
  · have e0 : sI (sI h 81 (va_cpy (h.1 94) (h.1 81) 739 0 0)) 72 (upd (h.1 72) 34 (nI (739 + 0))) = h := by rw [icpy_0, sI_id]; rw [show upd (h.1 72) 34 (nI (739 + 0)) = h.1 72 from by rw [show nI (739 + 0) = h.1 72 34 from hp.symm]; exact upd_id _ _, sI_id]
    rw [e0] at key
    refine gd_ic0 dX9_move_0 ?_
    refine gd_ist4 dX9_move_1 rfl ?_
    exact key
  · refine gd_ild4 dX9_move_3 ?_
    refine gd_ild2 dX9_move_5 ?_
    refine gd_icmp_ge_t 58 dX9_move_6 (by decide) (by exact nI_le (by omega) (by omega)) ?_
    refine gd_vret dX9_move_58 rfl ?_
    rfl
  · intro j hj ih
    refine gd_ild4 dX9_move_3 ?_
    refine gd_ild2 dX9_move_5 ?_
    refine gd_icmp_ge_f 58 dX9_move_6 (by decide) (by exact nI_ge (by omega) (by omega)) ?_
    refine gd_ild3 dX9_move_9 ?_
    refine gd_if_eq_t 29 dX9_move_10 (by decide) (by decide) ?_
    refine gd_ald1 dX9_move_29 (by decide) ?_
    refine gd_ild4 dX9_move_30 ?_
    refine gd_ald0 dX9_move_32 (by decide) ?_
    refine gd_getR (r := 94) dX9_move_33 fl_9_75 rfl rfl rfl (by decide) ?_
    refine gd_ald0 dX9_move_36 (by decide) ?_
    refine gd_getI dX9_move_37 fl_9_272 rfl rfl ?_
    rw [show (sI (sI h 81 (va_cpy (h.1 94) (h.1 81) 739 0 j)) 72 (upd (h.1 72) 34 (nI (739 + j)))).1 72 34 = nI (739 + j) from rfl]
    refine gd_iald (n := 900) dX9_move_40 rfl (by decide) (by repeat' (first | with_reducible rfl | apply ni_add | apply ni_mul)) (by omega) ?_
    rw [show (sI (sI h 81 (va_cpy (h.1 94) (h.1 81) 739 0 j)) 72 (upd (h.1 72) 34 (nI (739 + j)))).1 94 (739 + j) = h.1 94 (739 + j) from rfl]
    refine gd_iast (n := 60) dX9_move_41 rfl (by decide) (by repeat' (first | with_reducible rfl | apply ni_add | apply ni_mul)) (by omega) ?_
    rw [mvA (c := 81) (by decide), icpy_s0]
    refine gd_ald0 dX9_move_42 (by decide) ?_
    refine gd_dupr (by decide) dX9_move_43 ?_
    refine gd_getI dX9_move_44 fl_9_272 rfl rfl ?_
    rw [show (sI (sI h 81 (va_cpy (h.1 94) (h.1 81) 739 0 (j + 1))) 72 (upd (h.1 72) 34 (nI (739 + j)))).1 72 34 = nI (739 + j) from rfl]
    refine gd_ic1 dX9_move_47 ?_
    refine gd_iadd dX9_move_48 ?_
    rw [nI_add, Nat.add_assoc]
    refine gd_putI dX9_move_49 fl_9_272 rfl rfl (fun _ _ _ e => by cases e; rfl) ?_
    rw [mvB]
    refine gd_iinc4 (b := nI 1) dX9_move_52 (by decide) rfl ?_
    rw [nI_add]
    refine gd_goto 3 dX9_move_55 (by decide) ?_
    exact ih
