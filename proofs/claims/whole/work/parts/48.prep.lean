
/-! ===== the reference prepares ===== -/
def FM (h h' : Hp) : Prop := (∀ k, k ≠ 72 → k ≠ 82 → k ≠ 86 → k ≠ 87 → k ≠ 89 → h'.1 k = h.1 k) ∧ (h'.1 72 14 = h.1 72 14 ∧ h'.1 72 32 = h.1 72 32) ∧ ∀ k, k ≠ 72 → k ≠ 88 → h'.2 k = h.2 k
theorem FM.rf (h : Hp) : FM h h := ⟨fun _ _ _ _ _ _ => rfl, ⟨rfl, rfl⟩, fun _ _ _ => rfl⟩
theorem FM.tr {a b c : Hp} (p : FM a b) (q : FM b c) : FM a c := ⟨fun k h1 h2 h3 h4 h5 => (q.1 k h1 h2 h3 h4 h5).trans (p.1 k h1 h2 h3 h4 h5), ⟨q.2.1.1.trans p.2.1.1, q.2.1.2.trans p.2.1.2⟩, fun k h1 h2 => (q.2.2 k h1 h2).trans (p.2.2 k h1 h2)⟩
theorem FM.si {a b : Hp} {k : Nat} {f : Nat → Int32} (p : FM a b) (hk : k = 82 ∨ k = 86 ∨ k = 87 ∨ k = 89) : FM a (sI b k f) := ⟨fun j h1 h2 h3 h4 h5 => by rw [sI_n (by omega)]; exact p.1 j h1 h2 h3 h4 h5, ⟨by rw [sI_n (by omega)]; exact p.2.1.1, by rw [sI_n (by omega)]; exact p.2.1.2⟩, p.2.2⟩
theorem FM.s72 {a b : Hp} {j : Nat} {v : Int32} (p : FM a b) (h1 : j ≠ 14) (h2 : j ≠ 32) : FM a (sI b 72 (upd (b.1 72) j v)) := ⟨fun k q1 q2 q3 q4 q5 => by rw [sI_n q1]; exact p.1 k q1 q2 q3 q4 q5, ⟨by rw [sI_s, upd_n (Ne.symm h1)]; exact p.2.1.1, by rw [sI_s, upd_n (Ne.symm h2)]; exact p.2.1.2⟩, p.2.2⟩
theorem FM.sl {a b : Hp} {k : Nat} {f : Nat → Int64} (p : FM a b) (hk : k = 72 ∨ k = 88) : FM a (sL b k f) := ⟨p.1, p.2.1, fun j h1 h2 => by rw [sL_n (by omega)]; exact p.2.2 j h1 h2⟩
theorem FM.same {a b : Hp} (p : FM a b) : Same a b := by
  refine ⟨fun k hk => p.1 k (fun z => ?_) (fun z => ?_) (fun z => ?_) (fun z => ?_) (fun z => ?_), ⟨by rw [p.1 51 (by decide) (by decide) (by decide) (by decide) (by decide)], p.2.1.1, p.2.1.2⟩, fun k hk => p.2.2 k (fun z => ?_) (fun z => ?_)⟩ <;> (rw [z] at hk; cases hk)
theorem FM.ms {a b : Hp} (p : FM a b) : ms b = ms a := p.same.msE
def PV (h : Hp) (s : Nat → Nat → Int32) (g : Int32) : Prop := ms h = s ∧ h.1 72 21 = nI (fvN s) ∧ (∀ q, q < 3 → h.1 87 q = lawV s (5 + q)) ∧ (∀ t, t < nT s → h.1 86 t = nI (spN s g t)) ∧ ∀ l, l < nN s → h.1 82 l = bi (cB s g (nN s) l)
def QV (h : Hp) (s : Nat → Nat → Int32) (g : Int32) : Prop := (h.1 74 0 = s 0 0 ∧ (∀ c, c < 144 → h.1 75 c = s 1 c) ∧ ∀ t, t < 16 → h.1 76 t = s 2 t) ∧ h.1 72 21 = nI (fvN s) ∧ (∀ q, q < 3 → h.1 87 q = lawV s (5 + q)) ∧ ∀ t, t < nT s → h.1 86 t = nI (spN s g t)
theorem PV.q {h : Hp} {s : Nat → Nat → Int32} {g : Int32} (v : PV h s g) : QV h s g := ⟨⟨by rw [← ms_r0 (by decide), v.1], fun c hc => by rw [← ms_r1 hc, v.1], fun t ht => by rw [← ms_r2 ht, v.1]⟩, v.2.1, v.2.2.1, v.2.2.2.1⟩
def spQ (s : Nat → Nat → Int32) (g : Int32) (f : Nat → Int32) (m l : Nat) : Nat → Int32 := fun j => if j < m then nI (spF s g j l) else f j
theorem spQ_0 (s : Nat → Nat → Int32) (g : Int32) (f : Nat → Int32) (m : Nat) : filI f m (nI 4095) = spQ s g f m 0 := by
  funext j; unfold filI spQ; rfl
theorem spQ_n {s : Nat → Nat → Int32} {g : Int32} {f : Nat → Int32} {l m : Nat} (h : cB s g (nN s) l = false) : spQ s g f m (l + 1) = spQ s g f m l := by
  funext j; unfold spQ
  split
  · rw [spF, h, Bool.false_and, if_neg (by decide)]
  · rfl
theorem spQ_y {s : Nat → Nat → Int32} {g : Int32} {f : Nat → Int32} {l t m : Nat} (h : cB s g (nN s) l = true) (ht : t < m) (hm : m ≤ 16) (e : s 4 (9 * l + 1) = nI t) : upd (spQ s g f m l) t (nI (spF s g t l) &&& nI (letN s l)) = spQ s g f m (l + 1) := by
  funext j; rw [upd_at]; unfold spQ
  by_cases q : j = t
  · rw [if_pos q, if_pos (by omega), q, spF, h, Bool.true_and, if_pos (decide_eq_true e), and_nI]
  · rw [if_neg q]
    split
    · rename_i z
      rw [spF, h, Bool.true_and, if_neg (fun y => q (by have := (nI_eq (by omega) (by omega)).mp ((of_decide_eq_true y).symm.trans e); exact this))]
    · rfl

theorem m_prep3 {h : Hp} (w : WF (ms h)) {g : Int32} {l2 : Int32} : ∃ h2, Gd mX9_prepare 78 [.ref 72, .int g, .int l2] [] (sI (sI h 82 (dcR (ms h) g (h.1 82) (nN (ms h)))) 86 (spQ (ms h) g (h.1 86) (nT (ms h)) (nN (ms h)))) (none, h2) ∧ FM h h2 ∧ PV h2 (ms h) g := by
  obtain ⟨h1, e1⟩ : ∃ h1, h1 = sI (sI h 82 (dcR (ms h) g (h.1 82) (nN (ms h)))) 86 (spQ (ms h) g (h.1 86) (nT (ms h)) (nN (ms h))) := ⟨_, rfl⟩
  have fm : FM h h1 := by rw [e1]; exact ((FM.rf h).si (by omega)).si (by omega)
  have em := fm.ms
  have s86 : ∀ t, t < nT (ms h) → h1.1 86 t = nI (spN (ms h) g t) := fun t ht => by rw [e1]; exact if_pos ht
  have s82 : ∀ l, l < nN (ms h) → h1.1 82 l = bi (cB (ms h) g (nN (ms h)) l) := fun l hl => by rw [e1]; exact dcR_at hl
  rw [← e1]
  have f1 := fv_ok w
  have L : ∀ H, FM h H → ∀ k, k < 8 → Gd mX9_lawOf 0 [.ref 72, .int (nI k), .null] [] H (some (.int (lawV (ms h) k)), H) := by
    intro H fH k hk
    have g := m_lawOf (h := H) (by rw [fH.ms]; exact w) hk
    rw [fH.ms] at g
    exact g
  have a0 := fm.s72 (j := 21) (v := nI (fvN (ms h))) (by decide) (by decide)
  have a1 : FM h (sI (sI h1 72 (upd (h1.1 72) 21 (nI (fvN (ms h))))) 87 (upd (h1.1 87) 0 (lawV (ms h) (5 + 0)))) := a0.si (by omega)
  have a2 : FM h (sI (sI (sI h1 72 (upd (h1.1 72) 21 (nI (fvN (ms h))))) 87 (upd (h1.1 87) 0 (lawV (ms h) (5 + 0)))) 87 (upd (upd (h1.1 87) 0 (lawV (ms h) (5 + 0))) 1 (lawV (ms h) (5 + 1)))) := a1.si (by omega)
  have a3 : FM h (sI (sI (sI (sI h1 72 (upd (h1.1 72) 21 (nI (fvN (ms h))))) 87 (upd (h1.1 87) 0 (lawV (ms h) (5 + 0)))) 87 (upd (upd (h1.1 87) 0 (lawV (ms h) (5 + 0))) 1 (lawV (ms h) (5 + 1)))) 87 (upd (upd (upd (h1.1 87) 0 (lawV (ms h) (5 + 0))) 1 (lawV (ms h) (5 + 1))) 2 (lawV (ms h) (5 + 2)))) := a2.si (by omega)
  refine ⟨_, ?_, a3, a3.ms, rfl, ?_, s86, s82⟩
  · refine gd_ald0 dX9_prepare_78 (by decide) ?_
    refine gd_ald0 dX9_prepare_79 (by decide) ?_
    refine gd_ic4 dX9_prepare_80 ?_
    refine gd_cV1i dX9_prepare_81 ct_9_143 rc_72 ⟨Nat.le_of_ble_eq_true rfl, Nat.le_of_ble_eq_true rfl⟩ (Nat.le_of_ble_eq_true rfl) (Nat.le_of_ble_eq_true rfl) (L _ fm 4 (by decide)) ?_
    rw [f1.1]
    refine gd_putI dX9_prepare_84 fl_9_213 rfl rfl (fun _ _ _ e => by cases e; rfl) ?_
    refine gd_ic0 dX9_prepare_87 ?_
    refine gd_ist2 dX9_prepare_88 rfl ?_
    refine gd_ild2 dX9_prepare_89 ?_
    refine gd_ic3 dX9_prepare_90 ?_
    refine gd_icmp_ge_f 113 dX9_prepare_91 (by decide) (by decide) ?_
    refine gd_ald0 dX9_prepare_94 (by decide) ?_
    refine gd_getR (r := 87) dX9_prepare_95 fl_9_53 rfl rfl rfl (by decide) ?_
    refine gd_ild2 dX9_prepare_98 ?_
    refine gd_ald0 dX9_prepare_99 (by decide) ?_
    refine gd_ic5 dX9_prepare_100 ?_
    refine gd_ild2 dX9_prepare_101 ?_
    refine gd_iadd dX9_prepare_102 ?_
    refine gd_cV1i dX9_prepare_103 ct_9_143 rc_72 ⟨Nat.le_of_ble_eq_true rfl, Nat.le_of_ble_eq_true rfl⟩ (Nat.le_of_ble_eq_true rfl) (Nat.le_of_ble_eq_true rfl) (L _ (by first | exact a0 | exact a1 | exact a2) _ (by decide)) ?_
    refine gd_iast (n := 3) dX9_prepare_106 rfl (by decide) (by repeat' (first | with_reducible rfl | apply ni_add | apply ni_mul)) (by omega) ?_
    refine gd_iinc2 (b := nI 1) dX9_prepare_107 (by decide) rfl ?_
    refine gd_goto 89 dX9_prepare_110 (by decide) ?_
    refine gd_ild2 dX9_prepare_89 ?_
    refine gd_ic3 dX9_prepare_90 ?_
    refine gd_icmp_ge_f 113 dX9_prepare_91 (by decide) (by decide) ?_
    refine gd_ald0 dX9_prepare_94 (by decide) ?_
    refine gd_getR (r := 87) dX9_prepare_95 fl_9_53 rfl rfl rfl (by decide) ?_
    refine gd_ild2 dX9_prepare_98 ?_
    refine gd_ald0 dX9_prepare_99 (by decide) ?_
    refine gd_ic5 dX9_prepare_100 ?_
    refine gd_ild2 dX9_prepare_101 ?_
    refine gd_iadd dX9_prepare_102 ?_
    refine gd_cV1i dX9_prepare_103 ct_9_143 rc_72 ⟨Nat.le_of_ble_eq_true rfl, Nat.le_of_ble_eq_true rfl⟩ (Nat.le_of_ble_eq_true rfl) (Nat.le_of_ble_eq_true rfl) (L _ (by first | exact a0 | exact a1 | exact a2) _ (by decide)) ?_
    refine gd_iast (n := 3) dX9_prepare_106 rfl (by decide) (by repeat' (first | with_reducible rfl | apply ni_add | apply ni_mul)) (by omega) ?_
    refine gd_iinc2 (b := nI 1) dX9_prepare_107 (by decide) rfl ?_
    refine gd_goto 89 dX9_prepare_110 (by decide) ?_
    refine gd_ild2 dX9_prepare_89 ?_
    refine gd_ic3 dX9_prepare_90 ?_
    refine gd_icmp_ge_f 113 dX9_prepare_91 (by decide) (by decide) ?_
    refine gd_ald0 dX9_prepare_94 (by decide) ?_
    refine gd_getR (r := 87) dX9_prepare_95 fl_9_53 rfl rfl rfl (by decide) ?_
    refine gd_ild2 dX9_prepare_98 ?_
    refine gd_ald0 dX9_prepare_99 (by decide) ?_
    refine gd_ic5 dX9_prepare_100 ?_
    refine gd_ild2 dX9_prepare_101 ?_
    refine gd_iadd dX9_prepare_102 ?_
    refine gd_cV1i dX9_prepare_103 ct_9_143 rc_72 ⟨Nat.le_of_ble_eq_true rfl, Nat.le_of_ble_eq_true rfl⟩ (Nat.le_of_ble_eq_true rfl) (Nat.le_of_ble_eq_true rfl) (L _ (by first | exact a0 | exact a1 | exact a2) _ (by decide)) ?_
    refine gd_iast (n := 3) dX9_prepare_106 rfl (by decide) (by repeat' (first | with_reducible rfl | apply ni_add | apply ni_mul)) (by omega) ?_
    refine gd_iinc2 (b := nI 1) dX9_prepare_107 (by decide) rfl ?_
    refine gd_goto 89 dX9_prepare_110 (by decide) ?_
    refine gd_ild2 dX9_prepare_89 ?_
    refine gd_ic3 dX9_prepare_90 ?_
    refine gd_icmp_ge_t 113 dX9_prepare_91 (by decide) (by decide) ?_
    refine gd_vret dX9_prepare_113 rfl ?_
    rfl
  · intro q hq
    rcases (show q = 0 ∨ q = 1 ∨ q = 2 by omega) with z | z | z <;> (subst z; rfl)
theorem m_prep2 {h : Hp} (w : WF (ms h)) {g : Int32} {x : Option Value × Hp} (k : Gd mX9_prepare 78 [.ref 72, .int g, .int (nI (nN (ms h)))] [] (sI (sI h 82 (dcR (ms h) g (h.1 82) (nN (ms h)))) 86 (spQ (ms h) g (h.1 86) (nT (ms h)) (nN (ms h)))) x) : Gd mX9_prepare 34 [.ref 72, .int g, .int (nI 0)] [] (sI (sI h 82 (dcR (ms h) g (h.1 82) (nN (ms h)))) 86 (spQ (ms h) g (h.1 86) (nT (ms h)) 0)) x := by
  have lN := w.n.2
  have lT := w.t.2
  refine loopG (P := fun l => Gd mX9_prepare 34 [.ref 72, .int g, .int (nI l)] [] (sI (sI h 82 (dcR (ms h) g (h.1 82) (nN (ms h)))) 86 (spQ (ms h) g (h.1 86) (nT (ms h)) l)) x) (n := nN (ms h)) ?_ ?_ 0 (by omega)
  · have EN : (sI (sI h 82 (dcR (ms h) g (h.1 82) (nN (ms h)))) 86 (spQ (ms h) g (h.1 86) (nT (ms h)) (nN (ms h)))).1 74 1 = nI (nN (ms h)) := (ms_r0 (by decide)).symm.trans w.n.1
    refine gd_ild2 dX9_prepare_34 ?_
    refine gd_ald0 dX9_prepare_35 (by decide) ?_
    refine gd_getR (r := 74) dX9_prepare_36 fl_9_13 rfl rfl rfl (by decide) ?_
    refine gd_ic1 dX9_prepare_39 ?_
    refine gd_iald (n := 5) dX9_prepare_40 rfl (by decide) (by repeat' (first | with_reducible rfl | apply ni_add | apply ni_mul)) (by omega) ?_
    refine gd_icmp_ge_t 78 dX9_prepare_41 (by decide) (by rw [EN]; exact nI_le (by omega) (by omega)) ?_
    exact k
  · intro l hl ih
    have EN : (sI (sI h 82 (dcR (ms h) g (h.1 82) (nN (ms h)))) 86 (spQ (ms h) g (h.1 86) (nT (ms h)) l)).1 74 1 = nI (nN (ms h)) := (ms_r0 (by decide)).symm.trans w.n.1
    obtain ⟨t, ht, et⟩ := lt_ok w hl
    have em : ms (sI (sI h 82 (dcR (ms h) g (h.1 82) (nN (ms h)))) 86 (spQ (ms h) g (h.1 86) (nT (ms h)) l)) = ms h := by rw [ms_si (Or.inr (by decide)), ms_si (Or.inr (by decide))]
    have gl := m_letsOf (h := sI (sI h 82 (dcR (ms h) g (h.1 82) (nN (ms h)))) 86 (spQ (ms h) g (h.1 86) (nT (ms h)) l)) (l := l) (by rw [em]; exact w) (by rw [em]; exact hl)
    rw [em] at gl
    cases hb : cB (ms h) g (nN (ms h)) l with
    | false =>
      rw [spQ_n hb] at ih
      refine gd_ild2 dX9_prepare_34 ?_
      refine gd_ald0 dX9_prepare_35 (by decide) ?_
      refine gd_getR (r := 74) dX9_prepare_36 fl_9_13 rfl rfl rfl (by decide) ?_
      refine gd_ic1 dX9_prepare_39 ?_
      refine gd_iald (n := 5) dX9_prepare_40 rfl (by decide) (by repeat' (first | with_reducible rfl | apply ni_add | apply ni_mul)) (by omega) ?_
      refine gd_icmp_ge_f 78 dX9_prepare_41 (by decide) (by rw [EN]; exact nI_ge (by omega) (by omega)) ?_
      refine gd_ald0 dX9_prepare_44 (by decide) ?_
      refine gd_getR (r := 82) dX9_prepare_45 fl_9_37 rfl rfl rfl (by decide) ?_
      refine gd_ild2 dX9_prepare_48 ?_
      refine gd_zald (n := 30) dX9_prepare_49 rfl (by decide) (by repeat' (first | with_reducible rfl | apply ni_add | apply ni_mul)) (by omega) ?_
      rw [show (sI (sI h 82 (dcR (ms h) g (h.1 82) (nN (ms h)))) 86 (spQ (ms h) g (h.1 86) (nT (ms h)) l)).1 82 l = bi (cB (ms h) g (nN (ms h)) l) from dcR_at hl]
      refine gd_if_eq_t 72 dX9_prepare_50 (by decide) (by rw [hb]; decide) ?_
      refine gd_iinc2 (b := nI 1) dX9_prepare_72 (by decide) rfl ?_
      rw [nI_add]
      refine gd_goto 34 dX9_prepare_75 (by decide) ?_
      exact ih
    | true =>
      refine gd_ild2 dX9_prepare_34 ?_
      refine gd_ald0 dX9_prepare_35 (by decide) ?_
      refine gd_getR (r := 74) dX9_prepare_36 fl_9_13 rfl rfl rfl (by decide) ?_
      refine gd_ic1 dX9_prepare_39 ?_
      refine gd_iald (n := 5) dX9_prepare_40 rfl (by decide) (by repeat' (first | with_reducible rfl | apply ni_add | apply ni_mul)) (by omega) ?_
      refine gd_icmp_ge_f 78 dX9_prepare_41 (by decide) (by rw [EN]; exact nI_ge (by omega) (by omega)) ?_
      refine gd_ald0 dX9_prepare_44 (by decide) ?_
      refine gd_getR (r := 82) dX9_prepare_45 fl_9_37 rfl rfl rfl (by decide) ?_
      refine gd_ild2 dX9_prepare_48 ?_
      refine gd_zald (n := 30) dX9_prepare_49 rfl (by decide) (by repeat' (first | with_reducible rfl | apply ni_add | apply ni_mul)) (by omega) ?_
      rw [show (sI (sI h 82 (dcR (ms h) g (h.1 82) (nN (ms h)))) 86 (spQ (ms h) g (h.1 86) (nT (ms h)) l)).1 82 l = bi (cB (ms h) g (nN (ms h)) l) from dcR_at hl]
      refine gd_if_eq_f 72 dX9_prepare_50 (by decide) (by rw [hb]; decide) ?_
      refine gd_ald0 dX9_prepare_53 (by decide) ?_
      refine gd_getR (r := 86) dX9_prepare_54 fl_9_50 rfl rfl rfl (by decide) ?_
      refine gd_ald0 dX9_prepare_57 (by decide) ?_
      refine gd_ild2 dX9_prepare_58 ?_
      refine gd_ic1 dX9_prepare_59 ?_
      refine gd_cV2i dX9_prepare_60 ct_9_120 rc_72 ⟨Nat.le_of_ble_eq_true rfl, Nat.le_of_ble_eq_true rfl⟩ (Nat.le_of_ble_eq_true rfl) (Nat.le_of_ble_eq_true rfl) (m_its (w := 1) (by omega) (by decide) _) ?_
      rw [show (sI (sI h 82 (dcR (ms h) g (h.1 82) (nN (ms h)))) 86 (spQ (ms h) g (h.1 86) (nT (ms h)) l)).1 78 (9 * l + 1) = nI t from (ms_r4 (by omega)).symm.trans et]
      refine gd_dup2 (by decide) dX9_prepare_63 ?_
      refine gd_iald (n := 16) dX9_prepare_64 rfl (by decide) (by repeat' (first | with_reducible rfl | apply ni_add | apply ni_mul)) (by omega) ?_
      rw [show (sI (sI h 82 (dcR (ms h) g (h.1 82) (nN (ms h)))) 86 (spQ (ms h) g (h.1 86) (nT (ms h)) l)).1 86 t = nI (spF (ms h) g t l) from if_pos ht]
      refine gd_ald0 dX9_prepare_65 (by decide) ?_
      refine gd_ild2 dX9_prepare_66 ?_
      refine gd_cV1i dX9_prepare_67 ct_9_133 rc_72 ⟨Nat.le_of_ble_eq_true rfl, Nat.le_of_ble_eq_true rfl⟩ (Nat.le_of_ble_eq_true rfl) (Nat.le_of_ble_eq_true rfl) (gl) ?_
      refine gd_iand dX9_prepare_70 ?_
      refine gd_iast (n := 16) dX9_prepare_71 rfl (by decide) (by repeat' (first | with_reducible rfl | apply ni_add | apply ni_mul)) (by omega) ?_
      refine gd_iinc2 (b := nI 1) dX9_prepare_72 (by decide) rfl ?_
      rw [nI_add]
      refine gd_goto 34 dX9_prepare_75 (by decide) ?_
      rw [sI_s, spQ_y hb ht lT et, sI_sI]
      exact ih
theorem m_prepare {h : Hp} (w : WF (ms h)) (g : Int32) : ∃ h2, Gd mX9_prepare 0 [.ref 72, .int g, .null] [] h (none, h2) ∧ FM h h2 ∧ PV h2 (ms h) g := by
  have lT := w.t.2
  obtain ⟨h2, gg, r⟩ := m_prep3 w (g := g) (l2 := nI (nN (ms h)))
  refine ⟨h2, ?_, r⟩
  have g2 := m_prep2 w gg
  have key := loopG (P := fun j => Gd mX9_prepare 7 [.ref 72, .int g, .int (nI j)] [] (sI (sI h 82 (dcR (ms h) g (h.1 82) (nN (ms h)))) 86 (filI (h.1 86) j (nI 4095))) (none, h2)) (n := nT (ms h)) ?_ ?_ 0 (by omega)
  · rw [filI_0] at key
    have key := gd_eqH (sI_id (sI h 82 (dcR (ms h) g (h.1 82) (nN (ms h)))) 86).symm key
    refine gd_ald0 dX9_prepare_0 (by decide) ?_
    refine gd_ild1 dX9_prepare_1 ?_
    refine gd_cV1v dX9_prepare_2 ct_9_109 rc_72 ⟨Nat.le_of_ble_eq_true rfl, Nat.le_of_ble_eq_true rfl⟩ (Nat.le_of_ble_eq_true rfl) (Nat.le_of_ble_eq_true rfl) (m_count w g) ?_
    refine gd_ic0 dX9_prepare_5 ?_
    refine gd_ist2 dX9_prepare_6 rfl ?_
    exact key
  · have EN : (sI (sI h 82 (dcR (ms h) g (h.1 82) (nN (ms h)))) 86 (filI (h.1 86) (nT (ms h)) (nI 4095))).1 74 0 = nI (nT (ms h)) := (ms_r0 (by decide)).symm.trans w.t.1
    refine gd_ild2 dX9_prepare_7 ?_
    refine gd_ald0 dX9_prepare_8 (by decide) ?_
    refine gd_getR (r := 74) dX9_prepare_9 fl_9_13 rfl rfl rfl (by decide) ?_
    refine gd_ic0 dX9_prepare_12 ?_
    refine gd_iald (n := 5) dX9_prepare_13 rfl (by decide) (by repeat' (first | with_reducible rfl | apply ni_add | apply ni_mul)) (by omega) ?_
    refine gd_icmp_ge_t 32 dX9_prepare_14 (by decide) (by rw [EN]; exact nI_le (by omega) (by omega)) ?_
    refine gd_ic0 dX9_prepare_32 ?_
    refine gd_ist2 dX9_prepare_33 rfl ?_
    rw [spQ_0 (ms h) g]
    exact g2
  · intro j hj ih
    have EN : (sI (sI h 82 (dcR (ms h) g (h.1 82) (nN (ms h)))) 86 (filI (h.1 86) j (nI 4095))).1 74 0 = nI (nT (ms h)) := (ms_r0 (by decide)).symm.trans w.t.1
    refine gd_ild2 dX9_prepare_7 ?_
    refine gd_ald0 dX9_prepare_8 (by decide) ?_
    refine gd_getR (r := 74) dX9_prepare_9 fl_9_13 rfl rfl rfl (by decide) ?_
    refine gd_ic0 dX9_prepare_12 ?_
    refine gd_iald (n := 5) dX9_prepare_13 rfl (by decide) (by repeat' (first | with_reducible rfl | apply ni_add | apply ni_mul)) (by omega) ?_
    refine gd_icmp_ge_f 32 dX9_prepare_14 (by decide) (by rw [EN]; exact nI_ge (by omega) (by omega)) ?_
    refine gd_ald0 dX9_prepare_17 (by decide) ?_
    refine gd_getR (r := 86) dX9_prepare_18 fl_9_50 rfl rfl rfl (by decide) ?_
    refine gd_ild2 dX9_prepare_21 ?_
    refine gd_sipush (v := nI 4095) dX9_prepare_22 (by decide) ?_
    refine gd_iast (n := 16) dX9_prepare_25 rfl (by decide) (by repeat' (first | with_reducible rfl | apply ni_add | apply ni_mul)) (by omega) ?_
    refine gd_iinc2 (b := nI 1) dX9_prepare_26 (by decide) rfl ?_
    rw [nI_add]
    refine gd_goto 7 dX9_prepare_29 (by decide) ?_
    rw [sI_s, filI_s, sI_sI]
    exact ih
theorem m_stepOfQ {h : Hp} {s : Nat → Nat → Int32} (w : WF s) {g : Int32} (v : QV h s g) {t n : Nat} (ht : t < nT s) (hn : isSh n) : Gd mX9_stepOf 0 [.ref 72, .int (nI n), .int (nI t), .null, .null, .null, .null] [] h (some (.int (nI (stN s t (n / 1000) (n / 10 % 100) (n % 10)))), h) := by
  obtain ⟨n1, n2, n3⟩ := hn
  have lT := w.t.2
  have c1 := cl_ok w ht
  obtain ⟨gr, g1, g2, g3, m1⟩ := mo_ok w ht
  have f1 := fv_ok w
  have d1 := dq_le (s := s) (t := t) n1 c1.2 n3
  have ec : h.1 76 t = nI (clN s t) := (v.1.2.2 t (by omega)).trans c1.1
  have eg : h.1 75 (clN s t) = nI gr := (v.1.2.1 _ c1.2).trans g2
  have em : h.1 87 gr = nI (moN s t) := (v.2.2.1 gr g1).trans g3
  have eq1 : (sqN (n / 1000 % 12) (clN s t % 12) + sqN (n / 1000 / 12) (clN s t / 12) + 9 * (n % 10)) / fvN s = (dqN s t (n / 1000) (n % 10)) := rfl
  by_cases q : (n / 10 % 100 + moN s t) < (dqN s t (n / 1000) (n % 10))
  · rw [show stN s t (n / 1000) (n / 10 % 100) (n % 10) = 0 by unfold stN; omega]
    refine gd_ild1 dX9_stepOf_0 ?_
    refine gd_sipush (v := nI 1000) dX9_stepOf_1 (by decide) ?_
    refine gd_idiv dX9_stepOf_4 (by first | decide | exact nI_ne0 (by omega) (by omega)) ?_
    rw [pk_div (by omega) (by decide) (by decide)]
    refine gd_ist3 dX9_stepOf_5 rfl ?_
    refine gd_ild3 dX9_stepOf_6 ?_
    refine gd_bipush (v := nI 12) dX9_stepOf_7 (by decide) ?_
    refine gd_irem dX9_stepOf_9 (by first | decide | exact nI_ne0 (by omega) (by omega)) ?_
    rw [pk_rem (by omega) (by decide) (by decide)]
    refine gd_ald0 dX9_stepOf_10 (by decide) ?_
    refine gd_getR (r := 76) dX9_stepOf_11 fl_9_19 rfl rfl rfl (by decide) ?_
    refine gd_ild2 dX9_stepOf_14 ?_
    refine gd_iald (n := 16) dX9_stepOf_15 rfl (by decide) (by repeat' (first | with_reducible rfl | apply ni_add | apply ni_mul)) (by omega) ?_
    rw [ec]
    refine gd_bipush (v := nI 12) dX9_stepOf_16 (by decide) ?_
    refine gd_irem dX9_stepOf_18 (by first | decide | exact nI_ne0 (by omega) (by omega)) ?_
    rw [pk_rem (by omega) (by decide) (by decide)]
    refine gd_isub dX9_stepOf_19 ?_
    refine gd_ist4 dX9_stepOf_20 rfl ?_
    refine gd_ild3 dX9_stepOf_22 ?_
    refine gd_bipush (v := nI 12) dX9_stepOf_23 (by decide) ?_
    refine gd_idiv dX9_stepOf_25 (by first | decide | exact nI_ne0 (by omega) (by omega)) ?_
    rw [pk_div (by omega) (by decide) (by decide)]
    refine gd_ald0 dX9_stepOf_26 (by decide) ?_
    refine gd_getR (r := 76) dX9_stepOf_27 fl_9_19 rfl rfl rfl (by decide) ?_
    refine gd_ild2 dX9_stepOf_30 ?_
    refine gd_iald (n := 16) dX9_stepOf_31 rfl (by decide) (by repeat' (first | with_reducible rfl | apply ni_add | apply ni_mul)) (by omega) ?_
    rw [ec]
    refine gd_bipush (v := nI 12) dX9_stepOf_32 (by decide) ?_
    refine gd_idiv dX9_stepOf_34 (by first | decide | exact nI_ne0 (by omega) (by omega)) ?_
    rw [pk_div (by omega) (by decide) (by decide)]
    refine gd_isub dX9_stepOf_35 ?_
    refine gd_ist5 dX9_stepOf_36 rfl ?_
    refine gd_ild1 dX9_stepOf_38 ?_
    refine gd_bipush (v := nI 10) dX9_stepOf_39 (by decide) ?_
    refine gd_idiv dX9_stepOf_41 (by first | decide | exact nI_ne0 (by omega) (by omega)) ?_
    rw [pk_div (by omega) (by decide) (by decide)]
    refine gd_bipush (v := nI 100) dX9_stepOf_42 (by decide) ?_
    refine gd_irem dX9_stepOf_44 (by first | decide | exact nI_ne0 (by omega) (by omega)) ?_
    rw [pk_rem (by omega) (by decide) (by decide)]
    refine gd_ald0 dX9_stepOf_45 (by decide) ?_
    refine gd_getR (r := 87) dX9_stepOf_46 fl_9_53 rfl rfl rfl (by decide) ?_
    refine gd_ald0 dX9_stepOf_49 (by decide) ?_
    refine gd_getR (r := 75) dX9_stepOf_50 fl_9_16 rfl rfl rfl (by decide) ?_
    refine gd_ald0 dX9_stepOf_53 (by decide) ?_
    refine gd_getR (r := 76) dX9_stepOf_54 fl_9_19 rfl rfl rfl (by decide) ?_
    refine gd_ild2 dX9_stepOf_57 ?_
    refine gd_iald (n := 16) dX9_stepOf_58 rfl (by decide) (by repeat' (first | with_reducible rfl | apply ni_add | apply ni_mul)) (by omega) ?_
    rw [ec]
    refine gd_iald (n := 144) dX9_stepOf_59 rfl (by decide) (by repeat' (first | with_reducible rfl | apply ni_add | apply ni_mul)) (by omega) ?_
    rw [eg]
    refine gd_iald (n := 3) dX9_stepOf_60 rfl (by decide) (by repeat' (first | with_reducible rfl | apply ni_add | apply ni_mul)) (by omega) ?_
    rw [em]
    refine gd_iadd dX9_stepOf_61 ?_
    rw [nI_add]
    refine gd_ild4 dX9_stepOf_62 ?_
    refine gd_ild4 dX9_stepOf_64 ?_
    refine gd_imul dX9_stepOf_66 ?_
    rw [sq_I]
    refine gd_ild5 dX9_stepOf_67 ?_
    refine gd_ild5 dX9_stepOf_69 ?_
    refine gd_imul dX9_stepOf_71 ?_
    rw [sq_I]
    refine gd_iadd dX9_stepOf_72 ?_
    refine gd_bipush (v := nI 9) dX9_stepOf_73 (by decide) ?_
    refine gd_ild1 dX9_stepOf_75 ?_
    refine gd_bipush (v := nI 10) dX9_stepOf_76 (by decide) ?_
    refine gd_irem dX9_stepOf_78 (by first | decide | exact nI_ne0 (by omega) (by omega)) ?_
    rw [pk_rem (by omega) (by decide) (by decide)]
    refine gd_imul dX9_stepOf_79 ?_
    rw [pk_mul]
    refine gd_iadd dX9_stepOf_80 ?_
    rw [nI_add, nI_add]
    refine gd_ald0 dX9_stepOf_81 (by decide) ?_
    refine gd_getI dX9_stepOf_82 fl_9_213 rfl rfl ?_
    rw [v.2.1]
    refine gd_idiv dX9_stepOf_85 (by first | decide | exact nI_ne0 (by omega) (by omega)) ?_
    rw [pk_div (by omega) (by omega) (by omega), eq1]
    refine gd_isub dX9_stepOf_86 ?_
    refine gd_ist6 dX9_stepOf_87 rfl ?_
    refine gd_ild6 dX9_stepOf_89 ?_
    refine gd_if_ge_f 98 dX9_stepOf_91 (by decide) (fun z => absurd (pk_sneg (by omega) q) (Int32.not_lt.mpr z)) ?_
    refine gd_ic0 dX9_stepOf_94 ?_
    refine gd_goto 112 dX9_stepOf_95 (by decide) ?_
    refine gd_iret dX9_stepOf_112 rfl rfl ?_
    rfl
  · by_cases q2 : (n / 10 % 100 + moN s t) - (dqN s t (n / 1000) (n % 10)) ≤ 11
    · rw [show stN s t (n / 1000) (n / 10 % 100) (n % 10) = (n / 10 % 100 + moN s t) - (dqN s t (n / 1000) (n % 10)) by unfold stN; omega]
      refine gd_ild1 dX9_stepOf_0 ?_
      refine gd_sipush (v := nI 1000) dX9_stepOf_1 (by decide) ?_
      refine gd_idiv dX9_stepOf_4 (by first | decide | exact nI_ne0 (by omega) (by omega)) ?_
      rw [pk_div (by omega) (by decide) (by decide)]
      refine gd_ist3 dX9_stepOf_5 rfl ?_
      refine gd_ild3 dX9_stepOf_6 ?_
      refine gd_bipush (v := nI 12) dX9_stepOf_7 (by decide) ?_
      refine gd_irem dX9_stepOf_9 (by first | decide | exact nI_ne0 (by omega) (by omega)) ?_
      rw [pk_rem (by omega) (by decide) (by decide)]
      refine gd_ald0 dX9_stepOf_10 (by decide) ?_
      refine gd_getR (r := 76) dX9_stepOf_11 fl_9_19 rfl rfl rfl (by decide) ?_
      refine gd_ild2 dX9_stepOf_14 ?_
      refine gd_iald (n := 16) dX9_stepOf_15 rfl (by decide) (by repeat' (first | with_reducible rfl | apply ni_add | apply ni_mul)) (by omega) ?_
      rw [ec]
      refine gd_bipush (v := nI 12) dX9_stepOf_16 (by decide) ?_
      refine gd_irem dX9_stepOf_18 (by first | decide | exact nI_ne0 (by omega) (by omega)) ?_
      rw [pk_rem (by omega) (by decide) (by decide)]
      refine gd_isub dX9_stepOf_19 ?_
      refine gd_ist4 dX9_stepOf_20 rfl ?_
      refine gd_ild3 dX9_stepOf_22 ?_
      refine gd_bipush (v := nI 12) dX9_stepOf_23 (by decide) ?_
      refine gd_idiv dX9_stepOf_25 (by first | decide | exact nI_ne0 (by omega) (by omega)) ?_
      rw [pk_div (by omega) (by decide) (by decide)]
      refine gd_ald0 dX9_stepOf_26 (by decide) ?_
      refine gd_getR (r := 76) dX9_stepOf_27 fl_9_19 rfl rfl rfl (by decide) ?_
      refine gd_ild2 dX9_stepOf_30 ?_
      refine gd_iald (n := 16) dX9_stepOf_31 rfl (by decide) (by repeat' (first | with_reducible rfl | apply ni_add | apply ni_mul)) (by omega) ?_
      rw [ec]
      refine gd_bipush (v := nI 12) dX9_stepOf_32 (by decide) ?_
      refine gd_idiv dX9_stepOf_34 (by first | decide | exact nI_ne0 (by omega) (by omega)) ?_
      rw [pk_div (by omega) (by decide) (by decide)]
      refine gd_isub dX9_stepOf_35 ?_
      refine gd_ist5 dX9_stepOf_36 rfl ?_
      refine gd_ild1 dX9_stepOf_38 ?_
      refine gd_bipush (v := nI 10) dX9_stepOf_39 (by decide) ?_
      refine gd_idiv dX9_stepOf_41 (by first | decide | exact nI_ne0 (by omega) (by omega)) ?_
      rw [pk_div (by omega) (by decide) (by decide)]
      refine gd_bipush (v := nI 100) dX9_stepOf_42 (by decide) ?_
      refine gd_irem dX9_stepOf_44 (by first | decide | exact nI_ne0 (by omega) (by omega)) ?_
      rw [pk_rem (by omega) (by decide) (by decide)]
      refine gd_ald0 dX9_stepOf_45 (by decide) ?_
      refine gd_getR (r := 87) dX9_stepOf_46 fl_9_53 rfl rfl rfl (by decide) ?_
      refine gd_ald0 dX9_stepOf_49 (by decide) ?_
      refine gd_getR (r := 75) dX9_stepOf_50 fl_9_16 rfl rfl rfl (by decide) ?_
      refine gd_ald0 dX9_stepOf_53 (by decide) ?_
      refine gd_getR (r := 76) dX9_stepOf_54 fl_9_19 rfl rfl rfl (by decide) ?_
      refine gd_ild2 dX9_stepOf_57 ?_
      refine gd_iald (n := 16) dX9_stepOf_58 rfl (by decide) (by repeat' (first | with_reducible rfl | apply ni_add | apply ni_mul)) (by omega) ?_
      rw [ec]
      refine gd_iald (n := 144) dX9_stepOf_59 rfl (by decide) (by repeat' (first | with_reducible rfl | apply ni_add | apply ni_mul)) (by omega) ?_
      rw [eg]
      refine gd_iald (n := 3) dX9_stepOf_60 rfl (by decide) (by repeat' (first | with_reducible rfl | apply ni_add | apply ni_mul)) (by omega) ?_
      rw [em]
      refine gd_iadd dX9_stepOf_61 ?_
      rw [nI_add]
      refine gd_ild4 dX9_stepOf_62 ?_
      refine gd_ild4 dX9_stepOf_64 ?_
      refine gd_imul dX9_stepOf_66 ?_
      rw [sq_I]
      refine gd_ild5 dX9_stepOf_67 ?_
      refine gd_ild5 dX9_stepOf_69 ?_
      refine gd_imul dX9_stepOf_71 ?_
      rw [sq_I]
      refine gd_iadd dX9_stepOf_72 ?_
      refine gd_bipush (v := nI 9) dX9_stepOf_73 (by decide) ?_
      refine gd_ild1 dX9_stepOf_75 ?_
      refine gd_bipush (v := nI 10) dX9_stepOf_76 (by decide) ?_
      refine gd_irem dX9_stepOf_78 (by first | decide | exact nI_ne0 (by omega) (by omega)) ?_
      rw [pk_rem (by omega) (by decide) (by decide)]
      refine gd_imul dX9_stepOf_79 ?_
      rw [pk_mul]
      refine gd_iadd dX9_stepOf_80 ?_
      rw [nI_add, nI_add]
      refine gd_ald0 dX9_stepOf_81 (by decide) ?_
      refine gd_getI dX9_stepOf_82 fl_9_213 rfl rfl ?_
      rw [v.2.1]
      refine gd_idiv dX9_stepOf_85 (by first | decide | exact nI_ne0 (by omega) (by omega)) ?_
      rw [pk_div (by omega) (by omega) (by omega), eq1]
      refine gd_isub dX9_stepOf_86 ?_
      rw [show nI (n / 10 % 100 + moN s t) - nI (dqN s t (n / 1000) (n % 10)) = nI ((n / 10 % 100 + moN s t) - (dqN s t (n / 1000) (n % 10))) from pk_sub (by omega)]
      refine gd_ist6 dX9_stepOf_87 rfl ?_
      refine gd_ild6 dX9_stepOf_89 ?_
      refine gd_if_ge_t 98 dX9_stepOf_91 (by decide) (by exact nI_pos' (by omega)) ?_
      refine gd_ild6 dX9_stepOf_98 ?_
      refine gd_bipush (v := nI 11) dX9_stepOf_100 (by decide) ?_
      refine gd_icmp_le_t 110 dX9_stepOf_102 (by decide) (by exact nI_le (by omega) (by omega)) ?_
      refine gd_ild6 dX9_stepOf_110 ?_
      refine gd_iret dX9_stepOf_112 rfl rfl ?_
      rfl
    · rw [show stN s t (n / 1000) (n / 10 % 100) (n % 10) = 11 by unfold stN; omega]
      refine gd_ild1 dX9_stepOf_0 ?_
      refine gd_sipush (v := nI 1000) dX9_stepOf_1 (by decide) ?_
      refine gd_idiv dX9_stepOf_4 (by first | decide | exact nI_ne0 (by omega) (by omega)) ?_
      rw [pk_div (by omega) (by decide) (by decide)]
      refine gd_ist3 dX9_stepOf_5 rfl ?_
      refine gd_ild3 dX9_stepOf_6 ?_
      refine gd_bipush (v := nI 12) dX9_stepOf_7 (by decide) ?_
      refine gd_irem dX9_stepOf_9 (by first | decide | exact nI_ne0 (by omega) (by omega)) ?_
      rw [pk_rem (by omega) (by decide) (by decide)]
      refine gd_ald0 dX9_stepOf_10 (by decide) ?_
      refine gd_getR (r := 76) dX9_stepOf_11 fl_9_19 rfl rfl rfl (by decide) ?_
      refine gd_ild2 dX9_stepOf_14 ?_
      refine gd_iald (n := 16) dX9_stepOf_15 rfl (by decide) (by repeat' (first | with_reducible rfl | apply ni_add | apply ni_mul)) (by omega) ?_
      rw [ec]
      refine gd_bipush (v := nI 12) dX9_stepOf_16 (by decide) ?_
      refine gd_irem dX9_stepOf_18 (by first | decide | exact nI_ne0 (by omega) (by omega)) ?_
      rw [pk_rem (by omega) (by decide) (by decide)]
      refine gd_isub dX9_stepOf_19 ?_
      refine gd_ist4 dX9_stepOf_20 rfl ?_
      refine gd_ild3 dX9_stepOf_22 ?_
      refine gd_bipush (v := nI 12) dX9_stepOf_23 (by decide) ?_
      refine gd_idiv dX9_stepOf_25 (by first | decide | exact nI_ne0 (by omega) (by omega)) ?_
      rw [pk_div (by omega) (by decide) (by decide)]
      refine gd_ald0 dX9_stepOf_26 (by decide) ?_
      refine gd_getR (r := 76) dX9_stepOf_27 fl_9_19 rfl rfl rfl (by decide) ?_
      refine gd_ild2 dX9_stepOf_30 ?_
      refine gd_iald (n := 16) dX9_stepOf_31 rfl (by decide) (by repeat' (first | with_reducible rfl | apply ni_add | apply ni_mul)) (by omega) ?_
      rw [ec]
      refine gd_bipush (v := nI 12) dX9_stepOf_32 (by decide) ?_
      refine gd_idiv dX9_stepOf_34 (by first | decide | exact nI_ne0 (by omega) (by omega)) ?_
      rw [pk_div (by omega) (by decide) (by decide)]
      refine gd_isub dX9_stepOf_35 ?_
      refine gd_ist5 dX9_stepOf_36 rfl ?_
      refine gd_ild1 dX9_stepOf_38 ?_
      refine gd_bipush (v := nI 10) dX9_stepOf_39 (by decide) ?_
      refine gd_idiv dX9_stepOf_41 (by first | decide | exact nI_ne0 (by omega) (by omega)) ?_
      rw [pk_div (by omega) (by decide) (by decide)]
      refine gd_bipush (v := nI 100) dX9_stepOf_42 (by decide) ?_
      refine gd_irem dX9_stepOf_44 (by first | decide | exact nI_ne0 (by omega) (by omega)) ?_
      rw [pk_rem (by omega) (by decide) (by decide)]
      refine gd_ald0 dX9_stepOf_45 (by decide) ?_
      refine gd_getR (r := 87) dX9_stepOf_46 fl_9_53 rfl rfl rfl (by decide) ?_
      refine gd_ald0 dX9_stepOf_49 (by decide) ?_
      refine gd_getR (r := 75) dX9_stepOf_50 fl_9_16 rfl rfl rfl (by decide) ?_
      refine gd_ald0 dX9_stepOf_53 (by decide) ?_
      refine gd_getR (r := 76) dX9_stepOf_54 fl_9_19 rfl rfl rfl (by decide) ?_
      refine gd_ild2 dX9_stepOf_57 ?_
      refine gd_iald (n := 16) dX9_stepOf_58 rfl (by decide) (by repeat' (first | with_reducible rfl | apply ni_add | apply ni_mul)) (by omega) ?_
      rw [ec]
      refine gd_iald (n := 144) dX9_stepOf_59 rfl (by decide) (by repeat' (first | with_reducible rfl | apply ni_add | apply ni_mul)) (by omega) ?_
      rw [eg]
      refine gd_iald (n := 3) dX9_stepOf_60 rfl (by decide) (by repeat' (first | with_reducible rfl | apply ni_add | apply ni_mul)) (by omega) ?_
      rw [em]
      refine gd_iadd dX9_stepOf_61 ?_
      rw [nI_add]
      refine gd_ild4 dX9_stepOf_62 ?_
      refine gd_ild4 dX9_stepOf_64 ?_
      refine gd_imul dX9_stepOf_66 ?_
      rw [sq_I]
      refine gd_ild5 dX9_stepOf_67 ?_
      refine gd_ild5 dX9_stepOf_69 ?_
      refine gd_imul dX9_stepOf_71 ?_
      rw [sq_I]
      refine gd_iadd dX9_stepOf_72 ?_
      refine gd_bipush (v := nI 9) dX9_stepOf_73 (by decide) ?_
      refine gd_ild1 dX9_stepOf_75 ?_
      refine gd_bipush (v := nI 10) dX9_stepOf_76 (by decide) ?_
      refine gd_irem dX9_stepOf_78 (by first | decide | exact nI_ne0 (by omega) (by omega)) ?_
      rw [pk_rem (by omega) (by decide) (by decide)]
      refine gd_imul dX9_stepOf_79 ?_
      rw [pk_mul]
      refine gd_iadd dX9_stepOf_80 ?_
      rw [nI_add, nI_add]
      refine gd_ald0 dX9_stepOf_81 (by decide) ?_
      refine gd_getI dX9_stepOf_82 fl_9_213 rfl rfl ?_
      rw [v.2.1]
      refine gd_idiv dX9_stepOf_85 (by first | decide | exact nI_ne0 (by omega) (by omega)) ?_
      rw [pk_div (by omega) (by omega) (by omega), eq1]
      refine gd_isub dX9_stepOf_86 ?_
      rw [show nI (n / 10 % 100 + moN s t) - nI (dqN s t (n / 1000) (n % 10)) = nI ((n / 10 % 100 + moN s t) - (dqN s t (n / 1000) (n % 10))) from pk_sub (by omega)]
      refine gd_ist6 dX9_stepOf_87 rfl ?_
      refine gd_ild6 dX9_stepOf_89 ?_
      refine gd_if_ge_t 98 dX9_stepOf_91 (by decide) (by exact nI_pos' (by omega)) ?_
      refine gd_ild6 dX9_stepOf_98 ?_
      refine gd_bipush (v := nI 11) dX9_stepOf_100 (by decide) ?_
      refine gd_icmp_le_f 110 dX9_stepOf_102 (by decide) (by exact nI_ge (by omega) (by omega)) ?_
      refine gd_bipush (v := nI 11) dX9_stepOf_105 (by decide) ?_
      refine gd_goto 112 dX9_stepOf_107 (by decide) ?_
      refine gd_iret dX9_stepOf_112 rfl rfl ?_
      rfl
theorem m_missAtQ {h : Hp} {s : Nat → Nat → Int32} (w : WF s) {g : Int32} (v : QV h s g) {t n : Nat} (ht : t < nT s) (hn : isSh n) : Gd mX9_missAt 0 [.ref 72, .int (nI n), .int (nI t), .null, .null, .null, .null] [] h (some (.int (nI (miN s g t (n / 1000) (n / 10 % 100) (n % 10)))), h) := by
  have lT := w.t.2
  have sl := stN_le s t (n / 1000) (n / 10 % 100) (n % 10)
  have pl := spN_lt s g t
  have key : ∀ z, z ≤ 11 → ∀ l6, Gd mX9_missAt 14 [.ref 72, .int (nI n), .int (nI t), .int (nI z), .int (nI (nrF (spN s g t) z 0)), .int (nI 0), l6] [] h (some (.int (nI (nrN (spN s g t) z))), h) := by
    intro z hz
    refine loopG (P := fun j => ∀ l6, Gd mX9_missAt 14 [.ref 72, .int (nI n), .int (nI t), .int (nI z), .int (nI (nrF (spN s g t) z j)), .int (nI j), l6] [] h (some (.int (nI (nrN (spN s g t) z))), h)) (n := 12) ?_ ?_ 0 (by omega)
    · intro l6
      refine gd_ild5 dX9_missAt_14 ?_
      refine gd_bipush (v := nI 12) dX9_missAt_16 (by decide) ?_
      refine gd_icmp_ge_t 77 dX9_missAt_18 (by decide) (by exact nI_le (by omega) (by omega)) ?_
      refine gd_ild4 dX9_missAt_77 ?_
      refine gd_iret dX9_missAt_79 rfl rfl ?_
      rfl
    · intro j hj ih l6
      have nl := (nrF_ok (sp := spN s g t) (st := z) j).1
      by_cases x : j < z
      · cases b : (spN s g t).testBit j with
        | false =>
          rw [show nrF (spN s g t) z (j + 1) = nrF (spN s g t) z j by rw [nrF, b, if_neg (fun y => absurd y.1 (by decide))]] at ih
          refine gd_ild5 dX9_missAt_14 ?_
          refine gd_bipush (v := nI 12) dX9_missAt_16 (by decide) ?_
          refine gd_icmp_ge_f 77 dX9_missAt_18 (by decide) (by exact nI_ge (by omega) (by omega)) ?_
          refine gd_ild5 dX9_missAt_21 ?_
          refine gd_ild3 dX9_missAt_23 ?_
          refine gd_icmp_ge_f 34 dX9_missAt_24 (by decide) (by exact nI_ge (by omega) (by omega)) ?_
          refine gd_ild3 dX9_missAt_27 ?_
          refine gd_ild5 dX9_missAt_28 ?_
          refine gd_isub dX9_missAt_30 ?_
          rw [pk_sub (by omega)]
          refine gd_goto 38 dX9_missAt_31 (by decide) ?_
          refine gd_ist6 dX9_missAt_38 rfl ?_
          refine gd_ald0 dX9_missAt_40 (by decide) ?_
          refine gd_getR (r := 86) dX9_missAt_41 fl_9_50 rfl rfl rfl (by decide) ?_
          refine gd_ild2 dX9_missAt_44 ?_
          refine gd_iald (n := 16) dX9_missAt_45 rfl (by decide) (by repeat' (first | with_reducible rfl | apply ni_add | apply ni_mul)) (by omega) ?_
          rw [v.2.2.2 t ht]
          refine gd_ild5 dX9_missAt_46 ?_
          refine gd_ishr dX9_missAt_48 ?_
          refine gd_ic1 dX9_missAt_49 ?_
          refine gd_iand dX9_missAt_50 ?_
          rw [bit_nI (by omega) (by omega)]
          refine gd_ic1 dX9_missAt_51 ?_
          refine gd_icmp_ne_t 67 dX9_missAt_52 (by decide) (by rw [b]; decide) ?_
          refine gd_ild4 dX9_missAt_67 ?_
          refine gd_ist4 dX9_missAt_69 rfl ?_
          refine gd_iinc5 (b := nI 1) dX9_missAt_71 (by decide) rfl ?_
          rw [nI_add]
          refine gd_goto 14 dX9_missAt_74 (by decide) ?_
          exact ih _
        | true =>
          by_cases y : z - j < nrF (spN s g t) z j
          · rw [show nrF (spN s g t) z (j + 1) = z - j by rw [nrF, b, if_pos ⟨rfl, by omega⟩]; omega] at ih
            refine gd_ild5 dX9_missAt_14 ?_
            refine gd_bipush (v := nI 12) dX9_missAt_16 (by decide) ?_
            refine gd_icmp_ge_f 77 dX9_missAt_18 (by decide) (by exact nI_ge (by omega) (by omega)) ?_
            refine gd_ild5 dX9_missAt_21 ?_
            refine gd_ild3 dX9_missAt_23 ?_
            refine gd_icmp_ge_f 34 dX9_missAt_24 (by decide) (by exact nI_ge (by omega) (by omega)) ?_
            refine gd_ild3 dX9_missAt_27 ?_
            refine gd_ild5 dX9_missAt_28 ?_
            refine gd_isub dX9_missAt_30 ?_
            rw [pk_sub (by omega)]
            refine gd_goto 38 dX9_missAt_31 (by decide) ?_
            refine gd_ist6 dX9_missAt_38 rfl ?_
            refine gd_ald0 dX9_missAt_40 (by decide) ?_
            refine gd_getR (r := 86) dX9_missAt_41 fl_9_50 rfl rfl rfl (by decide) ?_
            refine gd_ild2 dX9_missAt_44 ?_
            refine gd_iald (n := 16) dX9_missAt_45 rfl (by decide) (by repeat' (first | with_reducible rfl | apply ni_add | apply ni_mul)) (by omega) ?_
            rw [v.2.2.2 t ht]
            refine gd_ild5 dX9_missAt_46 ?_
            refine gd_ishr dX9_missAt_48 ?_
            refine gd_ic1 dX9_missAt_49 ?_
            refine gd_iand dX9_missAt_50 ?_
            rw [bit_nI (by omega) (by omega)]
            refine gd_ic1 dX9_missAt_51 ?_
            refine gd_icmp_ne_f 67 dX9_missAt_52 (by decide) (by rw [b]; decide) ?_
            refine gd_ild6 dX9_missAt_55 ?_
            refine gd_ild4 dX9_missAt_57 ?_
            refine gd_icmp_ge_f 67 dX9_missAt_59 (by decide) (by exact nI_ge (by omega) (by omega)) ?_
            refine gd_ild6 dX9_missAt_62 ?_
            refine gd_goto 69 dX9_missAt_64 (by decide) ?_
            refine gd_ist4 dX9_missAt_69 rfl ?_
            refine gd_iinc5 (b := nI 1) dX9_missAt_71 (by decide) rfl ?_
            rw [nI_add]
            refine gd_goto 14 dX9_missAt_74 (by decide) ?_
            exact ih _
          · rw [show nrF (spN s g t) z (j + 1) = nrF (spN s g t) z j by rw [nrF, b, if_neg (fun x => y (by have := x.2; omega))]] at ih
            refine gd_ild5 dX9_missAt_14 ?_
            refine gd_bipush (v := nI 12) dX9_missAt_16 (by decide) ?_
            refine gd_icmp_ge_f 77 dX9_missAt_18 (by decide) (by exact nI_ge (by omega) (by omega)) ?_
            refine gd_ild5 dX9_missAt_21 ?_
            refine gd_ild3 dX9_missAt_23 ?_
            refine gd_icmp_ge_f 34 dX9_missAt_24 (by decide) (by exact nI_ge (by omega) (by omega)) ?_
            refine gd_ild3 dX9_missAt_27 ?_
            refine gd_ild5 dX9_missAt_28 ?_
            refine gd_isub dX9_missAt_30 ?_
            rw [pk_sub (by omega)]
            refine gd_goto 38 dX9_missAt_31 (by decide) ?_
            refine gd_ist6 dX9_missAt_38 rfl ?_
            refine gd_ald0 dX9_missAt_40 (by decide) ?_
            refine gd_getR (r := 86) dX9_missAt_41 fl_9_50 rfl rfl rfl (by decide) ?_
            refine gd_ild2 dX9_missAt_44 ?_
            refine gd_iald (n := 16) dX9_missAt_45 rfl (by decide) (by repeat' (first | with_reducible rfl | apply ni_add | apply ni_mul)) (by omega) ?_
            rw [v.2.2.2 t ht]
            refine gd_ild5 dX9_missAt_46 ?_
            refine gd_ishr dX9_missAt_48 ?_
            refine gd_ic1 dX9_missAt_49 ?_
            refine gd_iand dX9_missAt_50 ?_
            rw [bit_nI (by omega) (by omega)]
            refine gd_ic1 dX9_missAt_51 ?_
            refine gd_icmp_ne_f 67 dX9_missAt_52 (by decide) (by rw [b]; decide) ?_
            refine gd_ild6 dX9_missAt_55 ?_
            refine gd_ild4 dX9_missAt_57 ?_
            refine gd_icmp_ge_t 67 dX9_missAt_59 (by decide) (by exact nI_le (by omega) (by omega)) ?_
            refine gd_ild4 dX9_missAt_67 ?_
            refine gd_ist4 dX9_missAt_69 rfl ?_
            refine gd_iinc5 (b := nI 1) dX9_missAt_71 (by decide) rfl ?_
            rw [nI_add]
            refine gd_goto 14 dX9_missAt_74 (by decide) ?_
            exact ih _
      · cases b : (spN s g t).testBit j with
        | false =>
          rw [show nrF (spN s g t) z (j + 1) = nrF (spN s g t) z j by rw [nrF, b, if_neg (fun y => absurd y.1 (by decide))]] at ih
          refine gd_ild5 dX9_missAt_14 ?_
          refine gd_bipush (v := nI 12) dX9_missAt_16 (by decide) ?_
          refine gd_icmp_ge_f 77 dX9_missAt_18 (by decide) (by exact nI_ge (by omega) (by omega)) ?_
          refine gd_ild5 dX9_missAt_21 ?_
          refine gd_ild3 dX9_missAt_23 ?_
          refine gd_icmp_ge_t 34 dX9_missAt_24 (by decide) (by exact nI_le (by omega) (by omega)) ?_
          refine gd_ild5 dX9_missAt_34 ?_
          refine gd_ild3 dX9_missAt_36 ?_
          refine gd_isub dX9_missAt_37 ?_
          rw [pk_sub (by omega)]
          refine gd_ist6 dX9_missAt_38 rfl ?_
          refine gd_ald0 dX9_missAt_40 (by decide) ?_
          refine gd_getR (r := 86) dX9_missAt_41 fl_9_50 rfl rfl rfl (by decide) ?_
          refine gd_ild2 dX9_missAt_44 ?_
          refine gd_iald (n := 16) dX9_missAt_45 rfl (by decide) (by repeat' (first | with_reducible rfl | apply ni_add | apply ni_mul)) (by omega) ?_
          rw [v.2.2.2 t ht]
          refine gd_ild5 dX9_missAt_46 ?_
          refine gd_ishr dX9_missAt_48 ?_
          refine gd_ic1 dX9_missAt_49 ?_
          refine gd_iand dX9_missAt_50 ?_
          rw [bit_nI (by omega) (by omega)]
          refine gd_ic1 dX9_missAt_51 ?_
          refine gd_icmp_ne_t 67 dX9_missAt_52 (by decide) (by rw [b]; decide) ?_
          refine gd_ild4 dX9_missAt_67 ?_
          refine gd_ist4 dX9_missAt_69 rfl ?_
          refine gd_iinc5 (b := nI 1) dX9_missAt_71 (by decide) rfl ?_
          rw [nI_add]
          refine gd_goto 14 dX9_missAt_74 (by decide) ?_
          exact ih _
        | true =>
          by_cases y : j - z < nrF (spN s g t) z j
          · rw [show nrF (spN s g t) z (j + 1) = j - z by rw [nrF, b, if_pos ⟨rfl, by omega⟩]; omega] at ih
            refine gd_ild5 dX9_missAt_14 ?_
            refine gd_bipush (v := nI 12) dX9_missAt_16 (by decide) ?_
            refine gd_icmp_ge_f 77 dX9_missAt_18 (by decide) (by exact nI_ge (by omega) (by omega)) ?_
            refine gd_ild5 dX9_missAt_21 ?_
            refine gd_ild3 dX9_missAt_23 ?_
            refine gd_icmp_ge_t 34 dX9_missAt_24 (by decide) (by exact nI_le (by omega) (by omega)) ?_
            refine gd_ild5 dX9_missAt_34 ?_
            refine gd_ild3 dX9_missAt_36 ?_
            refine gd_isub dX9_missAt_37 ?_
            rw [pk_sub (by omega)]
            refine gd_ist6 dX9_missAt_38 rfl ?_
            refine gd_ald0 dX9_missAt_40 (by decide) ?_
            refine gd_getR (r := 86) dX9_missAt_41 fl_9_50 rfl rfl rfl (by decide) ?_
            refine gd_ild2 dX9_missAt_44 ?_
            refine gd_iald (n := 16) dX9_missAt_45 rfl (by decide) (by repeat' (first | with_reducible rfl | apply ni_add | apply ni_mul)) (by omega) ?_
            rw [v.2.2.2 t ht]
            refine gd_ild5 dX9_missAt_46 ?_
            refine gd_ishr dX9_missAt_48 ?_
            refine gd_ic1 dX9_missAt_49 ?_
            refine gd_iand dX9_missAt_50 ?_
            rw [bit_nI (by omega) (by omega)]
            refine gd_ic1 dX9_missAt_51 ?_
            refine gd_icmp_ne_f 67 dX9_missAt_52 (by decide) (by rw [b]; decide) ?_
            refine gd_ild6 dX9_missAt_55 ?_
            refine gd_ild4 dX9_missAt_57 ?_
            refine gd_icmp_ge_f 67 dX9_missAt_59 (by decide) (by exact nI_ge (by omega) (by omega)) ?_
            refine gd_ild6 dX9_missAt_62 ?_
            refine gd_goto 69 dX9_missAt_64 (by decide) ?_
            refine gd_ist4 dX9_missAt_69 rfl ?_
            refine gd_iinc5 (b := nI 1) dX9_missAt_71 (by decide) rfl ?_
            rw [nI_add]
            refine gd_goto 14 dX9_missAt_74 (by decide) ?_
            exact ih _
          · rw [show nrF (spN s g t) z (j + 1) = nrF (spN s g t) z j by rw [nrF, b, if_neg (fun x => y (by have := x.2; omega))]] at ih
            refine gd_ild5 dX9_missAt_14 ?_
            refine gd_bipush (v := nI 12) dX9_missAt_16 (by decide) ?_
            refine gd_icmp_ge_f 77 dX9_missAt_18 (by decide) (by exact nI_ge (by omega) (by omega)) ?_
            refine gd_ild5 dX9_missAt_21 ?_
            refine gd_ild3 dX9_missAt_23 ?_
            refine gd_icmp_ge_t 34 dX9_missAt_24 (by decide) (by exact nI_le (by omega) (by omega)) ?_
            refine gd_ild5 dX9_missAt_34 ?_
            refine gd_ild3 dX9_missAt_36 ?_
            refine gd_isub dX9_missAt_37 ?_
            rw [pk_sub (by omega)]
            refine gd_ist6 dX9_missAt_38 rfl ?_
            refine gd_ald0 dX9_missAt_40 (by decide) ?_
            refine gd_getR (r := 86) dX9_missAt_41 fl_9_50 rfl rfl rfl (by decide) ?_
            refine gd_ild2 dX9_missAt_44 ?_
            refine gd_iald (n := 16) dX9_missAt_45 rfl (by decide) (by repeat' (first | with_reducible rfl | apply ni_add | apply ni_mul)) (by omega) ?_
            rw [v.2.2.2 t ht]
            refine gd_ild5 dX9_missAt_46 ?_
            refine gd_ishr dX9_missAt_48 ?_
            refine gd_ic1 dX9_missAt_49 ?_
            refine gd_iand dX9_missAt_50 ?_
            rw [bit_nI (by omega) (by omega)]
            refine gd_ic1 dX9_missAt_51 ?_
            refine gd_icmp_ne_f 67 dX9_missAt_52 (by decide) (by rw [b]; decide) ?_
            refine gd_ild6 dX9_missAt_55 ?_
            refine gd_ild4 dX9_missAt_57 ?_
            refine gd_icmp_ge_t 67 dX9_missAt_59 (by decide) (by exact nI_le (by omega) (by omega)) ?_
            refine gd_ild4 dX9_missAt_67 ?_
            refine gd_ist4 dX9_missAt_69 rfl ?_
            refine gd_iinc5 (b := nI 1) dX9_missAt_71 (by decide) rfl ?_
            rw [nI_add]
            refine gd_goto 14 dX9_missAt_74 (by decide) ?_
            exact ih _
  refine gd_ald0 dX9_missAt_0 (by decide) ?_
  refine gd_ild1 dX9_missAt_1 ?_
  refine gd_ild2 dX9_missAt_2 ?_
  refine gd_cV2i dX9_missAt_3 ct_9_219 rc_72 ⟨Nat.le_of_ble_eq_true rfl, Nat.le_of_ble_eq_true rfl⟩ (Nat.le_of_ble_eq_true rfl) (Nat.le_of_ble_eq_true rfl) (m_stepOfQ w v ht hn) ?_
  refine gd_ist3 dX9_missAt_6 rfl ?_
  refine gd_bipush (v := nI 12) dX9_missAt_7 (by decide) ?_
  refine gd_ist4 dX9_missAt_9 rfl ?_
  refine gd_ic0 dX9_missAt_11 ?_
  refine gd_ist5 dX9_missAt_12 rfl ?_
  exact key _ sl _
theorem PV.t {h : Hp} {s : Nat → Nat → Int32} (w : WF s) {g : Int32} (v : PV h s g) : h.1 74 0 = nI (nT s) := by rw [← ms_r0 (by decide), v.1]; exact w.t.1
theorem PV.n {h : Hp} {s : Nat → Nat → Int32} (w : WF s) {g : Int32} (v : PV h s g) : h.1 74 1 = nI (nN s) := by rw [← ms_r0 (by decide), v.1]; exact w.n.1
theorem m_missOfQ {h : Hp} {s : Nat → Nat → Int32} (w : WF s) {g : Int32} (v : QV h s g) {n : Nat} (hn : isSh n) : Gd mX9_missOf 0 [.ref 72, .int (nI n), .null, .null] [] h (some (.int (nI (msN s g (n / 1000) (n / 10 % 100) (n % 10)))), h) := by
  have lT := w.t.2
  have et : h.1 74 0 = nI (nT s) := v.1.1.trans w.t.1
  have key := loopG (P := fun t => Gd mX9_missOf 4 [.ref 72, .int (nI n), .int (nI (sumN (fun t => miN s g t (n / 1000) (n / 10 % 100) (n % 10)) t)), .int (nI t)] [] h (some (.int (nI (msN s g (n / 1000) (n / 10 % 100) (n % 10)))), h)) (n := nT s) ?_ ?_ 0 (by omega)
  · refine gd_ic0 dX9_missOf_0 ?_
    refine gd_ist2 dX9_missOf_1 rfl ?_
    refine gd_ic0 dX9_missOf_2 ?_
    refine gd_ist3 dX9_missOf_3 rfl ?_
    exact key
  · refine gd_ild3 dX9_missOf_4 ?_
    refine gd_ald0 dX9_missOf_5 (by decide) ?_
    refine gd_getR (r := 74) dX9_missOf_6 fl_9_13 rfl rfl rfl (by decide) ?_
    refine gd_ic0 dX9_missOf_9 ?_
    refine gd_iald (n := 5) dX9_missOf_10 rfl (by decide) (by repeat' (first | with_reducible rfl | apply ni_add | apply ni_mul)) (by omega) ?_
    refine gd_icmp_ge_t 29 dX9_missOf_11 (by decide) (by rw [et]; exact nI_le (by omega) (by omega)) ?_
    refine gd_ild2 dX9_missOf_29 ?_
    refine gd_iret dX9_missOf_30 rfl rfl ?_
    rfl
  · intro t ht ih
    refine gd_ild3 dX9_missOf_4 ?_
    refine gd_ald0 dX9_missOf_5 (by decide) ?_
    refine gd_getR (r := 74) dX9_missOf_6 fl_9_13 rfl rfl rfl (by decide) ?_
    refine gd_ic0 dX9_missOf_9 ?_
    refine gd_iald (n := 5) dX9_missOf_10 rfl (by decide) (by repeat' (first | with_reducible rfl | apply ni_add | apply ni_mul)) (by omega) ?_
    refine gd_icmp_ge_f 29 dX9_missOf_11 (by decide) (by rw [et]; exact nI_ge (by omega) (by omega)) ?_
    refine gd_ild2 dX9_missOf_14 ?_
    refine gd_ald0 dX9_missOf_15 (by decide) ?_
    refine gd_ild1 dX9_missOf_16 ?_
    refine gd_ild3 dX9_missOf_17 ?_
    refine gd_cV2i dX9_missOf_18 ct_9_222 rc_72 ⟨Nat.le_of_ble_eq_true rfl, Nat.le_of_ble_eq_true rfl⟩ (Nat.le_of_ble_eq_true rfl) (Nat.le_of_ble_eq_true rfl) (m_missAtQ w v ht hn) ?_
    refine gd_iadd dX9_missOf_21 ?_
    rw [nI_add]
    refine gd_ist2 dX9_missOf_22 rfl ?_
    refine gd_iinc3 (b := nI 1) dX9_missOf_23 (by decide) rfl ?_
    rw [nI_add]
    refine gd_goto 4 dX9_missOf_26 (by decide) ?_
    exact ih
theorem m_stepOf {h : Hp} {s : Nat → Nat → Int32} (w : WF s) {g : Int32} (v : PV h s g) {t n : Nat} (ht : t < nT s) (hn : isSh n) : Gd mX9_stepOf 0 [.ref 72, .int (nI n), .int (nI t), .null, .null, .null, .null] [] h (some (.int (nI (stN s t (n / 1000) (n / 10 % 100) (n % 10)))), h) := m_stepOfQ w v.q ht hn
theorem m_missAt {h : Hp} {s : Nat → Nat → Int32} (w : WF s) {g : Int32} (v : PV h s g) {t n : Nat} (ht : t < nT s) (hn : isSh n) : Gd mX9_missAt 0 [.ref 72, .int (nI n), .int (nI t), .null, .null, .null, .null] [] h (some (.int (nI (miN s g t (n / 1000) (n / 10 % 100) (n % 10)))), h) := m_missAtQ w v.q ht hn
theorem m_missOf {h : Hp} {s : Nat → Nat → Int32} (w : WF s) {g : Int32} (v : PV h s g) {n : Nat} (hn : isSh n) : Gd mX9_missOf 0 [.ref 72, .int (nI n), .null, .null] [] h (some (.int (nI (msN s g (n / 1000) (n / 10 % 100) (n % 10)))), h) := m_missOfQ w v.q hn

theorem sh_lt {n : Nat} (h : isSh n) : n < 144000 := by obtain ⟨a, b, c⟩ := h; omega
theorem shI (a : Int32) : (∃ n, isSh n ∧ a = nI n) ∨ ¬ ∃ n, isSh n ∧ a.toInt64 = lN n := by
  by_cases e : ∃ n, isSh n ∧ a = nI n
  · exact Or.inl e
  · refine Or.inr (fun ⟨n, h1, h2⟩ => e ⟨n, h1, ?_⟩)
    have l := sh_lt h1
    apply Int32.toInt_inj.mp
    rw [nI_toInt (by omega), ← Int32.toInt_toInt64, h2, pk_lT (by omega)]
theorem shD (n : Nat) : isSh n ∨ ¬ isSh n := Classical.em _
theorem c_isShake_t {n : Nat} (hn : isSh n) (h : Hp) : Gd mX8_isShake 0 [.long (lN n), .null] [] h (some (.int (nI 1)), h) := by
  have l := sh_lt hn
  obtain ⟨n1, n2, n3⟩ := hn
  have h0 : ¬ lN n < lN 0 := fun z => absurd ((pk_lLT (by omega) (by decide)).mp z) (by omega)
  refine gd_lld0 dX8_isShake_0 ?_
  refine gd_lc0 dX8_isShake_1 ?_
  refine gd_lcmp dX8_isShake_2 ?_
  refine gd_if_lt_f 50 dX8_isShake_3 (by decide) (fun z => absurd ((lg_cmp_lt _ _).mp z) h0) ?_
  refine gd_lld0 dX8_isShake_6 ?_
  refine gd_ldc2 dX8_isShake_7 l2_8_326 ?_
  refine gd_ldiv dX8_isShake_10 (by decide) ?_
  rw [pk_lDiv (by omega) (by decide) (by decide)]
  refine gd_ldc2 dX8_isShake_11 l2_8_328 ?_
  refine gd_lcmp dX8_isShake_14 ?_
  refine gd_if_ge_f 50 dX8_isShake_15 (by decide) (fun z => absurd ((pk_lLE (by omega) (by omega)).mp ((lg_cmp_ge _ _).mp z)) (by omega)) ?_
  refine gd_lld0 dX8_isShake_18 ?_
  refine gd_ldc2 dX8_isShake_19 l2_8_330 ?_
  refine gd_ldiv dX8_isShake_22 (by decide) ?_
  rw [pk_lDiv (by omega) (by decide) (by decide)]
  refine gd_ldc2 dX8_isShake_23 l2_8_269 ?_
  refine gd_lrem dX8_isShake_26 (by decide) ?_
  rw [pk_lRem (by omega) (by decide) (by decide)]
  refine gd_ldc2 dX8_isShake_27 l2_8_332 ?_
  refine gd_lcmp dX8_isShake_30 ?_
  refine gd_if_ge_f 50 dX8_isShake_31 (by decide) (fun z => absurd ((pk_lLE (by omega) (by omega)).mp ((lg_cmp_ge _ _).mp z)) (by omega)) ?_
  refine gd_lld0 dX8_isShake_34 ?_
  refine gd_ldc2 dX8_isShake_35 l2_8_330 ?_
  refine gd_lrem dX8_isShake_38 (by decide) ?_
  rw [pk_lRem (by omega) (by decide) (by decide)]
  refine gd_ldc2 dX8_isShake_39 l2_8_334 ?_
  refine gd_lcmp dX8_isShake_42 ?_
  refine gd_if_ge_f 50 dX8_isShake_43 (by decide) (fun z => absurd ((pk_lLE (by omega) (by omega)).mp ((lg_cmp_ge _ _).mp z)) (by omega)) ?_
  refine gd_ic1 dX8_isShake_46 ?_
  refine gd_goto 51 dX8_isShake_47 (by decide) ?_
  refine gd_iret dX8_isShake_51 rfl (by first | rfl | decide | exact nar_bi _ | assumption) ?_
  rfl
theorem m_isShake_t {n : Nat} (hn : isSh n) (h : Hp) : Gd mX9_isShake 0 [.long (lN n), .null] [] h (some (.int (nI 1)), h) := by
  have l := sh_lt hn
  obtain ⟨n1, n2, n3⟩ := hn
  have h0 : ¬ lN n < lN 0 := fun z => absurd ((pk_lLT (by omega) (by decide)).mp z) (by omega)
  refine gd_lld0 dX9_isShake_0 ?_
  refine gd_lc0 dX9_isShake_1 ?_
  refine gd_lcmp dX9_isShake_2 ?_
  refine gd_if_lt_f 42 dX9_isShake_3 (by decide) (fun z => absurd ((lg_cmp_lt _ _).mp z) h0) ?_
  refine gd_lld0 dX9_isShake_6 ?_
  refine gd_ldc2 dX9_isShake_7 l2_9_83 ?_
  refine gd_lcmp dX9_isShake_10 ?_
  refine gd_if_ge_f 42 dX9_isShake_11 (by decide) (fun z => absurd ((pk_lLE (by omega) (by omega)).mp ((lg_cmp_ge _ _).mp z)) (by omega)) ?_
  refine gd_lld0 dX9_isShake_14 ?_
  refine gd_ldc2 dX9_isShake_15 l2_9_85 ?_
  refine gd_lrem dX9_isShake_18 (by decide) ?_
  rw [pk_lRem (by omega) (by decide) (by decide)]
  refine gd_ldc2 dX9_isShake_19 l2_9_87 ?_
  refine gd_lcmp dX9_isShake_22 ?_
  refine gd_if_ge_f 42 dX9_isShake_23 (by decide) (fun z => absurd ((pk_lLE (by omega) (by omega)).mp ((lg_cmp_ge _ _).mp z)) (by omega)) ?_
  refine gd_lld0 dX9_isShake_26 ?_
  refine gd_ldc2 dX9_isShake_27 l2_9_89 ?_
  refine gd_lrem dX9_isShake_30 (by decide) ?_
  rw [pk_lRem (by omega) (by decide) (by decide)]
  refine gd_ldc2 dX9_isShake_31 l2_9_91 ?_
  refine gd_lcmp dX9_isShake_34 ?_
  refine gd_if_ge_f 42 dX9_isShake_35 (by decide) (fun z => absurd ((pk_lLE (by omega) (by omega)).mp ((lg_cmp_ge _ _).mp z)) (by omega)) ?_
  refine gd_ic1 dX9_isShake_38 ?_
  refine gd_goto 43 dX9_isShake_39 (by decide) ?_
  refine gd_iret dX9_isShake_43 rfl (by first | rfl | decide | exact nar_bi _ | assumption) ?_
  rfl
theorem c_isShake_f {x : Int64} (hx : ¬ ∃ n, isSh n ∧ x = lN n) (h : Hp) : Gd mX8_isShake 0 [.long x, .null] [] h (some (.int (nI 0)), h) := by
  by_cases hx0 : x < lN 0
  · refine gd_lld0 dX8_isShake_0 ?_
    refine gd_lc0 dX8_isShake_1 ?_
    refine gd_lcmp dX8_isShake_2 ?_
    refine gd_if_lt_t 50 dX8_isShake_3 (by decide) ((lg_cmp_lt _ _).mpr hx0) ?_
    refine gd_ic0 dX8_isShake_50 ?_
    refine gd_iret dX8_isShake_51 rfl (by first | rfl | decide | exact nar_bi _ | assumption) ?_
    rfl
  · obtain ⟨n, hn, rfl⟩ := pk_lOf hx0
    have h0 := hx0
    have ns : ¬ isSh n := fun z => hx ⟨n, z, rfl⟩
    unfold isSh at ns
    by_cases q1 : n / 1000 < 144
    · by_cases q2 : n / 10 % 100 < 40
      · have q3 : ¬ n % 10 < 4 := by omega
        refine gd_lld0 dX8_isShake_0 ?_
        refine gd_lc0 dX8_isShake_1 ?_
        refine gd_lcmp dX8_isShake_2 ?_
        refine gd_if_lt_f 50 dX8_isShake_3 (by decide) (fun z => absurd ((lg_cmp_lt _ _).mp z) h0) ?_
        refine gd_lld0 dX8_isShake_6 ?_
        refine gd_ldc2 dX8_isShake_7 l2_8_326 ?_
        refine gd_ldiv dX8_isShake_10 (by decide) ?_
        rw [pk_lDiv (by omega) (by decide) (by decide)]
        refine gd_ldc2 dX8_isShake_11 l2_8_328 ?_
        refine gd_lcmp dX8_isShake_14 ?_
        refine gd_if_ge_f 50 dX8_isShake_15 (by decide) (fun z => absurd ((pk_lLE (by omega) (by omega)).mp ((lg_cmp_ge _ _).mp z)) (by omega)) ?_
        refine gd_lld0 dX8_isShake_18 ?_
        refine gd_ldc2 dX8_isShake_19 l2_8_330 ?_
        refine gd_ldiv dX8_isShake_22 (by decide) ?_
        rw [pk_lDiv (by omega) (by decide) (by decide)]
        refine gd_ldc2 dX8_isShake_23 l2_8_269 ?_
        refine gd_lrem dX8_isShake_26 (by decide) ?_
        rw [pk_lRem (by omega) (by decide) (by decide)]
        refine gd_ldc2 dX8_isShake_27 l2_8_332 ?_
        refine gd_lcmp dX8_isShake_30 ?_
        refine gd_if_ge_f 50 dX8_isShake_31 (by decide) (fun z => absurd ((pk_lLE (by omega) (by omega)).mp ((lg_cmp_ge _ _).mp z)) (by omega)) ?_
        refine gd_lld0 dX8_isShake_34 ?_
        refine gd_ldc2 dX8_isShake_35 l2_8_330 ?_
        refine gd_lrem dX8_isShake_38 (by decide) ?_
        rw [pk_lRem (by omega) (by decide) (by decide)]
        refine gd_ldc2 dX8_isShake_39 l2_8_334 ?_
        refine gd_lcmp dX8_isShake_42 ?_
        refine gd_if_ge_t 50 dX8_isShake_43 (by decide) ((lg_cmp_ge _ _).mpr ((pk_lLE (by omega) (by omega)).mpr (by omega))) ?_
        refine gd_ic0 dX8_isShake_50 ?_
        refine gd_iret dX8_isShake_51 rfl (by first | rfl | decide | exact nar_bi _ | assumption) ?_
        rfl
      · refine gd_lld0 dX8_isShake_0 ?_
        refine gd_lc0 dX8_isShake_1 ?_
        refine gd_lcmp dX8_isShake_2 ?_
        refine gd_if_lt_f 50 dX8_isShake_3 (by decide) (fun z => absurd ((lg_cmp_lt _ _).mp z) h0) ?_
        refine gd_lld0 dX8_isShake_6 ?_
        refine gd_ldc2 dX8_isShake_7 l2_8_326 ?_
        refine gd_ldiv dX8_isShake_10 (by decide) ?_
        rw [pk_lDiv (by omega) (by decide) (by decide)]
        refine gd_ldc2 dX8_isShake_11 l2_8_328 ?_
        refine gd_lcmp dX8_isShake_14 ?_
        refine gd_if_ge_f 50 dX8_isShake_15 (by decide) (fun z => absurd ((pk_lLE (by omega) (by omega)).mp ((lg_cmp_ge _ _).mp z)) (by omega)) ?_
        refine gd_lld0 dX8_isShake_18 ?_
        refine gd_ldc2 dX8_isShake_19 l2_8_330 ?_
        refine gd_ldiv dX8_isShake_22 (by decide) ?_
        rw [pk_lDiv (by omega) (by decide) (by decide)]
        refine gd_ldc2 dX8_isShake_23 l2_8_269 ?_
        refine gd_lrem dX8_isShake_26 (by decide) ?_
        rw [pk_lRem (by omega) (by decide) (by decide)]
        refine gd_ldc2 dX8_isShake_27 l2_8_332 ?_
        refine gd_lcmp dX8_isShake_30 ?_
        refine gd_if_ge_t 50 dX8_isShake_31 (by decide) ((lg_cmp_ge _ _).mpr ((pk_lLE (by omega) (by omega)).mpr (by omega))) ?_
        refine gd_ic0 dX8_isShake_50 ?_
        refine gd_iret dX8_isShake_51 rfl (by first | rfl | decide | exact nar_bi _ | assumption) ?_
        rfl
    · refine gd_lld0 dX8_isShake_0 ?_
      refine gd_lc0 dX8_isShake_1 ?_
      refine gd_lcmp dX8_isShake_2 ?_
      refine gd_if_lt_f 50 dX8_isShake_3 (by decide) (fun z => absurd ((lg_cmp_lt _ _).mp z) h0) ?_
      refine gd_lld0 dX8_isShake_6 ?_
      refine gd_ldc2 dX8_isShake_7 l2_8_326 ?_
      refine gd_ldiv dX8_isShake_10 (by decide) ?_
      rw [pk_lDiv (by omega) (by decide) (by decide)]
      refine gd_ldc2 dX8_isShake_11 l2_8_328 ?_
      refine gd_lcmp dX8_isShake_14 ?_
      refine gd_if_ge_t 50 dX8_isShake_15 (by decide) ((lg_cmp_ge _ _).mpr ((pk_lLE (by omega) (by omega)).mpr (by omega))) ?_
      refine gd_ic0 dX8_isShake_50 ?_
      refine gd_iret dX8_isShake_51 rfl (by first | rfl | decide | exact nar_bi _ | assumption) ?_
      rfl
theorem m_isShake_f {x : Int64} (hx : ¬ ∃ n, isSh n ∧ x = lN n) (h : Hp) : Gd mX9_isShake 0 [.long x, .null] [] h (some (.int (nI 0)), h) := by
  by_cases hx0 : x < lN 0
  · refine gd_lld0 dX9_isShake_0 ?_
    refine gd_lc0 dX9_isShake_1 ?_
    refine gd_lcmp dX9_isShake_2 ?_
    refine gd_if_lt_t 42 dX9_isShake_3 (by decide) ((lg_cmp_lt _ _).mpr hx0) ?_
    refine gd_ic0 dX9_isShake_42 ?_
    refine gd_iret dX9_isShake_43 rfl (by first | rfl | decide | exact nar_bi _ | assumption) ?_
    rfl
  · obtain ⟨n, hn, rfl⟩ := pk_lOf hx0
    have h0 := hx0
    have ns : ¬ isSh n := fun z => hx ⟨n, z, rfl⟩
    unfold isSh at ns
    by_cases q1 : n < 144000
    · by_cases q2 : n % 1000 < 400
      · have q3 : ¬ n % 10 < 4 := by omega
        refine gd_lld0 dX9_isShake_0 ?_
        refine gd_lc0 dX9_isShake_1 ?_
        refine gd_lcmp dX9_isShake_2 ?_
        refine gd_if_lt_f 42 dX9_isShake_3 (by decide) (fun z => absurd ((lg_cmp_lt _ _).mp z) h0) ?_
        refine gd_lld0 dX9_isShake_6 ?_
        refine gd_ldc2 dX9_isShake_7 l2_9_83 ?_
        refine gd_lcmp dX9_isShake_10 ?_
        refine gd_if_ge_f 42 dX9_isShake_11 (by decide) (fun z => absurd ((pk_lLE (by omega) (by omega)).mp ((lg_cmp_ge _ _).mp z)) (by omega)) ?_
        refine gd_lld0 dX9_isShake_14 ?_
        refine gd_ldc2 dX9_isShake_15 l2_9_85 ?_
        refine gd_lrem dX9_isShake_18 (by decide) ?_
        rw [pk_lRem (by omega) (by decide) (by decide)]
        refine gd_ldc2 dX9_isShake_19 l2_9_87 ?_
        refine gd_lcmp dX9_isShake_22 ?_
        refine gd_if_ge_f 42 dX9_isShake_23 (by decide) (fun z => absurd ((pk_lLE (by omega) (by omega)).mp ((lg_cmp_ge _ _).mp z)) (by omega)) ?_
        refine gd_lld0 dX9_isShake_26 ?_
        refine gd_ldc2 dX9_isShake_27 l2_9_89 ?_
        refine gd_lrem dX9_isShake_30 (by decide) ?_
        rw [pk_lRem (by omega) (by decide) (by decide)]
        refine gd_ldc2 dX9_isShake_31 l2_9_91 ?_
        refine gd_lcmp dX9_isShake_34 ?_
        refine gd_if_ge_t 42 dX9_isShake_35 (by decide) ((lg_cmp_ge _ _).mpr ((pk_lLE (by omega) (by omega)).mpr (by omega))) ?_
        refine gd_ic0 dX9_isShake_42 ?_
        refine gd_iret dX9_isShake_43 rfl (by first | rfl | decide | exact nar_bi _ | assumption) ?_
        rfl
      · refine gd_lld0 dX9_isShake_0 ?_
        refine gd_lc0 dX9_isShake_1 ?_
        refine gd_lcmp dX9_isShake_2 ?_
        refine gd_if_lt_f 42 dX9_isShake_3 (by decide) (fun z => absurd ((lg_cmp_lt _ _).mp z) h0) ?_
        refine gd_lld0 dX9_isShake_6 ?_
        refine gd_ldc2 dX9_isShake_7 l2_9_83 ?_
        refine gd_lcmp dX9_isShake_10 ?_
        refine gd_if_ge_f 42 dX9_isShake_11 (by decide) (fun z => absurd ((pk_lLE (by omega) (by omega)).mp ((lg_cmp_ge _ _).mp z)) (by omega)) ?_
        refine gd_lld0 dX9_isShake_14 ?_
        refine gd_ldc2 dX9_isShake_15 l2_9_85 ?_
        refine gd_lrem dX9_isShake_18 (by decide) ?_
        rw [pk_lRem (by omega) (by decide) (by decide)]
        refine gd_ldc2 dX9_isShake_19 l2_9_87 ?_
        refine gd_lcmp dX9_isShake_22 ?_
        refine gd_if_ge_t 42 dX9_isShake_23 (by decide) ((lg_cmp_ge _ _).mpr ((pk_lLE (by omega) (by omega)).mpr (by omega))) ?_
        refine gd_ic0 dX9_isShake_42 ?_
        refine gd_iret dX9_isShake_43 rfl (by first | rfl | decide | exact nar_bi _ | assumption) ?_
        rfl
    · refine gd_lld0 dX9_isShake_0 ?_
      refine gd_lc0 dX9_isShake_1 ?_
      refine gd_lcmp dX9_isShake_2 ?_
      refine gd_if_lt_f 42 dX9_isShake_3 (by decide) (fun z => absurd ((lg_cmp_lt _ _).mp z) h0) ?_
      refine gd_lld0 dX9_isShake_6 ?_
      refine gd_ldc2 dX9_isShake_7 l2_9_83 ?_
      refine gd_lcmp dX9_isShake_10 ?_
      refine gd_if_ge_t 42 dX9_isShake_11 (by decide) ((lg_cmp_ge _ _).mpr ((pk_lLE (by omega) (by omega)).mpr (by omega))) ?_
      refine gd_ic0 dX9_isShake_42 ?_
      refine gd_iret dX9_isShake_43 rfl (by first | rfl | decide | exact nar_bi _ | assumption) ?_
      rfl
